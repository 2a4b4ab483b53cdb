/-! contracts and calls -/
def xQc (D : va_G) (aC ad : Nat → Nat) (b0 : Nat) (Q : Option Value → xH → Prop) : Array Value → State → Outcome → State → Prop := fun _ st o t =>
  (∃ (r : Option Value) (h : xH), o = .returned (r.map (x_v ad)) ∧ Q r h ∧ va_P D vwCl (x_ws aC ad h) t.heap ∧ t.heap.size = b0 + h.1 ∧ h.1 ≤ xN) ∧ va_F (xA b0) st t
def xPc (D : va_G) (aC ad : Nat → Nat) (b0 : Nat) (As : List Value) (h : xH) : Array Value → State → Prop := va_Pc (As.map (x_v ad)) (fun U => U.heap.size = b0 + h.1 ∧ h.1 ≤ xN ∧ va_P D vwCl (x_ws aC ad h) U.heap ∧ va_K D vwCl (xTys aC) U ∧ xT ad b0 U U.heap)
/-- method y, called with As on the heap h, returns, with Q -/
def xC (l : Launch) (y : MethodName) (cc : ByteArray) (nL : Nat) (ret : Option FieldType) (R : Room) (As : List Value) (h : xH) (Q : Option Value → xH → Prop) : Prop :=
  ∀ (D : va_G) (aC ad : Nat → Nat) (b0 : Nat), xAff ad b0 → Met l y (.code y cc nL ret :: xW) R (xPc D aC ad b0 As h) (xQc D aC ad b0 Q) R.cells R.slots (xA b0)
theorem x_lv_args (ad : Nat → Nat) : ∀ (As : List Value) (i : Nat), lv_args i (As.map (x_v ad)) = (lv_args i As).map fun q => (q.1, x_v ad q.2)
  | [], _ => rfl
  | v :: As, i => by
    simp only [List.map_cons, lv_args, x_v_cat, x_lv_args ad As]
theorem x_sl_len (ad : Nat → Nat) (As : List Value) : (lg_sl (As.map (x_v ad))).length = (lg_sl As).length := by
  induction As with
  | nil => rfl
  | cons v As ih =>
    simp only [lg_sl, List.map_cons, List.flatMap_cons, List.length_append, x_v_cat] at ih ⊢
    rw [ih]
    congr 1
    split <;> rfl
theorem xC_of {l : Launch} {y : MethodName} {cc : ByteArray} {nL : Nat} {ret : Option FieldType} {R : Room} {As : List Value} {h : xH} {Q : Option Value → xH → Prop} (ini : Bool) (hy : plainName y.cls = true) (hini : ini = true → y.name = "<init>") (hlen : (lg_sl As).length ≤ nL) (hJ : xJ l (y.cls, nL, ret, ini, R, none) cc Q 0 0 0 (lv_args 0 As) [] h) : xC l y cc nL ret R As h Q := by
  intro D aC ad b0 ha
  refine Met.ofW (cc := cc) (maxL := nL) (ret := ret) hy rfl ?_
  intro p e s m args below meth c s₁ B hml hv
  obtain ⟨rfl, hsz, hn, hP, hK, hT⟩ := hv
  have hts0 := atoms_spec (ws := Cond.code y cc nL ret :: xW) B.pre
  have hown : s.vm.findClass y.cls = some m.cls := findClass_of_methodNamed B.named
  have hnm : meth.name = y.name := (name_of_methodNamed B.named B.method).1
  have hl := lv_entry (As.map (x_v ad)) (n := nL) (by rw [x_sl_len]; exact hlen)
  rw [x_lv_args] at hl
  rw [lg_entry_eq]
  refine hJ p e s m _ below meth c D aC ad b0 s.heap [] _ _ ⟨B.exec, B.bytes, hml, B.returns, B.notSynchronized, fun z => hnm.trans (hini z), hown, fun w hw => hts0 w (List.mem_cons_of_mem _ hw), by rw [hsz]; exact Nat.le_add_right _ _, ha, hT, trivial⟩ ⟨hK, hP, va_S.rf, hsz, hn⟩ hl ?_
  intro r h1 H locs ls pc hq R1 hret
  have hF : ∀ t : State, t.heap = H → xQc D aC ad b0 Q (As.map (x_v ad)).toArray s (.returned (r.map (x_v ad))) t := fun t ht => ⟨⟨r, h1, rfl, hq, by rw [ht]; exact R1.2.1, by rw [ht]; exact R1.2.2.2.1, R1.2.2.2.2⟩, R1.2.2.1.F ht⟩
  have hlk : meth.locks = false := B.notSynchronized
  have hrt := B.returns
  match r, hret, hF with
  | none, hret, hF => exact W.vret B.exec B.bytes (hrt.trans hret.2) (fun t ht _ => hF t ht) R1.2.2.1.2.2 hret.1 hlk
  | some (.int v), hret, hF =>
    obtain ⟨d, ty, e1, e2⟩ := hret
    exact W.zret B.exec B.bytes (hrt.trans e1) e2 (fun t ht _ => hF t ht) R1.2.2.1.2.2 d hlk
  | some (.long v), hret, hF => exact W.lret B.exec B.bytes (hrt.trans hret.2) (fun t ht _ => hF t ht) R1.2.2.1.2.2 hret.1 hlk
  | some (.ref a), hret, hF =>
    obtain ⟨d, rt, e1, e2⟩ := hret
    exact W.aret (v := .ref (ad a)) B.exec B.bytes (hrt.trans e1) e2 (Or.inr ⟨_, rfl⟩) (fun t ht _ => hF t ht) R1.2.2.1.2.2 d hlk
theorem xC_post {l : Launch} {y : MethodName} {cc : ByteArray} {nL : Nat} {ret : Option FieldType} {R : Room} {As : List Value} {h : xH} {Q Q' : Option Value → xH → Prop} (k : xC l y cc nL ret R As h Q') (hq : ∀ r h, Q' r h → Q r h) : xC l y cc nL ret R As h Q := by
  intro D aC ad b0 ha p e h1 h2 h3 s m args below h4 h5 h6 h7
  obtain ⟨t, o, a1, a2, a3, ⟨⟨⟨r, h', b1, b2, b3⟩, b4⟩, b5⟩⟩ := k D aC ad b0 ha p e h1 h2 h3 s m args below h4 h5 h6 h7
  exact ⟨t, o, a1, a2, a3, ⟨⟨⟨r, h', b1, hq _ _ b2, b3⟩, b4⟩, b5⟩⟩
section XK
variable {l : Launch} {M : xM} {cc : ByteArray} {Q : Option Value → xH → Prop} {kc ks pc : Nat} {lv : List (Nat × Value)} {st stk : List Value} {h : xH}
theorem x_tol (f : Value → Value) (r : Option Value) (st : List Value) : (r.toList ++ st).map f = (r.map f).toList ++ st.map f := by cases r <;> rfl
theorem xj_run {p : Program} {e : Env} {s : State} {m : MethodId} {args : Array Value} {below : List Frame} {meth : Method} {c : Code} {D : va_G} {aC ad : Nat → Nat} {b0 : Nat} {H : Heap} {locs : List Loc} {ls : Array Slot} {Z : State → Prop} {R' : Room} {Q1 : Option Value → xH → Prop} {a : Array Value} {g : List Value}
    (C : xCx M cc p s m args meth c ad b0) (R : xRp D aC ad b0 s H locs h) (L : lv_has ls M.2.1 (lv.map fun q => (q.1, x_v ad q.2))) (E : xEnd l M cc Q p e s m args below meth c D aC ad b0 Z)
    (hr : va_Run p l e M.2.2.2.2.1 s m args below meth c H locs kc ks R'.cells R'.slots (F0 m pc ls g) (st.map (x_v ad)) (xQc D aC ad b0 Q1 a) (xA b0))
    (kk : ∀ (r : Option Value) (h1 : xH), Q1 r h1 → xJ l M cc Q (kc + R'.cells) (ks + R'.slots) (pc + 3) lv (r.toList ++ st) h1) : W p l e M.2.2.2.2.1 s m args below meth c H locs kc ks Z (F0 m pc ls g) := by
  intro T hT X
  obtain ⟨v, st₀, t, T', L1, h0, X', hL, e1, e2, ⟨⟨r, h1, hv, hq, hP1, hz1, hn1⟩, hz, hk⟩, st1⟩ := hr T hT X
  cases hv
  rw [h0] at hz hk
  have hS := R.2.2.1
  have R1 : xRp D aC ad b0 s T'.heap (locs ++ L1) h1 := ⟨R.1, by rw [e1]; exact hP1, ⟨Nat.le_trans hS.1 (by rw [e1]; exact hz), fun q g1 g2 => by rw [e1, hk q (Nat.lt_of_lt_of_le g1 hS.1) g2]; exact hS.2.1 q g1 g2, fun q hq => (List.mem_append.mp hq).elim (hS.2.2 q) (hL q)⟩, by rw [e1]; exact hz1, hn1⟩
  obtain ⟨t2, a1, b1⟩ := kk r h1 hq p e s m args below meth c D aC ad b0 T'.heap (locs ++ L1) ls Z C R1 L E T' rfl X'
  rw [x_tol] at a1
  exact ⟨t2, st1 t2 a1, b1⟩
theorem x_blind {D : va_G} {aC ad : Nat → Nat} {b0 : Nat} {As : List Value} : FrameBlind (xPc D aC ad b0 As h) := by
  intro a U g mk q
  obtain ⟨q0, q1, q2, q3, q4, q5⟩ := q
  exact ⟨q0, q1, q2, q3, va_K.moved (u := U) (U := U.calling g mk a) (Vm.Alike.refl U.vm) q4, q5.blind g mk a⟩
theorem x_pre {p : Program} {s : State} {m : MethodId} {args : Array Value} {meth : Method} {c : Code} {D : va_G} {aC ad : Nat → Nat} {b0 : Nat} {H : Heap} {locs : List Loc} {As : List Value} (C : xCx M cc p s m args meth c ad b0) (R : xRp D aC ad b0 s H locs h) (U : State) (hU : U.heap = H) (hW : s.WarmedH U.vm) : xPc D aC ad b0 As h (As.map (x_v ad)).toArray U :=
  ⟨rfl, by rw [hU]; exact R.2.2.2.1, R.2.2.2.2, by rw [hU]; exact R.2.1, va_K.moved hW.alike R.1, C.2.2.2.2.2.2.2.2.2.2.1.call R.2.2.1 hU hW⟩
/-- the callee's room fits -/
def xRm (R R' : Room) (nL kc ks : Nat) : Prop := R'.frames + 1 ≤ R.frames ∧ 8 + (nL + 11) + R'.locals ≤ R.locals ∧ kc + R'.cells ≤ R.cells ∧ ks + R'.slots ≤ R.slots
def xMH (y : MethodName) (n : Nat) : Prop := y.cls ≠ "java/lang/invoke/MethodHandle" ∧ y.cls ≠ "java/lang/invoke/VarHandle" ∧ (parseMethodDescriptor y.desc).map (fun d => d.parameters.length) = some n
def xKv (own : String) (idx : Nat) (y : MethodName) (cc : ByteArray) (nL : Nat) (ret : Option FieldType) (n : Nat) : Prop := Cond.methodLink own idx y ∈ xW ∧ Cond.instanceMethod y ∈ xW ∧ Cond.selects y.cls y y ∈ xW ∧ Cond.initialized y.cls ∈ xW ∧ Cond.code y cc nL ret ∈ xW ∧ xMH y n
theorem x_stk (ad : Nat → Nat) (As st : List Value) (b : Nat) : (As.reverse ++ .ref b :: st).map (x_v ad) = (As.map (x_v ad)).reverse ++ .ref (ad b) :: st.map (x_v ad) := by
  rw [List.map_append, List.map_reverse]; rfl
theorem x_stkS (ad : Nat → Nat) (As st : List Value) : (As.reverse ++ st).map (x_v ad) = (As.map (x_v ad)).reverse ++ st.map (x_v ad) := by
  rw [List.map_append, List.map_reverse]
theorem x_code {y : MethodName} {cc : ByteArray} {nL : Nat} {ret : Option FieldType} (h : Cond.code y cc nL ret ∈ xW) : GoodIn xW (.code y cc nL ret :: xW) := xW_in fun w hw => (List.mem_cons.mp hw).elim (fun e => e ▸ h) id
theorem xj_callV {idx n b nL' : Nat} {y : MethodName} {cc' : ByteArray} {ret' : Option FieldType} {R' : Room} {As fs : List Value} {Q1 : Option Value → xH → Prop} {ci : Nat} {x : vw_C} (K : xKv M.1 idx y cc' nL' ret' n) (hC : xC l y cc' nL' ret' R' (.ref b :: As) h Q1) (hb : b < h.1) (hq : h.2 b = .inr (.inr (ci, fs))) (hc : vwCl[ci]? = some x) (hx : x.1 = y.cls) (hs : stk = As.reverse ++ .ref b :: st) (hn : As.length = n) (hR : xRm M.2.2.2.2.1 R' nL' kc ks) (hst : (st.map fun v => v.category).sum ≤ 8) (d : decode cc pc = .ok (.invokevirtual idx, 3))
    (kk : ∀ (r : Option Value) (h1 : xH), Q1 r h1 → xJ l M cc Q (kc + R'.cells) (ks + R'.slots) (pc + 3) lv (r.toList ++ st) h1) : xJ l M cc Q kc ks pc lv stk h := by
  intro p e s m args below meth c D aC ad b0 H locs ls Z C R L E
  subst hs
  obtain ⟨k1, k2, k3, k4, k5, k6⟩ := K
  have hts := C.2.2.2.2.2.2.2.1
  have he : (x_ws aC ad h)[b]? = some (ad b, .inr (ci, fs.map (x_v ad))) := by rw [x_ws_get hb, hq]; rfl
  rw [x_stk]
  refine xj_run (a := (Value.ref (ad b) :: As.map (x_v ad)).toArray) C R L E (va_runV (C := y.cls) (b := ad b) (As := As.map (x_v ad)) (Ts := xW) ⟨C.1, C.2.1, C.2.2.1, C.2.2.2.2.2.2.1, hts⟩ (hC D aC ad b0 C.2.2.2.2.2.2.2.2.2.1) ⟨callB_of n hts (x_code k5) rfl rfl rfl (hts _ k4) (hts _ k1) k6 ⟨hR.1, hR.2.1⟩, hts _ k2, hts _ k3⟩ ⟨x_blind, ?_, fun U hU hW => x_pre (As := .ref b :: As) C R U hU hW⟩ rfl (by rw [List.length_map]; exact hn) L.1 rfl ?_ d hR.2.2) kk
  · obtain ⟨cell, g1, g2, g3⟩ := va_recv R.1 R.2.1 hc he
    exact ⟨cell, g1, g2, by rw [← hx]; exact g3⟩
  · exact lv_room (by rw [x_v_cats]; exact hst)
def xKs (own : String) (idx : Nat) (y : MethodName) (cc : ByteArray) (nL : Nat) (ret : Option FieldType) (n : Nat) : Prop := Cond.methodLink own idx y ∈ xW ∧ Cond.static y ∈ xW ∧ Cond.initialized y.cls ∈ xW ∧ Cond.code y cc nL ret ∈ xW ∧ xMH y n
theorem xj_callS {idx n nL' : Nat} {y : MethodName} {cc' : ByteArray} {ret' : Option FieldType} {R' : Room} {As : List Value} {Q1 : Option Value → xH → Prop} (K : xKs M.1 idx y cc' nL' ret' n) (hC : xC l y cc' nL' ret' R' As h Q1) (hs : stk = As.reverse ++ st) (hn : As.length = n) (hR : xRm M.2.2.2.2.1 R' nL' kc ks) (hst : (st.map fun v => v.category).sum ≤ 8) (d : decode cc pc = .ok (.invokestatic idx, 3))
    (kk : ∀ (r : Option Value) (h1 : xH), Q1 r h1 → xJ l M cc Q (kc + R'.cells) (ks + R'.slots) (pc + 3) lv (r.toList ++ st) h1) : xJ l M cc Q kc ks pc lv stk h := by
  intro p e s m args below meth c D aC ad b0 H locs ls Z C R L E
  subst hs
  obtain ⟨k1, k2, k4, k5, k6⟩ := K
  have hts := C.2.2.2.2.2.2.2.1
  rw [x_stkS]
  exact xj_run (a := (As.map (x_v ad)).toArray) C R L E (va_runS (As := As.map (x_v ad)) (Ts := xW) ⟨C.1, C.2.1, C.2.2.1, C.2.2.2.2.2.2.1, hts⟩ (hC D aC ad b0 C.2.2.2.2.2.2.2.2.2.1) ⟨callB_of n hts (x_code k5) rfl rfl rfl (hts _ k4) (hts _ k1) k6 ⟨hR.1, hR.2.1⟩, hts _ k2⟩ ⟨x_blind, fun U hU hW => x_pre (As := As) C R U hU hW⟩ rfl (by rw [List.length_map]; exact hn) L.1 rfl (lv_room (by rw [x_v_cats]; exact hst)) d hR.2.2) kk
/-- a private static method of a nest mate -/
def xKn (own : String) (idx : Nat) (y : MethodName) (host : String) (cc : ByteArray) (nL : Nat) (ret : Option FieldType) (n : Nat) : Prop := Cond.methodLinkNest own idx y host ∈ xNw ∧ Cond.static y ∈ xW ∧ Cond.initialized y.cls ∈ xW ∧ Cond.code y cc nL ret ∈ xW ∧ xMH y n
theorem xj_callSN {idx n nL' : Nat} {y : MethodName} {host : String} {cc' : ByteArray} {ret' : Option FieldType} {R' : Room} {As : List Value} {Q1 : Option Value → xH → Prop} (K : xKn M.1 idx y host cc' nL' ret' n) (hC : xC l y cc' nL' ret' R' As h Q1) (hs : stk = As.reverse ++ st) (hn : As.length = n) (hR : xRm M.2.2.2.2.1 R' nL' kc ks) (hst : (st.map fun v => v.category).sum ≤ 8) (d : decode cc pc = .ok (.invokestatic idx, 3))
    (kk : ∀ (r : Option Value) (h1 : xH), Q1 r h1 → xJ l M cc Q (kc + R'.cells) (ks + R'.slots) (pc + 3) lv (r.toList ++ st) h1) : xJ l M cc Q kc ks pc lv stk h := by
  intro p e s m args below meth c D aC ad b0 H locs ls Z C R L E
  subst hs
  obtain ⟨k1, k2, k4, k5, k6⟩ := K
  have hts := C.2.2.2.2.2.2.2.1
  rw [x_stkS]
  exact xj_run (a := (As.map (x_v ad)).toArray) C R L E (va_runSN (As := As.map (x_v ad)) (Ts := xW) (host := host) ⟨C.1, C.2.1, C.2.2.1, C.2.2.2.2.2.2.1, hts⟩ (hC D aC ad b0 C.2.2.2.2.2.2.2.2.2.1) ⟨va_cnB n hts (x_code k5) rfl rfl rfl (C.2.2.2.2.2.2.2.2.2.2.1.1 _ k1) (hts _ k4) k6 ⟨hR.1, hR.2.1⟩, hts _ k2, trivial⟩ ⟨x_blind, fun U hU hW => x_pre (As := As) C R U hU hW⟩ rfl (by rw [List.length_map]; exact hn) L.1 rfl (lv_room (by rw [x_v_cats]; exact hst)) d hR.2.2) kk
/-- a constructor -/
def xKi (own : String) (idx : Nat) (y : MethodName) (cc : ByteArray) (nL : Nat) (n : Nat) : Prop := Cond.methodLink own idx y ∈ xW ∧ Cond.instanceMethod y ∈ xW ∧ Cond.initialized y.cls ∈ xW ∧ Cond.code y cc nL none ∈ xW ∧ y.name = "<init>" ∧ xMH y n
theorem xj_callI {idx n b nL' : Nat} {y : MethodName} {cc' : ByteArray} {R' : Room} {As : List Value} {Q1 : Option Value → xH → Prop} (K : xKi M.1 idx y cc' nL' n) (hC : xC l y cc' nL' none R' (.ref b :: As) h Q1) (hs : stk = As.reverse ++ .ref b :: st) (hn : As.length = n) (hR : xRm M.2.2.2.2.1 R' nL' kc ks) (hst : (st.map fun v => v.category).sum ≤ 8) (d : decode cc pc = .ok (.invokespecial idx, 3))
    (kk : ∀ (r : Option Value) (h1 : xH), Q1 r h1 → xJ l M cc Q (kc + R'.cells) (ks + R'.slots) (pc + 3) lv (r.toList ++ st) h1) : xJ l M cc Q kc ks pc lv stk h := by
  intro p e s m args below meth c D aC ad b0 H locs ls Z C R L E
  subst hs
  obtain ⟨k1, k2, k4, k5, k7, k6⟩ := K
  have hts := C.2.2.2.2.2.2.2.1
  rw [x_stk]
  exact xj_run (a := (Value.ref (ad b) :: As.map (x_v ad)).toArray) C R L E (va_runI (b := ad b) (As := As.map (x_v ad)) (Ts := xW) ⟨C.1, C.2.1, C.2.2.1, C.2.2.2.2.2.2.1, hts⟩ (hC D aC ad b0 C.2.2.2.2.2.2.2.2.2.1) ⟨callB_of n hts (x_code k5) rfl rfl rfl (hts _ k4) (hts _ k1) k6 ⟨hR.1, hR.2.1⟩, k7, hts _ k2⟩ ⟨x_blind, fun U hU hW => x_pre (As := .ref b :: As) C R U hU hW⟩ rfl (by rw [List.length_map]; exact hn) L.1 rfl (lv_room (by rw [x_v_cats]; exact hst)) d hR.2.2) kk
/-- a private constructor of a nest mate -/
def xKj (own : String) (idx : Nat) (y : MethodName) (host : String) (cc : ByteArray) (nL : Nat) (n : Nat) : Prop := Cond.methodLinkNest own idx y host ∈ xNw ∧ Cond.instanceMethod y ∈ xW ∧ Cond.initialized y.cls ∈ xW ∧ Cond.code y cc nL none ∈ xW ∧ y.name = "<init>" ∧ xMH y n
theorem xj_callIN {idx n b nL' : Nat} {y : MethodName} {host : String} {cc' : ByteArray} {R' : Room} {As : List Value} {Q1 : Option Value → xH → Prop} (K : xKj M.1 idx y host cc' nL' n) (hC : xC l y cc' nL' none R' (.ref b :: As) h Q1) (hs : stk = As.reverse ++ .ref b :: st) (hn : As.length = n) (hR : xRm M.2.2.2.2.1 R' nL' kc ks) (hst : (st.map fun v => v.category).sum ≤ 8) (d : decode cc pc = .ok (.invokespecial idx, 3))
    (kk : ∀ (r : Option Value) (h1 : xH), Q1 r h1 → xJ l M cc Q (kc + R'.cells) (ks + R'.slots) (pc + 3) lv (r.toList ++ st) h1) : xJ l M cc Q kc ks pc lv stk h := by
  intro p e s m args below meth c D aC ad b0 H locs ls Z C R L E
  subst hs
  obtain ⟨k1, k2, k4, k5, k7, k6⟩ := K
  have hts := C.2.2.2.2.2.2.2.1
  rw [x_stk]
  exact xj_run (a := (Value.ref (ad b) :: As.map (x_v ad)).toArray) C R L E (va_runIN (b := ad b) (As := As.map (x_v ad)) (Ts := xW) (host := host) ⟨C.1, C.2.1, C.2.2.1, C.2.2.2.2.2.2.1, hts⟩ (hC D aC ad b0 C.2.2.2.2.2.2.2.2.2.1) ⟨va_cnB n hts (x_code k5) rfl rfl rfl (C.2.2.2.2.2.2.2.2.2.2.1.1 _ k1) (hts _ k4) k6 ⟨hR.1, hR.2.1⟩, k7, hts _ k2⟩ ⟨x_blind, fun U hU hW => x_pre (As := .ref b :: As) C R U hU hW⟩ rfl (by rw [List.length_map]; exact hn) L.1 rfl (lv_room (by rw [x_v_cats]; exact hst)) d hR.2.2) kk
/-- a method named x of the receiver's class Cn, which selects y -/
def xKu (own : String) (idx : Nat) (Cn : String) (x y : MethodName) (b0 : ByteArray) (m0 : Nat) (r0 : Option FieldType) (cc : ByteArray) (nL : Nat) (ret : Option FieldType) (n : Nat) : Prop := Cond.methodLink own idx x ∈ xW ∧ Cond.sameMethod x.cls x.cls x.name x.desc ∈ xW ∧ Cond.instanceMethod x ∈ xW ∧ Cond.code x b0 m0 r0 ∈ xW ∧ Cond.selects Cn x y ∈ xW ∧ Cond.instanceMethod y ∈ xW ∧ Cond.initialized y.cls ∈ xW ∧ Cond.code y cc nL ret ∈ xW ∧ xMH x n
theorem xj_callU {idx n b nL' : Nat} {Cn : String} {x y : MethodName} {b1 : ByteArray} {m1 : Nat} {r1 : Option FieldType} {cc' : ByteArray} {ret' : Option FieldType} {R' : Room} {As fs : List Value} {Q1 : Option Value → xH → Prop} {ci : Nat} {z : vw_C} (K : xKu M.1 idx Cn x y b1 m1 r1 cc' nL' ret' n) (hC : xC l y cc' nL' ret' R' (.ref b :: As) h Q1) (hb : b < h.1) (hq : h.2 b = .inr (.inr (ci, fs))) (hc : vwCl[ci]? = some z) (hx : z.1 = Cn) (hs : stk = As.reverse ++ .ref b :: st) (hn : As.length = n) (hR : xRm M.2.2.2.2.1 R' nL' kc ks) (hst : (st.map fun v => v.category).sum ≤ 8) (d : decode cc pc = .ok (.invokevirtual idx, 3))
    (kk : ∀ (r : Option Value) (h1 : xH), Q1 r h1 → xJ l M cc Q (kc + R'.cells) (ks + R'.slots) (pc + 3) lv (r.toList ++ st) h1) : xJ l M cc Q kc ks pc lv stk h := by
  intro p e s m args below meth c D aC ad b0 H locs ls Z C R L E
  subst hs
  obtain ⟨k1, k2, k3, k4, k5, k6, k7, k8, k9, k10, k11⟩ := K
  have hts := C.2.2.2.2.2.2.2.1
  have he : (x_ws aC ad h)[b]? = some (ad b, .inr (ci, fs.map (x_v ad))) := by rw [x_ws_get hb, hq]; rfl
  rw [x_stk]
  refine xj_run (a := (Value.ref (ad b) :: As.map (x_v ad)).toArray) C R L E (va_runU (n := n) (C := Cn) (owner := x.cls) (x := x) (b := ad b) (As := As.map (x_v ad)) (Ts := xW) ⟨C.1, C.2.1, C.2.2.1, C.2.2.2.2.2.2.1, hts⟩ (hC D aC ad b0 C.2.2.2.2.2.2.2.2.2.1) ⟨⟨rfl, rfl, hR.1, hR.2.1, pay_in hts (x_code k8), List.mem_cons_self⟩, hts _ k8, hts _ k7, ⟨k9, k10⟩, fun sig hsig => ?_, hts _ k1, hts _ k2, va_Decl.of (hts _ k3) (hts _ k4), hts _ k5, hts _ k6⟩ ⟨x_blind, ?_, fun U hU hW => x_pre (As := .ref b :: As) C R U hU hW⟩ rfl (by rw [List.length_map]; exact hn) L.1 rfl ?_ d hR.2.2) kk
  · rw [hsig] at k11
    exact (Option.some.inj k11).symm
  · obtain ⟨cell, g1, g2, g3⟩ := va_recv R.1 R.2.1 hc he
    exact ⟨cell, g1, g2, by rw [← hx]; exact g3⟩
  · exact lv_room (by rw [x_v_cats]; exact hst)
/-- super.y() -/
def xKp (own : String) (idx : Nat) (y : MethodName) (cc : ByteArray) (nL : Nat) (ret : Option FieldType) (n : Nat) : Prop := Cond.methodLink own idx y ∈ xW ∧ Cond.sameMethod y.cls y.cls y.name y.desc ∈ xW ∧ Cond.superclass own y.cls ∈ xW ∧ Cond.instanceMethod y ∈ xW ∧ Cond.initialized y.cls ∈ xW ∧ Cond.code y cc nL ret ∈ xW ∧ y.name ≠ "<init>" ∧ (parseMethodDescriptor y.desc).map (fun d => d.parameters.length) = some n
theorem xj_callSU {idx n b nL' : Nat} {y : MethodName} {cc' : ByteArray} {ret' : Option FieldType} {R' : Room} {As fs : List Value} {Q1 : Option Value → xH → Prop} {ci : Nat} {z : vw_C} (K : xKp M.1 idx y cc' nL' ret' n) (hC : xC l y cc' nL' ret' R' (.ref b :: As) h Q1) (hb : b < h.1) (hq : h.2 b = .inr (.inr (ci, fs))) (hc : vwCl[ci]? = some z) (hs : stk = As.reverse ++ .ref b :: st) (hn : As.length = n) (hR : xRm M.2.2.2.2.1 R' nL' kc ks) (hst : (st.map fun v => v.category).sum ≤ 8) (d : decode cc pc = .ok (.invokespecial idx, 3))
    (kk : ∀ (r : Option Value) (h1 : xH), Q1 r h1 → xJ l M cc Q (kc + R'.cells) (ks + R'.slots) (pc + 3) lv (r.toList ++ st) h1) : xJ l M cc Q kc ks pc lv stk h := by
  intro p e s m args below meth c D aC ad b0 H locs ls Z C R L E
  subst hs
  obtain ⟨k1, k2, k3, k4, k5, k6, k7, k8⟩ := K
  have hts := C.2.2.2.2.2.2.2.1
  have he : (x_ws aC ad h)[b]? = some (ad b, .inr (ci, fs.map (x_v ad))) := by rw [x_ws_get hb, hq]; rfl
  rw [x_stk]
  refine xj_run (a := (Value.ref (ad b) :: As.map (x_v ad)).toArray) C R L E (va_runSU (n := n) (C := z.1) (b := ad b) (As := As.map (x_v ad)) (Ts := xW) (R.1.1 ci z hc).2 ⟨C.1, C.2.1, C.2.2.1, C.2.2.2.2.2.2.1, hts⟩ (hC D aC ad b0 C.2.2.2.2.2.2.2.2.2.1) ⟨⟨rfl, rfl, hR.1, hR.2.1, pay_in hts (x_code k6), List.mem_cons_self⟩, hts _ k1, hts _ k2, hts _ k3, hts _ k4, hts _ k5, hts _ k6, k7, fun sig hsig => ?_⟩ ⟨x_blind, va_recv R.1 R.2.1 hc he, fun U hU hW => x_pre (As := .ref b :: As) C R U hU hW⟩ rfl (by rw [List.length_map]; exact hn) L.1 rfl ?_ d hR.2.2) kk
  · rw [hsig] at k8
    exact (Option.some.inj k8).symm
  · exact lv_room (by rw [x_v_cats]; exact hst)
theorem xk_i {Q1 : Int32 → xH → Prop} {kc ks pc : Nat} (kk : ∀ (v : Int32) (h1 : xH), Q1 v h1 → xJ l M cc Q kc ks pc lv (.int v :: st) h1) : ∀ (r : Option Value) (h1 : xH), (∃ v, r = some (.int v) ∧ Q1 v h1) → xJ l M cc Q kc ks pc lv (r.toList ++ st) h1 := by
  rintro _ h1 ⟨v, rfl, hq⟩
  exact kk v h1 hq
theorem xk_l {Q1 : Int64 → xH → Prop} {kc ks pc : Nat} (kk : ∀ (v : Int64) (h1 : xH), Q1 v h1 → xJ l M cc Q kc ks pc lv (.long v :: st) h1) : ∀ (r : Option Value) (h1 : xH), (∃ v, r = some (.long v) ∧ Q1 v h1) → xJ l M cc Q kc ks pc lv (r.toList ++ st) h1 := by
  rintro _ h1 ⟨v, rfl, hq⟩
  exact kk v h1 hq
theorem xk_r {Q1 : Nat → xH → Prop} {kc ks pc : Nat} (kk : ∀ (v : Nat) (h1 : xH), Q1 v h1 → xJ l M cc Q kc ks pc lv (.ref v :: st) h1) : ∀ (r : Option Value) (h1 : xH), (∃ v, r = some (.ref v) ∧ Q1 v h1) → xJ l M cc Q kc ks pc lv (r.toList ++ st) h1 := by
  rintro _ h1 ⟨v, rfl, hq⟩
  exact kk v h1 hq
theorem xk_v {Q1 : xH → Prop} {kc ks pc : Nat} (kk : ∀ (h1 : xH), Q1 h1 → xJ l M cc Q kc ks pc lv st h1) : ∀ (r : Option Value) (h1 : xH), (r = none ∧ Q1 h1) → xJ l M cc Q kc ks pc lv (r.toList ++ st) h1 := by
  rintro _ h1 ⟨rfl, hq⟩
  exact kk h1 hq
end XK
