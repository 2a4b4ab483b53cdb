/-! THE NAMED HEAP: a layer over the kit's rows. Cells have names 0, 1, 2 .. in the order in which they are made; name q lies at the address b0 + q. A heap is a number of names and what each name holds (references are names). xJ: from this place in a method's code, with these locals, this stack, this heap, the method comes to its end with Q. xC: a method's contract. -/
def xW : List Cond := lw_tbl.filter goodWord
theorem xW_of {w : Cond} (h : w ∈ lw_tbl) (g : goodWord w = true) : w ∈ xW := List.mem_filter.mpr ⟨h, g⟩
theorem xW_good : GoodIn xW xW := fun _ h => ⟨h, good_of_word (List.mem_filter.mp h).2⟩
theorem xW_in {ws : List Cond} (h : ∀ w ∈ ws, w ∈ xW) : GoodIn xW ws := fun w hw => xW_good w (h w hw)
abbrev xE : Type := (Nat × (Nat → Int32)) ⊕ (Nat × Nat × (Nat → Option Nat)) ⊕ (Nat × List Value)
abbrev xH : Type := Nat × (Nat → xE)
def xN : Nat := 1048576
def x_v (ad : Nat → Nat) (v : Value) : Value := match v with
  | .ref a => .ref (ad a)
  | w => w
theorem x_v_cat (ad : Nat → Nat) (v : Value) : (x_v ad v).category = v.category := by cases v <;> rfl
theorem x_v_cats (ad : Nat → Nat) (st : List Value) : ((st.map (x_v ad)).map fun v => v.category) = st.map fun v => v.category := by
  rw [List.map_map]
  exact List.map_congr_left fun v _ => x_v_cat ad v
def x_e (aC ad : Nat → Nat) (e : xE) : va_E := match e with
  | .inl x => .inl (aC 0, (x.1, .inl x.2))
  | .inr (.inl x) => .inl (aC x.1, (x.2.1, .inr (.inr (.inr (.inr (fun j => (x.2.2 j).map ad))))))
  | .inr (.inr o) => .inr (o.1, o.2.map (x_v ad))
def x_ws (aC ad : Nat → Nat) (h : xH) : va_W := (List.range h.1).map fun q => (ad q, x_e aC ad (h.2 q))
theorem x_ws_get {aC ad : Nat → Nat} {h : xH} {q : Nat} (hq : q < h.1) : (x_ws aC ad h)[q]? = some (ad q, x_e aC ad (h.2 q)) := by
  simp [x_ws, hq]
theorem x_ws_inv {aC ad : Nat → Nat} {h : xH} {k : Nat} {p : Nat × va_E} (hk : (x_ws aC ad h)[k]? = some p) : k < h.1 ∧ p = (ad k, x_e aC ad (h.2 k)) := by
  have hl : k < (x_ws aC ad h).length := (List.getElem?_eq_some_iff.mp hk).1
  have hk2 : k < h.1 := by simpa [x_ws] using hl
  rw [x_ws_get hk2] at hk
  exact ⟨hk2, (Option.some.inj hk).symm⟩
theorem x_ws_set (aC ad : Nat → Nat) (h : xH) (q : Nat) (e : xE) : (x_ws aC ad h).set q (ad q, x_e aC ad e) = x_ws aC ad (h.1, va_up h.2 q e) := by
  apply List.ext_getElem?
  intro i
  by_cases hi : i < h.1
  · rw [x_ws_get (h := (h.1, va_up h.2 q e)) hi]
    by_cases hq : q = i
    · subst hq
      rw [List.getElem?_set_self (by simpa [x_ws] using hi)]
      simp [va_up]
    · rw [List.getElem?_set_ne hq, x_ws_get hi]
      simp [va_up, Ne.symm hq]
  · rw [List.getElem?_eq_none (by simpa [x_ws] using Nat.le_of_not_lt hi), List.getElem?_eq_none (by simpa [x_ws] using Nat.le_of_not_lt hi)]
theorem x_ws_push (aC ad : Nat → Nat) (h : xH) (e : xE) : x_ws aC ad h ++ [(ad h.1, x_e aC ad e)] = x_ws aC ad (h.1 + 1, va_up h.2 h.1 e) := by
  unfold x_ws
  rw [List.range_succ, List.map_append]
  congr 1
  · exact List.map_congr_left fun q hq => by
      have : q ≠ h.1 := Nat.ne_of_lt (List.mem_range.mp hq)
      simp [va_up, this]
  · simp [va_up]
def xAff (ad : Nat → Nat) (b0 : Nat) : Prop := ∀ q, q < xN → ad q = b0 + q
abbrev xTys (aC : Nat → Nat) : List (ClassId × FieldType) := [(aC 0, .int), (aC 1, .object RX4), (aC 2, .object RX7), (aC 3, .object RX8), (aC 4, .object RX10)]
abbrev xA (b0 : Nat) : Nat → Prop := fun q => b0 ≤ q
theorem x_D {aC ad : Nat → Nat} {b0 : Nat} {h : xH} (ha : xAff ad b0) (hn : h.1 ≤ xN) : va_D (xA b0) (x_ws aC ad h) := by
  refine ⟨fun i j p q hi hj hpq => ?_, fun k q hk => ?_⟩
  · obtain ⟨h1, rfl⟩ := x_ws_inv hi
    obtain ⟨h2, rfl⟩ := x_ws_inv hj
    have e1 := ha i (by omega)
    have e2 := ha j (by omega)
    dsimp only at hpq
    omega
  · obtain ⟨h1, rfl⟩ := x_ws_inv hk
    have e1 := ha k (by omega)
    show b0 ≤ ad k
    omega
/-- the heap stands for h -/
def xRp (D : va_G) (aC ad : Nat → Nat) (b0 : Nat) (s : State) (H : Heap) (locs : List Loc) (h : xH) : Prop :=
  va_K D vwCl (xTys aC) s ∧ va_P D vwCl (x_ws aC ad h) H ∧ va_S (xA b0) s.heap H locs ∧ H.size = b0 + h.1 ∧ h.1 ≤ xN
theorem xRp.set {D : va_G} {aC ad : Nat → Nat} {b0 : Nat} {s : State} {H H1 : Heap} {locs : List Loc} {h : xH} (R : xRp D aC ad b0 s H locs h) (ha : xAff ad b0) {q k : Nat} {e : xE} (hq : q < h.1) (z : H1.size = H.size) (oq : ∀ x : Nat, x ≠ ad q → H1[x]? = H[x]?) (he : va_at D vwCl (ad q, x_e aC ad e) H1) : xRp D aC ad b0 s H1 (locs ++ [⟨ad q, k⟩]) (h.1, va_up h.2 q e) := by
  obtain ⟨hK, hP, hS, hz, hn⟩ := R
  have hD : va_D (xA b0) (x_ws aC ad h) := x_D ha hn
  refine ⟨hK, ?_, hS.put z oq (hD.2 q _ (x_ws_get hq)), by rw [z]; exact hz, hn⟩
  rw [← x_ws_set]
  exact hP.set hD (x_ws_get hq) he oq
theorem xRp.push {D : va_G} {aC ad : Nat → Nat} {b0 : Nat} {s : State} {H H1 : Heap} {locs : List Loc} {h : xH} (R : xRp D aC ad b0 s H locs h) (ha : xAff ad b0) {e : xE} (hn1 : h.1 < xN) (z : H1.size = H.size + 1) (o : ∀ x : Nat, x < H.size → H1[x]? = H[x]?) (he : va_at D vwCl (ad h.1, x_e aC ad e) H1) : xRp D aC ad b0 s H1 locs (h.1 + 1, va_up h.2 h.1 e) := by
  obtain ⟨hK, hP, hS, hz, hn⟩ := R
  refine ⟨hK, ?_, ⟨Nat.le_trans hS.1 (by omega), fun x h1 h2 => (o x (Nat.lt_of_lt_of_le h1 hS.1)).trans (hS.2.1 x h1 h2), hS.2.2⟩, by rw [z, hz]; rfl, hn1⟩
  rw [← x_ws_push]
  refine (hP.kept fun k p hk => o p.1 ((hP k p hk).lt)).app fun k p hk => ?_
  have hz1 : k < 1 := (List.getElem?_eq_some_iff.mp hk).1
  rw [show k = 0 by omega] at hk
  cases hk
  exact he
/-- the class, its locals, what it gives back, whether it is a constructor, its room, the script -/
abbrev xM : Type := String × Nat × Option FieldType × Bool × Room × Option (Nat × (Nat → Int32))
def xScr (ad : Nat → Nat) (b0 : Nat) (s : State) (b : Option (Nat × (Nat → Int32))) : Prop := match b with
  | none => True
  | some x => va_X (ad (xN + 3)) x.1 x.2 s s.heap ∧ ad (xN + 3) < b0
def xNw : List Cond := [.methodLinkNest RX11 61 yX9_init RX11, .methodLinkNest RX11 68 yX8_init RX11, .methodLinkNest RX10 21 yX11_within RX11, .methodLinkNest RX0 14 yX11_has RX11, .methodLinkNest RX7 59 yX11_has RX11, .methodLinkNest RX1 13 yX11_has RX11, .methodLinkNest RX6 10 yX11_has RX11, .castable "[I" "java/lang/Cloneable", .castable RX0 RX6, .castable RX2 RX1, .castable RX6 RX4, .castable RX1 RX4, .castable RX0 RX4, .castable RX2 RX4, .castable RX5 RX4]
/-- pairs of kinds said not castable -/
def xNc : List (String × String) := [(RX4, RX6), (RX1, RX6), (RX2, RX6), (RX5, RX6), (RX4, RX1), (RX6, RX1), (RX0, RX1), (RX5, RX1), (RX4, RX0), (RX6, RX0), (RX1, RX0), (RX2, RX0), (RX5, RX0), (RX4, RX2), (RX6, RX2), (RX1, RX2), (RX0, RX2), (RX5, RX2), (RX4, RX5), (RX6, RX5), (RX1, RX5), (RX0, RX5), (RX2, RX5)]
def xAO : List String := [RX4, RX7, RX8, RX10]
def xWords : String := "dulls limit costs or and not column row dull night more behind "
def xBytes : List Int32 := [100, 117, 108, 108, 115, 32, 108, 105, 109, 105, 116, 32, 99, 111, 115, 116, 115, 32, 111, 114, 32, 97, 110, 100, 32, 110, 111, 116, 32, 99, 111, 108, 117, 109, 110, 32, 114, 111, 119, 32, 100, 117, 108, 108, 32, 110, 105, 103, 104, 116, 32, 109, 111, 114, 101, 32, 98, 101, 104, 105, 110, 100, 32]
/-- what never changes: words that a warm machine keeps; the String constant (name xN, its bytes xN + 1); two statics of the JDK's (a formatter: null, or name xN + 2) -/
def xT (ad : Nat → Nat) (b0 : Nat) (U : State) (H : Heap) : Prop :=
  (∀ w ∈ xNw, va_Nw w U) ∧ (∀ q ∈ xNc, va_Nc q.1 q.2 U) ∧ (∀ C ∈ xAO, va_AO C U) ∧ vk_R RX9 100 xWords (ad xN) U ∧
  vk_S 1 [63] [xBytes] (fun _ => ad xN) (fun _ => ad (xN + 1)) (xA b0) U H ∧ va_Z "java/lang/String" "COMPACT_STRINGS" "Z" (.int 1) (xA b0) U H ∧
  (va_Z "jdk/internal/util/Preconditions" "SIOOBE_FORMATTER" "Ljava/util/function/BiFunction;" .null (xA b0) U H ∨ va_Z "jdk/internal/util/Preconditions" "SIOOBE_FORMATTER" "Ljava/util/function/BiFunction;" (.ref (ad (xN + 2))) (xA b0) U H)
theorem xNw_warm {s U : State} (hW : s.WarmedH U.vm) {w : Cond} (h : w ∈ xNw) (hz : va_Nw w s) : va_Nw w U := by
  simp only [xNw, List.mem_cons, List.not_mem_nil, or_false] at h
  rcases h with rfl | rfl | rfl | rfl | rfl | rfl | rfl | rfl | rfl | rfl | rfl | rfl | rfl | rfl | rfl <;> first | exact va_Nw.warmM hW hz | exact va_Nw.warmC hW hz
theorem xNw_same {u U : State} (hv : u.vm = U.vm) {w : Cond} (h : w ∈ xNw) (hz : va_Nw w u) : va_Nw w U := by
  simp only [xNw, List.mem_cons, List.not_mem_nil, or_false] at h
  rcases h with rfl | rfl | rfl | rfl | rfl | rfl | rfl | rfl | rfl | rfl | rfl | rfl | rfl | rfl | rfl <;> exact va_Nw.same rfl hv hz
theorem xT.call {ad : Nat → Nat} {b0 : Nat} {s U : State} {H : Heap} {locs : List Loc} (h : xT ad b0 s s.heap) (hS : va_S (xA b0) s.heap H locs) (hU : U.heap = H) (hW : s.WarmedH U.vm) : xT ad b0 U U.heap := by
  obtain ⟨h1, h2, h3, h4, h5, h6, h7⟩ := h
  have hq : ∀ a : Nat, a < s.heap.size → ¬ xA b0 a → U.heap[a]? = s.heap[a]? := fun a g1 g2 => by rw [hU]; exact hS.2.1 a g1 g2
  exact ⟨fun w hw => xNw_warm hW hw (h1 w hw), fun q hq2 => (h2 q hq2).moved hW.alike, fun C hC => (h3 C hC).moved hW.alike, h4.warm hW, (h5.moved hW.alike).kept hq, (h6.moved hW.alike).kept hq, h7.elim (fun g => Or.inl ((g.moved hW.alike).kept hq)) (fun g => Or.inr ((g.moved hW.alike).kept hq))⟩
theorem xT.blind {ad : Nat → Nat} {b0 : Nat} {U : State} (g : JFrame) (mk : MethodId) (a : Array Value) (h : xT ad b0 U U.heap) : xT ad b0 (U.calling g mk a) (U.calling g mk a).heap := by
  obtain ⟨h1, h2, h3, h4, h5, h6, h7⟩ := h
  have al : U.vm.Alike (U.calling g mk a).vm := Vm.Alike.refl U.vm
  exact ⟨fun w hw => xNw_same (u := U) (U := U.calling g mk a) rfl hw (h1 w hw), fun q hq2 => va_Nc.moved al (h2 q hq2), fun C hC => va_AO.moved al (h3 C hC), vk_R.same (u := U) rfl h4, vk_S.moved al h5, va_Z.moved al h6, h7.elim (fun g => Or.inl (va_Z.moved al g)) (fun g => Or.inr (va_Z.moved al g))⟩
def xCx (M : xM) (cc : ByteArray) (p : Program) (s : State) (m : MethodId) (args : Array Value) (meth : Method) (c : Code) (ad : Nat → Nat) (b0 : Nat) : Prop :=
  p.tables.exec = Jvm.exec ∧ c.code = cc ∧ c.maxLocals = M.2.1 ∧ meth.sig.returnType = M.2.2.1 ∧ meth.locks = false ∧ (M.2.2.2.1 = true → meth.name = "<init>") ∧ s.vm.findClass M.1 = some m.cls ∧ (∀ w ∈ xW, w.before args s = true) ∧ b0 ≤ s.heap.size ∧ xAff ad b0 ∧ xT ad b0 s s.heap ∧ xScr ad b0 s M.2.2.2.2.2
def xRet (cc : ByteArray) (pc : Nat) (ret : Option FieldType) (r : Option Value) : Prop := match r with
  | none => decode cc pc = .ok (.return_, 1) ∧ ret = none
  | some (.int v) => decode cc pc = .ok (.ireturn, 1) ∧ ∃ ty, ret = some ty ∧ narrow ty (.int v) = .int v
  | some (.long _) => decode cc pc = .ok (.lreturn, 1) ∧ ret = some .long
  | some (.ref _) => decode cc pc = .ok (.areturn, 1) ∧ ∃ rt, ret = some rt ∧ ((∃ n, rt = .object n) ∨ ∃ t, rt = .array t)
  | _ => False
def xEnd (l : Launch) (M : xM) (cc : ByteArray) (Q : Option Value → xH → Prop) (p : Program) (e : Env) (s : State) (m : MethodId) (args : Array Value) (below : List Frame) (meth : Method) (c : Code) (D : va_G) (aC ad : Nat → Nat) (b0 : Nat) (Z : State → Prop) : Prop :=
  ∀ (r : Option Value) (h : xH) (H : Heap) (locs : List Loc) (ls : Array Slot) (pc : Nat), Q r h → xRp D aC ad b0 s H locs h → xRet cc pc M.2.2.1 r → W p l e M.2.2.2.2.1 s m args below meth c H locs M.2.2.2.2.1.cells M.2.2.2.2.1.slots Z (F0 m pc ls (r.toList.map (x_v ad)))
def xJ (l : Launch) (M : xM) (cc : ByteArray) (Q : Option Value → xH → Prop) (kc ks pc : Nat) (lv : List (Nat × Value)) (st : List Value) (h : xH) : Prop :=
  ∀ (p : Program) (e : Env) (s : State) (m : MethodId) (args : Array Value) (below : List Frame) (meth : Method) (c : Code) (D : va_G) (aC ad : Nat → Nat) (b0 : Nat) (H : Heap) (locs : List Loc) (ls : Array Slot) (Z : State → Prop),
    xCx M cc p s m args meth c ad b0 → xRp D aC ad b0 s H locs h → lv_has ls M.2.1 (lv.map fun q => (q.1, x_v ad q.2)) → xEnd l M cc Q p e s m args below meth c D aC ad b0 Z →
    W p l e M.2.2.2.2.1 s m args below meth c H locs kc ks Z (F0 m pc ls (st.map (x_v ad)))
section XJ
variable {l : Launch} {M : xM} {cc : ByteArray} {Q : Option Value → xH → Prop} {kc ks pc : Nat} {lv : List (Nat × Value)} {st : List Value} {h : xH}
theorem xj_eq {st' : List Value} {h' : xH} {lv' : List (Nat × Value)} (e1 : lv = lv') (e2 : st = st') (e3 : h = h') (k : xJ l M cc Q kc ks pc lv' st' h') : xJ l M cc Q kc ks pc lv st h := by
  subst e1; subst e2; subst e3; exact k
theorem xj_post {Q' : Option Value → xH → Prop} (k : xJ l M cc Q' kc ks pc lv st h) (hq : ∀ r h, Q' r h → Q r h) : xJ l M cc Q kc ks pc lv st h := by
  intro p e s m args below meth c D aC ad b0 H locs ls Z C R L E
  exact k p e s m args below meth c D aC ad b0 H locs ls Z C R L fun r h H locs ls pc q => E r h H locs ls pc (hq r h q)
/-- the heap counts on its names alone -/
theorem x_ws_congr {aC ad : Nat → Nat} {h h' : xH} (e1 : h.1 = h'.1) (e2 : ∀ q, q < h.1 → h.2 q = h'.2 q) : x_ws aC ad h = x_ws aC ad h' := by
  unfold x_ws
  rw [← e1]
  exact List.map_congr_left fun q hq => by rw [e2 q (List.mem_range.mp hq)]
theorem xRp.congr {D : va_G} {aC ad : Nat → Nat} {b0 : Nat} {s : State} {H : Heap} {locs : List Loc} {h h' : xH} (R : xRp D aC ad b0 s H locs h) (e1 : h.1 = h'.1) (e2 : ∀ q, q < h.1 → h.2 q = h'.2 q) : xRp D aC ad b0 s H locs h' := by
  obtain ⟨hK, hP, hS, hz, hn⟩ := R
  exact ⟨hK, by rw [← x_ws_congr e1 e2]; exact hP, hS, by rw [← e1]; exact hz, by rw [← e1]; exact hn⟩
theorem xj_heap {h' : xH} (e1 : h.1 = h'.1) (e2 : ∀ q, q < h.1 → h.2 q = h'.2 q) (k : xJ l M cc Q kc ks pc lv st h') : xJ l M cc Q kc ks pc lv st h := by
  intro p e s m args below meth c D aC ad b0 H locs ls Z C R L E
  exact k p e s m args below meth c D aC ad b0 H locs ls Z C (R.congr e1 e2) L E
theorem xj_sub {lv' : List (Nat × Value)} (ks' : List Nat) (e : lv_pick lv ks' = lv') (k : xJ l M cc Q kc ks pc lv' st h) : xJ l M cc Q kc ks pc lv st h := by
  intro p e1 s m args below meth c D aC ad b0 H locs ls Z C R L E
  refine k p e1 s m args below meth c D aC ad b0 H locs ls Z C R ⟨L.1, L.2.1, fun q hq => ?_⟩ E
  obtain ⟨q0, h0, rfl⟩ := List.mem_map.mp hq
  rw [← e] at h0
  obtain ⟨i, -, hi⟩ := List.mem_filterMap.mp h0
  exact L.2.2 _ (List.mem_map.mpr ⟨q0, List.mem_of_getElem? hi, rfl⟩)
theorem xj_names (k : h.1 ≤ xN → xJ l M cc Q kc ks pc lv st h) : xJ l M cc Q kc ks pc lv st h := by
  intro p e s m args below meth c D aC ad b0 H locs ls Z C R L E
  exact k R.2.2.2.2 p e s m args below meth c D aC ad b0 H locs ls Z C R L E
theorem xj_widen {kc' ks' : Nat} (h1 : kc ≤ kc') (h2 : ks ≤ ks') (k : xJ l M cc Q kc' ks' pc lv st h) : xJ l M cc Q kc ks pc lv st h := by
  intro p e s m args below meth c D aC ad b0 H locs ls Z C R L E
  exact W.widen h1 h2 (k p e s m args below meth c D aC ad b0 H locs ls Z C R L E)
theorem x_filt1 (ad : Nat → Nat) (lv : List (Nat × Value)) (i : Nat) : (lv.map fun q => (q.1, x_v ad q.2)).filter (fun q => !(q.1 == i) && !(q.1 + 1 == i && q.2.category == 2)) = (lv.filter (fun q => !(q.1 == i) && !(q.1 + 1 == i && q.2.category == 2))).map fun q => (q.1, x_v ad q.2) := by
  rw [List.filter_map]
  congr 1
  refine List.filter_congr fun q _ => ?_
  simp only [Function.comp, x_v_cat]
theorem x_filt2 (ad : Nat → Nat) (lv : List (Nat × Value)) (i : Nat) : (lv.map fun q => (q.1, x_v ad q.2)).filter (fun q => !(q.1 == i) && (!(q.1 == i + 1) && !(q.1 + 1 == i && q.2.category == 2))) = (lv.filter (fun q => !(q.1 == i) && (!(q.1 == i + 1) && !(q.1 + 1 == i && q.2.category == 2)))).map fun q => (q.1, x_v ad q.2) := by
  rw [List.filter_map]
  congr 1
  refine List.filter_congr fun q _ => ?_
  simp only [Function.comp, x_v_cat]
theorem xj_iadd {x y : Int32} (d : decode cc pc = .ok (.iadd, 1)) (k : xJ l M cc Q kc ks (pc + 1) lv (.int (x + y) :: st) h) : xJ l M cc Q kc ks pc lv (.int y :: .int x :: st) h := by
  intro p e s m args below meth c D aC ad b0 H locs ls Z C R L E
  exact lv_iadd C.1 C.2.1 d (k p e s m args below meth c D aC ad b0 H locs ls Z C R L E)
theorem xj_isub {x y : Int32} (d : decode cc pc = .ok (.isub, 1)) (k : xJ l M cc Q kc ks (pc + 1) lv (.int (x - y) :: st) h) : xJ l M cc Q kc ks pc lv (.int y :: .int x :: st) h := by
  intro p e s m args below meth c D aC ad b0 H locs ls Z C R L E
  exact lv_isub C.1 C.2.1 d (k p e s m args below meth c D aC ad b0 H locs ls Z C R L E)
theorem xj_imul {x y : Int32} (d : decode cc pc = .ok (.imul, 1)) (k : xJ l M cc Q kc ks (pc + 1) lv (.int (x * y) :: st) h) : xJ l M cc Q kc ks pc lv (.int y :: .int x :: st) h := by
  intro p e s m args below meth c D aC ad b0 H locs ls Z C R L E
  exact lv_imul C.1 C.2.1 d (k p e s m args below meth c D aC ad b0 H locs ls Z C R L E)
theorem xj_iand {x y : Int32} (d : decode cc pc = .ok (.iand, 1)) (k : xJ l M cc Q kc ks (pc + 1) lv (.int (x &&& y) :: st) h) : xJ l M cc Q kc ks pc lv (.int y :: .int x :: st) h := by
  intro p e s m args below meth c D aC ad b0 H locs ls Z C R L E
  exact lv_iand C.1 C.2.1 d (k p e s m args below meth c D aC ad b0 H locs ls Z C R L E)
theorem xj_ior {x y : Int32} (d : decode cc pc = .ok (.ior, 1)) (k : xJ l M cc Q kc ks (pc + 1) lv (.int (x ||| y) :: st) h) : xJ l M cc Q kc ks pc lv (.int y :: .int x :: st) h := by
  intro p e s m args below meth c D aC ad b0 H locs ls Z C R L E
  exact lv_ior C.1 C.2.1 d (k p e s m args below meth c D aC ad b0 H locs ls Z C R L E)
theorem xj_ixor {x y : Int32} (d : decode cc pc = .ok (.ixor, 1)) (k : xJ l M cc Q kc ks (pc + 1) lv (.int (x ^^^ y) :: st) h) : xJ l M cc Q kc ks pc lv (.int y :: .int x :: st) h := by
  intro p e s m args below meth c D aC ad b0 H locs ls Z C R L E
  exact lv_ixor C.1 C.2.1 d (k p e s m args below meth c D aC ad b0 H locs ls Z C R L E)
theorem xj_ishl {x y : Int32} (d : decode cc pc = .ok (.ishl, 1)) (k : xJ l M cc Q kc ks (pc + 1) lv (.int (x <<< (y &&& 31)) :: st) h) : xJ l M cc Q kc ks pc lv (.int y :: .int x :: st) h := by
  intro p e s m args below meth c D aC ad b0 H locs ls Z C R L E
  exact lv_ishl C.1 C.2.1 d (k p e s m args below meth c D aC ad b0 H locs ls Z C R L E)
theorem xj_ishr {x y : Int32} (d : decode cc pc = .ok (.ishr, 1)) (k : xJ l M cc Q kc ks (pc + 1) lv (.int (x >>> (y &&& 31)) :: st) h) : xJ l M cc Q kc ks pc lv (.int y :: .int x :: st) h := by
  intro p e s m args below meth c D aC ad b0 H locs ls Z C R L E
  exact lv_ishr C.1 C.2.1 d (k p e s m args below meth c D aC ad b0 H locs ls Z C R L E)
theorem xj_idiv {x y : Int32} (hne : ¬ y = 0) (d : decode cc pc = .ok (.idiv, 1)) (k : xJ l M cc Q kc ks (pc + 1) lv (.int (x / y) :: st) h) : xJ l M cc Q kc ks pc lv (.int y :: .int x :: st) h := by
  intro p e s m args below meth c D aC ad b0 H locs ls Z C R L E
  exact lv_idiv C.1 C.2.1 d hne (k p e s m args below meth c D aC ad b0 H locs ls Z C R L E)
theorem xj_irem {x y : Int32} (hne : ¬ y = 0) (d : decode cc pc = .ok (.irem, 1)) (k : xJ l M cc Q kc ks (pc + 1) lv (.int (x - x / y * y) :: st) h) : xJ l M cc Q kc ks pc lv (.int y :: .int x :: st) h := by
  intro p e s m args below meth c D aC ad b0 H locs ls Z C R L E
  exact lv_irem C.1 C.2.1 d hne (k p e s m args below meth c D aC ad b0 H locs ls Z C R L E)
theorem xj_ineg {x : Int32} (d : decode cc pc = .ok (.ineg, 1)) (k : xJ l M cc Q kc ks (pc + 1) lv (.int (-x) :: st) h) : xJ l M cc Q kc ks pc lv (.int x :: st) h := by
  intro p e s m args below meth c D aC ad b0 H locs ls Z C R L E
  exact lv_ineg C.1 C.2.1 d (k p e s m args below meth c D aC ad b0 H locs ls Z C R L E)
theorem xj_ladd {x y : Int64} (d : decode cc pc = .ok (.ladd, 1)) (k : xJ l M cc Q kc ks (pc + 1) lv (.long (x + y) :: st) h) : xJ l M cc Q kc ks pc lv (.long y :: .long x :: st) h := by
  intro p e s m args below meth c D aC ad b0 H locs ls Z C R L E
  exact lv_ladd C.1 C.2.1 d (k p e s m args below meth c D aC ad b0 H locs ls Z C R L E)
theorem xj_lmul {x y : Int64} (d : decode cc pc = .ok (.lmul, 1)) (k : xJ l M cc Q kc ks (pc + 1) lv (.long (x * y) :: st) h) : xJ l M cc Q kc ks pc lv (.long y :: .long x :: st) h := by
  intro p e s m args below meth c D aC ad b0 H locs ls Z C R L E
  exact lv_lmul C.1 C.2.1 d (k p e s m args below meth c D aC ad b0 H locs ls Z C R L E)
theorem xj_ldiv {x y : Int64} (hne : ¬ y = 0) (d : decode cc pc = .ok (.ldiv, 1)) (k : xJ l M cc Q kc ks (pc + 1) lv (.long (x / y) :: st) h) : xJ l M cc Q kc ks pc lv (.long y :: .long x :: st) h := by
  intro p e s m args below meth c D aC ad b0 H locs ls Z C R L E
  exact lv_ldiv C.1 C.2.1 d hne (k p e s m args below meth c D aC ad b0 H locs ls Z C R L E)
theorem xj_lrem {x y : Int64} (hne : ¬ y = 0) (d : decode cc pc = .ok (.lrem, 1)) (k : xJ l M cc Q kc ks (pc + 1) lv (.long (x - x / y * y) :: st) h) : xJ l M cc Q kc ks pc lv (.long y :: .long x :: st) h := by
  intro p e s m args below meth c D aC ad b0 H locs ls Z C R L E
  exact lv_lrem C.1 C.2.1 d hne (k p e s m args below meth c D aC ad b0 H locs ls Z C R L E)
theorem xj_lcmp {x y : Int64} (d : decode cc pc = .ok (.lcmp, 1)) (k : xJ l M cc Q kc ks (pc + 1) lv (.int (lg_cmp x y) :: st) h) : xJ l M cc Q kc ks pc lv (.long y :: .long x :: st) h := by
  intro p e s m args below meth c D aC ad b0 H locs ls Z C R L E
  exact W.lcmp C.1 C.2.1 d (k p e s m args below meth c D aC ad b0 H locs ls Z C R L E)
theorem xj_i2l {x : Int32} (d : decode cc pc = .ok (.i2l, 1)) (k : xJ l M cc Q kc ks (pc + 1) lv (.long x.toInt64 :: st) h) : xJ l M cc Q kc ks pc lv (.int x :: st) h := by
  intro p e s m args below meth c D aC ad b0 H locs ls Z C R L E
  exact lv_i2l C.1 C.2.1 d rfl (k p e s m args below meth c D aC ad b0 H locs ls Z C R L E)
theorem xj_l2i {x : Int64} (d : decode cc pc = .ok (.l2i, 1)) (k : xJ l M cc Q kc ks (pc + 1) lv (.int x.toInt32 :: st) h) : xJ l M cc Q kc ks pc lv (.long x :: st) h := by
  intro p e s m args below meth c D aC ad b0 H locs ls Z C R L E
  exact lv_l2i C.1 C.2.1 d rfl (k p e s m args below meth c D aC ad b0 H locs ls Z C R L E)
theorem xj_i2b {x : Int32} (d : decode cc pc = .ok (.i2b, 1)) (k : xJ l M cc Q kc ks (pc + 1) lv (.int x.toInt8.toInt32 :: st) h) : xJ l M cc Q kc ks pc lv (.int x :: st) h := by
  intro p e s m args below meth c D aC ad b0 H locs ls Z C R L E
  exact lv_i2b C.1 C.2.1 d rfl (k p e s m args below meth c D aC ad b0 H locs ls Z C R L E)
theorem xj_i2s {x : Int32} (d : decode cc pc = .ok (.i2s, 1)) (k : xJ l M cc Q kc ks (pc + 1) lv (.int x.toInt16.toInt32 :: st) h) : xJ l M cc Q kc ks pc lv (.int x :: st) h := by
  intro p e s m args below meth c D aC ad b0 H locs ls Z C R L E
  exact lv_i2s C.1 C.2.1 d rfl (k p e s m args below meth c D aC ad b0 H locs ls Z C R L E)
theorem xj_i2c {x : Int32} (d : decode cc pc = .ok (.i2c, 1)) (k : xJ l M cc Q kc ks (pc + 1) lv (.int (x.toUInt32 % 65536).toInt32 :: st) h) : xJ l M cc Q kc ks pc lv (.int x :: st) h := by
  intro p e s m args below meth c D aC ad b0 H locs ls Z C R L E
  exact lv_i2c C.1 C.2.1 d rfl (k p e s m args below meth c D aC ad b0 H locs ls Z C R L E)
theorem xj_iushr {x y : Int32} (d : decode cc pc = .ok (.iushr, 1)) (k : xJ l M cc Q kc ks (pc + 1) lv (.int (x.toUInt32 >>> (y.toUInt32 &&& Int32.toUInt32 31)).toInt32 :: st) h) : xJ l M cc Q kc ks pc lv (.int y :: .int x :: st) h := by
  intro p e s m args below meth c D aC ad b0 H locs ls Z C R L E
  exact lv_iushr C.1 C.2.1 d rfl (k p e s m args below meth c D aC ad b0 H locs ls Z C R L E)
theorem xj_iconst {n : Int} {v : Int32} (hv : Int32.ofInt n = v) (d : decode cc pc = .ok (.iconst n, 1)) (k : xJ l M cc Q kc ks (pc + 1) lv (.int v :: st) h) : xJ l M cc Q kc ks pc lv (st) h := by
  intro p e s m args below meth c D aC ad b0 H locs ls Z C R L E
  exact lv_iconst C.1 C.2.1 d hv (k p e s m args below meth c D aC ad b0 H locs ls Z C R L E)
theorem xj_bipush {n : Int} {v : Int32} (hv : (Int8.ofInt n).toInt32 = v) (d : decode cc pc = .ok (.bipush n, 2)) (k : xJ l M cc Q kc ks (pc + 2) lv (.int v :: st) h) : xJ l M cc Q kc ks pc lv (st) h := by
  intro p e s m args below meth c D aC ad b0 H locs ls Z C R L E
  exact lv_bipush C.1 C.2.1 d hv (k p e s m args below meth c D aC ad b0 H locs ls Z C R L E)
theorem xj_sipush {n : Int} {v : Int32} (hv : (Int16.ofInt n).toInt32 = v) (d : decode cc pc = .ok (.sipush n, 3)) (k : xJ l M cc Q kc ks (pc + 3) lv (.int v :: st) h) : xJ l M cc Q kc ks pc lv (st) h := by
  intro p e s m args below meth c D aC ad b0 H locs ls Z C R L E
  exact lv_sipush C.1 C.2.1 d hv (k p e s m args below meth c D aC ad b0 H locs ls Z C R L E)
theorem xj_lconst {n : Fin 2} {v : Int64} (hv : Int64.ofNat (n : Nat) = v) (d : decode cc pc = .ok (.lconst n, 1)) (k : xJ l M cc Q kc ks (pc + 1) lv (.long v :: st) h) : xJ l M cc Q kc ks pc lv (st) h := by
  intro p e s m args below meth c D aC ad b0 H locs ls Z C R L E
  exact lv_lconst C.1 C.2.1 d hv (k p e s m args below meth c D aC ad b0 H locs ls Z C R L E)
theorem xj_ldc {i : Nat} {v : Int32} (w : Cond.constant M.1 i v ∈ xW) (d : decode cc pc = .ok (.ldc i, 2)) (k : xJ l M cc Q kc ks (pc + 2) lv (.int v :: st) h) : xJ l M cc Q kc ks pc lv (st) h := by
  intro p e s m args below meth c D aC ad b0 H locs ls Z C R L E
  exact lv_ldc C.1 C.2.1 C.2.2.2.2.2.2.1 (C.2.2.2.2.2.2.2.1 _ w) d (k p e s m args below meth c D aC ad b0 H locs ls Z C R L E)
theorem xj_ldcw {i : Nat} {v : Int32} (w : Cond.constant M.1 i v ∈ xW) (d : decode cc pc = .ok (.ldc_w i, 3)) (k : xJ l M cc Q kc ks (pc + 3) lv (.int v :: st) h) : xJ l M cc Q kc ks pc lv (st) h := by
  intro p e s m args below meth c D aC ad b0 H locs ls Z C R L E
  exact lv_ldcw C.1 C.2.1 C.2.2.2.2.2.2.1 (C.2.2.2.2.2.2.2.1 _ w) d (k p e s m args below meth c D aC ad b0 H locs ls Z C R L E)
theorem xj_ldc2 {i : Nat} {v : Int64} (w : Cond.constantLong M.1 i v ∈ xW) (d : decode cc pc = .ok (.ldc2_w i, 3)) (k : xJ l M cc Q kc ks (pc + 3) lv (.long v :: st) h) : xJ l M cc Q kc ks pc lv (st) h := by
  intro p e s m args below meth c D aC ad b0 H locs ls Z C R L E
  exact lv_ldc2 C.1 C.2.1 C.2.2.2.2.2.2.1 (C.2.2.2.2.2.2.2.1 _ w) d (k p e s m args below meth c D aC ad b0 H locs ls Z C R L E)
theorem xj_iload_n {n : Fin 4} {i : Nat} {x : Int32} (j : Nat) (hj : lv[j]? = some (i, .int x)) (hi : (n : Nat) = i) (d : decode cc pc = .ok (.iload_n n, 1)) (k : xJ l M cc Q kc ks (pc + 1) lv (.int x :: st) h) : xJ l M cc Q kc ks pc lv (st) h := by
  intro p e s m args below meth c D aC ad b0 H locs ls Z C R L E
  exact lv_iload_n C.1 C.2.1 d hi (lv_at L j (by rw [List.getElem?_map, hj]; rfl)) (k p e s m args below meth c D aC ad b0 H locs ls Z C R L E)
theorem xj_iload {i : Nat} {x : Int32} (j : Nat) (hj : lv[j]? = some (i, .int x)) (d : decode cc pc = .ok (.iload i, 2)) (k : xJ l M cc Q kc ks (pc + 2) lv (.int x :: st) h) : xJ l M cc Q kc ks pc lv (st) h := by
  intro p e s m args below meth c D aC ad b0 H locs ls Z C R L E
  exact lv_iload C.1 C.2.1 d (lv_at L j (by rw [List.getElem?_map, hj]; rfl)) (k p e s m args below meth c D aC ad b0 H locs ls Z C R L E)
theorem xj_aload_n {n : Fin 4} {i : Nat} {x : Nat} (j : Nat) (hj : lv[j]? = some (i, .ref x)) (hi : (n : Nat) = i) (d : decode cc pc = .ok (.aload_n n, 1)) (k : xJ l M cc Q kc ks (pc + 1) lv (.ref x :: st) h) : xJ l M cc Q kc ks pc lv (st) h := by
  intro p e s m args below meth c D aC ad b0 H locs ls Z C R L E
  exact lv_aload_n C.1 C.2.1 d hi (lv_at L j (by rw [List.getElem?_map, hj]; rfl)) (k p e s m args below meth c D aC ad b0 H locs ls Z C R L E)
theorem xj_aload {i : Nat} {x : Nat} (j : Nat) (hj : lv[j]? = some (i, .ref x)) (d : decode cc pc = .ok (.aload i, 2)) (k : xJ l M cc Q kc ks (pc + 2) lv (.ref x :: st) h) : xJ l M cc Q kc ks pc lv (st) h := by
  intro p e s m args below meth c D aC ad b0 H locs ls Z C R L E
  exact lv_aload C.1 C.2.1 d (lv_at L j (by rw [List.getElem?_map, hj]; rfl)) (k p e s m args below meth c D aC ad b0 H locs ls Z C R L E)
theorem xj_lload_n {n : Fin 4} {i : Nat} {x : Int64} (j : Nat) (hj : lv[j]? = some (i, .long x)) (hi : (n : Nat) = i) (d : decode cc pc = .ok (.lload_n n, 1)) (k : xJ l M cc Q kc ks (pc + 1) lv (.long x :: st) h) : xJ l M cc Q kc ks pc lv (st) h := by
  intro p e s m args below meth c D aC ad b0 H locs ls Z C R L E
  exact lv_lload_n C.1 C.2.1 d hi (lv_at L j (by rw [List.getElem?_map, hj]; rfl)) (k p e s m args below meth c D aC ad b0 H locs ls Z C R L E)
theorem xj_lload {i : Nat} {x : Int64} (j : Nat) (hj : lv[j]? = some (i, .long x)) (d : decode cc pc = .ok (.lload i, 2)) (k : xJ l M cc Q kc ks (pc + 2) lv (.long x :: st) h) : xJ l M cc Q kc ks pc lv (st) h := by
  intro p e s m args below meth c D aC ad b0 H locs ls Z C R L E
  exact lv_lload C.1 C.2.1 d (lv_at L j (by rw [List.getElem?_map, hj]; rfl)) (k p e s m args below meth c D aC ad b0 H locs ls Z C R L E)
theorem xj_istore_n {n : Fin 4} {i : Nat} (hi : (n : Nat) = i) {x : Int32} {lv1 : List (Nat × Value)} (hl : (i, Value.int x) :: lv.filter (fun q => !(q.1 == i) && !(q.1 + 1 == i && q.2.category == 2)) = lv1) (hn : i < M.2.1) (d : decode cc pc = .ok (.istore_n n, 1)) (k : xJ l M cc Q kc ks (pc + 1) lv1 st h) : xJ l M cc Q kc ks pc lv (.int x :: st) h := by
  intro p e s m args below meth c D aC ad b0 H locs ls Z C R L E
  subst hl
  exact lv_istore_n (x := x) C.1 C.2.1 d hi L hn (by rw [List.map_cons, x_filt1]; rfl) (fun ls L => k p e s m args below meth c D aC ad b0 H locs ls Z C R L E)
theorem xj_istore {i : Nat} {x : Int32} {lv1 : List (Nat × Value)} (hl : (i, Value.int x) :: lv.filter (fun q => !(q.1 == i) && !(q.1 + 1 == i && q.2.category == 2)) = lv1) (hn : i < M.2.1) (d : decode cc pc = .ok (.istore i, 2)) (k : xJ l M cc Q kc ks (pc + 2) lv1 st h) : xJ l M cc Q kc ks pc lv (.int x :: st) h := by
  intro p e s m args below meth c D aC ad b0 H locs ls Z C R L E
  subst hl
  exact lv_istore (x := x) C.1 C.2.1 d L hn (by rw [List.map_cons, x_filt1]; rfl) (fun ls L => k p e s m args below meth c D aC ad b0 H locs ls Z C R L E)
theorem xj_astore_n {n : Fin 4} {i : Nat} (hi : (n : Nat) = i) {x : Nat} {lv1 : List (Nat × Value)} (hl : (i, Value.ref x) :: lv.filter (fun q => !(q.1 == i) && !(q.1 + 1 == i && q.2.category == 2)) = lv1) (hn : i < M.2.1) (d : decode cc pc = .ok (.astore_n n, 1)) (k : xJ l M cc Q kc ks (pc + 1) lv1 st h) : xJ l M cc Q kc ks pc lv (.ref x :: st) h := by
  intro p e s m args below meth c D aC ad b0 H locs ls Z C R L E
  subst hl
  exact lv_astore_n (x := (ad x)) C.1 C.2.1 d hi L hn (by rw [List.map_cons, x_filt1]; rfl) (fun ls L => k p e s m args below meth c D aC ad b0 H locs ls Z C R L E)
theorem xj_astore {i : Nat} {x : Nat} {lv1 : List (Nat × Value)} (hl : (i, Value.ref x) :: lv.filter (fun q => !(q.1 == i) && !(q.1 + 1 == i && q.2.category == 2)) = lv1) (hn : i < M.2.1) (d : decode cc pc = .ok (.astore i, 2)) (k : xJ l M cc Q kc ks (pc + 2) lv1 st h) : xJ l M cc Q kc ks pc lv (.ref x :: st) h := by
  intro p e s m args below meth c D aC ad b0 H locs ls Z C R L E
  subst hl
  exact lv_astore (x := (ad x)) C.1 C.2.1 d L hn (by rw [List.map_cons, x_filt1]; rfl) (fun ls L => k p e s m args below meth c D aC ad b0 H locs ls Z C R L E)
theorem xj_lstore_n {n : Fin 4} {i : Nat} (hi : (n : Nat) = i) {x : Int64} {lv1 : List (Nat × Value)} (hl : (i, Value.long x) :: lv.filter (fun q => !(q.1 == i) && (!(q.1 == i + 1) && !(q.1 + 1 == i && q.2.category == 2))) = lv1) (hn : i + 1 < M.2.1) (d : decode cc pc = .ok (.lstore_n n, 1)) (k : xJ l M cc Q kc ks (pc + 1) lv1 st h) : xJ l M cc Q kc ks pc lv (.long x :: st) h := by
  intro p e s m args below meth c D aC ad b0 H locs ls Z C R L E
  subst hl
  exact lv_lstore_n (x := x) C.1 C.2.1 d hi L hn (by rw [List.map_cons, x_filt2]; rfl) (fun ls L => k p e s m args below meth c D aC ad b0 H locs ls Z C R L E)
theorem xj_lstore {i : Nat} {x : Int64} {lv1 : List (Nat × Value)} (hl : (i, Value.long x) :: lv.filter (fun q => !(q.1 == i) && (!(q.1 == i + 1) && !(q.1 + 1 == i && q.2.category == 2))) = lv1) (hn : i + 1 < M.2.1) (d : decode cc pc = .ok (.lstore i, 2)) (k : xJ l M cc Q kc ks (pc + 2) lv1 st h) : xJ l M cc Q kc ks pc lv (.long x :: st) h := by
  intro p e s m args below meth c D aC ad b0 H locs ls Z C R L E
  subst hl
  exact lv_lstore (x := x) C.1 C.2.1 d L hn (by rw [List.map_cons, x_filt2]; rfl) (fun ls L => k p e s m args below meth c D aC ad b0 H locs ls Z C R L E)
theorem xj_iinc {i : Nat} {n : Int} {x v : Int32} {lv1 : List (Nat × Value)} (j : Nat) (hj : lv[j]? = some (i, .int x)) (hv : x + Int32.ofInt n = v) (hl : (i, Value.int v) :: lv.filter (fun q => !(q.1 == i) && !(q.1 + 1 == i && q.2.category == 2)) = lv1) (hn : i < M.2.1) (d : decode cc pc = .ok (.iinc i n, 3)) (k : xJ l M cc Q kc ks (pc + 3) lv1 st h) : xJ l M cc Q kc ks pc lv st h := by
  intro p e s m args below meth c D aC ad b0 H locs ls Z C R L E
  subst hl
  exact lv_iinc (k := j) C.1 C.2.1 d L (by rw [List.getElem?_map, hj]; rfl) hv hn (by rw [List.map_cons, x_filt1]; rfl) (fun ls L => k p e s m args below meth c D aC ad b0 H locs ls Z C R L E)
theorem xj_if_eq {x : Int32} {off : Int} {tgt : Nat} (ht : (pc : Int) + off = (tgt : Int)) (d : decode cc pc = .ok (.ifCond .eq off, 3)) (kt : x = 0 → xJ l M cc Q kc ks tgt lv st h) (kf : ¬ x = 0 → xJ l M cc Q kc ks (pc + 3) lv st h) : xJ l M cc Q kc ks pc lv (.int x :: st) h := by
  intro p e s m args below meth c D aC ad b0 H locs ls Z C R L E
  exact lv_if_eq C.1 C.2.1 d ht (fun z => kt z p e s m args below meth c D aC ad b0 H locs ls Z C R L E) (fun z => kf z p e s m args below meth c D aC ad b0 H locs ls Z C R L E)
theorem xj_if_ne {x : Int32} {off : Int} {tgt : Nat} (ht : (pc : Int) + off = (tgt : Int)) (d : decode cc pc = .ok (.ifCond .ne off, 3)) (kt : ¬ x = 0 → xJ l M cc Q kc ks tgt lv st h) (kf : x = 0 → xJ l M cc Q kc ks (pc + 3) lv st h) : xJ l M cc Q kc ks pc lv (.int x :: st) h := by
  intro p e s m args below meth c D aC ad b0 H locs ls Z C R L E
  exact lv_if_ne C.1 C.2.1 d ht (fun z => kt z p e s m args below meth c D aC ad b0 H locs ls Z C R L E) (fun z => kf z p e s m args below meth c D aC ad b0 H locs ls Z C R L E)
theorem xj_if_lt {x : Int32} {off : Int} {tgt : Nat} (ht : (pc : Int) + off = (tgt : Int)) (d : decode cc pc = .ok (.ifCond .lt off, 3)) (kt : x < 0 → xJ l M cc Q kc ks tgt lv st h) (kf : ¬ x < 0 → xJ l M cc Q kc ks (pc + 3) lv st h) : xJ l M cc Q kc ks pc lv (.int x :: st) h := by
  intro p e s m args below meth c D aC ad b0 H locs ls Z C R L E
  exact lv_if_lt C.1 C.2.1 d ht (fun z => kt z p e s m args below meth c D aC ad b0 H locs ls Z C R L E) (fun z => kf z p e s m args below meth c D aC ad b0 H locs ls Z C R L E)
theorem xj_if_ge {x : Int32} {off : Int} {tgt : Nat} (ht : (pc : Int) + off = (tgt : Int)) (d : decode cc pc = .ok (.ifCond .ge off, 3)) (kt : 0 ≤ x → xJ l M cc Q kc ks tgt lv st h) (kf : ¬ 0 ≤ x → xJ l M cc Q kc ks (pc + 3) lv st h) : xJ l M cc Q kc ks pc lv (.int x :: st) h := by
  intro p e s m args below meth c D aC ad b0 H locs ls Z C R L E
  exact lv_if_ge C.1 C.2.1 d ht (fun z => kt z p e s m args below meth c D aC ad b0 H locs ls Z C R L E) (fun z => kf z p e s m args below meth c D aC ad b0 H locs ls Z C R L E)
theorem xj_if_gt {x : Int32} {off : Int} {tgt : Nat} (ht : (pc : Int) + off = (tgt : Int)) (d : decode cc pc = .ok (.ifCond .gt off, 3)) (kt : 0 < x → xJ l M cc Q kc ks tgt lv st h) (kf : ¬ 0 < x → xJ l M cc Q kc ks (pc + 3) lv st h) : xJ l M cc Q kc ks pc lv (.int x :: st) h := by
  intro p e s m args below meth c D aC ad b0 H locs ls Z C R L E
  exact lv_if_gt C.1 C.2.1 d ht (fun z => kt z p e s m args below meth c D aC ad b0 H locs ls Z C R L E) (fun z => kf z p e s m args below meth c D aC ad b0 H locs ls Z C R L E)
theorem xj_if_le {x : Int32} {off : Int} {tgt : Nat} (ht : (pc : Int) + off = (tgt : Int)) (d : decode cc pc = .ok (.ifCond .le off, 3)) (kt : x ≤ 0 → xJ l M cc Q kc ks tgt lv st h) (kf : ¬ x ≤ 0 → xJ l M cc Q kc ks (pc + 3) lv st h) : xJ l M cc Q kc ks pc lv (.int x :: st) h := by
  intro p e s m args below meth c D aC ad b0 H locs ls Z C R L E
  exact lv_if_le C.1 C.2.1 d ht (fun z => kt z p e s m args below meth c D aC ad b0 H locs ls Z C R L E) (fun z => kf z p e s m args below meth c D aC ad b0 H locs ls Z C R L E)
theorem xj_icmp_eq {x y : Int32} {off : Int} {tgt : Nat} (ht : (pc : Int) + off = (tgt : Int)) (d : decode cc pc = .ok (.if_icmp .eq off, 3)) (kt : x = y → xJ l M cc Q kc ks tgt lv st h) (kf : ¬ x = y → xJ l M cc Q kc ks (pc + 3) lv st h) : xJ l M cc Q kc ks pc lv (.int y :: .int x :: st) h := by
  intro p e s m args below meth c D aC ad b0 H locs ls Z C R L E
  exact lv_icmp_eq C.1 C.2.1 d ht (fun z => kt z p e s m args below meth c D aC ad b0 H locs ls Z C R L E) (fun z => kf z p e s m args below meth c D aC ad b0 H locs ls Z C R L E)
theorem xj_icmp_ne {x y : Int32} {off : Int} {tgt : Nat} (ht : (pc : Int) + off = (tgt : Int)) (d : decode cc pc = .ok (.if_icmp .ne off, 3)) (kt : ¬ x = y → xJ l M cc Q kc ks tgt lv st h) (kf : x = y → xJ l M cc Q kc ks (pc + 3) lv st h) : xJ l M cc Q kc ks pc lv (.int y :: .int x :: st) h := by
  intro p e s m args below meth c D aC ad b0 H locs ls Z C R L E
  exact lv_icmp_ne C.1 C.2.1 d ht (fun z => kt z p e s m args below meth c D aC ad b0 H locs ls Z C R L E) (fun z => kf z p e s m args below meth c D aC ad b0 H locs ls Z C R L E)
theorem xj_icmp_lt {x y : Int32} {off : Int} {tgt : Nat} (ht : (pc : Int) + off = (tgt : Int)) (d : decode cc pc = .ok (.if_icmp .lt off, 3)) (kt : x < y → xJ l M cc Q kc ks tgt lv st h) (kf : ¬ x < y → xJ l M cc Q kc ks (pc + 3) lv st h) : xJ l M cc Q kc ks pc lv (.int y :: .int x :: st) h := by
  intro p e s m args below meth c D aC ad b0 H locs ls Z C R L E
  exact lv_icmp_lt C.1 C.2.1 d ht (fun z => kt z p e s m args below meth c D aC ad b0 H locs ls Z C R L E) (fun z => kf z p e s m args below meth c D aC ad b0 H locs ls Z C R L E)
theorem xj_icmp_ge {x y : Int32} {off : Int} {tgt : Nat} (ht : (pc : Int) + off = (tgt : Int)) (d : decode cc pc = .ok (.if_icmp .ge off, 3)) (kt : y ≤ x → xJ l M cc Q kc ks tgt lv st h) (kf : ¬ y ≤ x → xJ l M cc Q kc ks (pc + 3) lv st h) : xJ l M cc Q kc ks pc lv (.int y :: .int x :: st) h := by
  intro p e s m args below meth c D aC ad b0 H locs ls Z C R L E
  exact lv_icmp_ge C.1 C.2.1 d ht (fun z => kt z p e s m args below meth c D aC ad b0 H locs ls Z C R L E) (fun z => kf z p e s m args below meth c D aC ad b0 H locs ls Z C R L E)
theorem xj_icmp_gt {x y : Int32} {off : Int} {tgt : Nat} (ht : (pc : Int) + off = (tgt : Int)) (d : decode cc pc = .ok (.if_icmp .gt off, 3)) (kt : y < x → xJ l M cc Q kc ks tgt lv st h) (kf : ¬ y < x → xJ l M cc Q kc ks (pc + 3) lv st h) : xJ l M cc Q kc ks pc lv (.int y :: .int x :: st) h := by
  intro p e s m args below meth c D aC ad b0 H locs ls Z C R L E
  exact lv_icmp_gt C.1 C.2.1 d ht (fun z => kt z p e s m args below meth c D aC ad b0 H locs ls Z C R L E) (fun z => kf z p e s m args below meth c D aC ad b0 H locs ls Z C R L E)
theorem xj_icmp_le {x y : Int32} {off : Int} {tgt : Nat} (ht : (pc : Int) + off = (tgt : Int)) (d : decode cc pc = .ok (.if_icmp .le off, 3)) (kt : x ≤ y → xJ l M cc Q kc ks tgt lv st h) (kf : ¬ x ≤ y → xJ l M cc Q kc ks (pc + 3) lv st h) : xJ l M cc Q kc ks pc lv (.int y :: .int x :: st) h := by
  intro p e s m args below meth c D aC ad b0 H locs ls Z C R L E
  exact lv_icmp_le C.1 C.2.1 d ht (fun z => kt z p e s m args below meth c D aC ad b0 H locs ls Z C R L E) (fun z => kf z p e s m args below meth c D aC ad b0 H locs ls Z C R L E)
theorem xj_goto {off : Int} {tgt : Nat} (ht : (pc : Int) + off = (tgt : Int)) (d : decode cc pc = .ok (.goto off, 3)) (k : xJ l M cc Q kc ks tgt lv st h) : xJ l M cc Q kc ks pc lv st h := by
  intro p e s m args below meth c D aC ad b0 H locs ls Z C R L E
  exact lv_goto C.1 C.2.1 d ht (k p e s m args below meth c D aC ad b0 H locs ls Z C R L E)
theorem xj_tableOut {dflt lo hi : Int} {offs : Array Int} {len : Nat} {x : Int32} {tgt : Nat} (d : decode cc pc = .ok (.tableswitch dflt lo hi offs, len)) (hx : x.toInt < lo ∨ hi < x.toInt) (ht : (pc : Int) + dflt = (tgt : Int)) (k : xJ l M cc Q kc ks tgt lv st h) : xJ l M cc Q kc ks pc lv (.int x :: st) h := by
  intro p e s m args below meth c D aC ad b0 H locs ls Z C R L E
  exact lv_tableOut C.1 C.2.1 d hx ht (k p e s m args below meth c D aC ad b0 H locs ls Z C R L E)
theorem xj_tableIn {dflt lo hi : Int} {offs : Array Int} {len : Nat} {x : Int32} {off : Int} {tgt : Nat} (d : decode cc pc = .ok (.tableswitch dflt lo hi offs, len)) (h1 : ¬ x.toInt < lo) (h2 : ¬ hi < x.toInt) (ho : offs[(x.toInt - lo).toNat]? = some off) (ht : (pc : Int) + off = (tgt : Int)) (k : xJ l M cc Q kc ks tgt lv st h) : xJ l M cc Q kc ks pc lv (.int x :: st) h := by
  intro p e s m args below meth c D aC ad b0 H locs ls Z C R L E
  exact lv_tableIn C.1 C.2.1 d h1 h2 ho ht (k p e s m args below meth c D aC ad b0 H locs ls Z C R L E)
theorem xj_lookup {dflt : Int} {ps : Array (Int × Int)} {len : Nat} {x : Int32} {off : Int} {tgt : Nat} (d : decode cc pc = .ok (.lookupswitch dflt ps, len)) (hp : (ps.toList.zip (ps.toList.drop 1)).all (fun (a, next) => a.1 < next.1) = true) (ho : Op.lookupswitch.offset ps.toList dflt x.toInt = off) (ht : (pc : Int) + off = (tgt : Int)) (k : xJ l M cc Q kc ks tgt lv st h) : xJ l M cc Q kc ks pc lv (.int x :: st) h := by
  intro p e s m args below meth c D aC ad b0 H locs ls Z C R L E
  exact lv_lookup C.1 C.2.1 d hp ho ht (k p e s m args below meth c D aC ad b0 H locs ls Z C R L E)
theorem xj_dup {v : Value} (hv : v.category = 1) (d : decode cc pc = .ok (.dup, 1)) (k : xJ l M cc Q kc ks (pc + 1) lv (v :: v :: st) h) : xJ l M cc Q kc ks pc lv (v :: st) h := by
  intro p e s m args below meth c D aC ad b0 H locs ls Z C R L E
  exact lv_dup C.1 C.2.1 d (by rw [x_v_cat]; exact hv) (k p e s m args below meth c D aC ad b0 H locs ls Z C R L E)
theorem xj_pop {v : Value} (hv : v.category = 1) (d : decode cc pc = .ok (.pop, 1)) (k : xJ l M cc Q kc ks (pc + 1) lv (st) h) : xJ l M cc Q kc ks pc lv (v :: st) h := by
  intro p e s m args below meth c D aC ad b0 H locs ls Z C R L E
  exact lv_pop C.1 C.2.1 d (by rw [x_v_cat]; exact hv) (k p e s m args below meth c D aC ad b0 H locs ls Z C R L E)
/-- a field by its place in a class's list: what the tables say of it -/
def xFl (own : String) (idx ci k : Nat) (ty : FieldType) (fin : Bool) : Prop := ∃ (C : String) (T : u_T) (N : Nat) (tf : Nat → FieldType), vwCl[ci]? = some (C, T, N) ∧ k < N ∧ (∀ w ∈ u_ws C T N, w ∈ xW) ∧ Cond.fieldLink own idx (T k).1 (T k).2.1 (T k).2.2.1 ∈ xW ∧ (∀ j, j < N → parseFieldDescriptor (T j).2.2.1 = some (tf j)) ∧ (∀ a, a < N → ∀ b, b < N → a ≠ b → (T a).2.1 ≠ (T b).2.1) ∧ parseFieldDescriptor (T k).2.2.1 = some ty ∧ (T k).2.2.2 = fin
theorem xj_getf {ci k idx q : Nat} {ty : FieldType} {fin : Bool} {fs : List Value} {v : Value} (F : xFl M.1 idx ci k ty fin) (hn : q < h.1) (hq : h.2 q = .inr (.inr (ci, fs))) (hv : fs[k]? = some v) (d : decode cc pc = .ok (.getfield idx, 3)) (kk : xJ l M cc Q kc ks (pc + 3) lv (v :: st) h) : xJ l M cc Q kc ks pc lv (.ref q :: st) h := by
  intro p e s m args below meth c D aC ad b0 H locs ls Z C R L E
  obtain ⟨C', T, N, tf, f1, f2, f3, f4, f5, f6, f7, f8⟩ := F
  have he : (x_ws aC ad h)[q]? = some (ad q, .inr (ci, fs.map (x_v ad))) := by rw [x_ws_get hn, hq]; rfl
  exact va_get C.1 C.2.1 C.2.2.2.2.2.2.2.1 f3 C.2.2.2.2.2.2.1 R.1 R.2.1 q he f1 k f2 (C.2.2.2.2.2.2.2.1 _ f4) (fun _ z => z) (v := x_v ad v) (by rw [List.getElem?_map, hv]; rfl) d (kk p e s m args below meth c D aC ad b0 H locs ls Z C R L E)
theorem xj_putf {ci k idx q : Nat} {ty : FieldType} {fs : List Value} {v : Value} (F : xFl M.1 idx ci k ty false) (hn : q < h.1) (hq : h.2 q = .inr (.inr (ci, fs))) (hv : ∀ ad : Nat → Nat, narrow ty (x_v ad v) = x_v ad v ∧ fits ty (x_v ad v) = true) (hl : k < fs.length) (d : decode cc pc = .ok (.putfield idx, 3)) (kk : xJ l M cc Q kc ks (pc + 3) lv st (h.1, va_up h.2 q (.inr (.inr (ci, fs.set k v))))) : xJ l M cc Q kc ks pc lv (v :: .ref q :: st) h := by
  intro p e s m args below meth c D aC ad b0 H locs ls Z C R L E
  obtain ⟨C', T, N, tf, f1, f2, f3, f4, f5, f6, f7, f8⟩ := F
  have hts := C.2.2.2.2.2.2.2.1
  have hown := C.2.2.2.2.2.2.1
  have hap := va_apart (own := M.1) hts f3 tf f5 f6 R.1 f1
  have he : (x_ws aC ad h)[q]? = some (ad q, .inr (ci, fs.map (x_v ad))) := by rw [x_ws_get hn, hq]; rfl
  obtain ⟨r, g1, cell, q1, q2, q3, q4⟩ := R.2.1 q _ he
  have hr : r = (C', T, N) := Option.some.inj (g1.symm.trans f1)
  subst hr
  obtain ⟨hS, hfc, kC, hkC, hkind⟩ := R.1.1 ci _ f1
  obtain ⟨cf, kf, fi, f, hi, hsl⟩ := hS k f2
  have hlay := hts _ (f3 _ (u_in_lay f2))
  unfold u_lay at hlay
  rw [if_neg (by rw [f8]; decide)] at hlay
  have hst := (u_facts hfc hkC (u_lays hts f3 f2) hi).1
  have h6 := u_store hfc hkC hkind hlay hi f7 (hv ad).1 (hv ad).2
  refine W.putK C.1 C.2.1 (f := f) ⟨hown, hts _ f4, ⟨_, _, _, hi⟩, hst⟩ (by rw [q2]; exact h6) q1 q3 (by rw [hsl]; exact k2_hasslot (q4 k f2)) rfl rfl d fun H' e1 e2 e3 => ?_
  rw [hsl] at e1
  refine kk p e s m args below meth c D aC ad b0 H' _ ls Z C (R.set C.2.2.2.2.2.2.2.2.2.1 hn e2 e3 ?_) L E
  show va_at D vwCl (ad q, .inr (ci, (fs.set k v).map (x_v ad))) H'
  rw [List.map_set]
  exact ⟨_, f1, t_OB.to (V := updV (vp_V (fs.map (x_v ad))) k (x_v ad v)) ⟨_, e1, q2, q3, t_set q4 hap f2 (x_v ad v)⟩ (fun j _ => vp_updV_set (by rw [List.length_map]; exact hl) (x_v ad v) j)⟩
/-- a final field, in its own class's constructor -/
theorem xj_putF {ci k idx q : Nat} {ty : FieldType} {fs : List Value} {v : Value} (F : xFl M.1 idx ci k ty true) (hin : M.2.2.2.1 = true) (hdecl : ∀ x : vw_C, vwCl[ci]? = some x → (x.2.1 k).1 = M.1) (hn : q < h.1) (hq : h.2 q = .inr (.inr (ci, fs))) (hv : ∀ ad : Nat → Nat, narrow ty (x_v ad v) = x_v ad v ∧ fits ty (x_v ad v) = true) (hl : k < fs.length) (d : decode cc pc = .ok (.putfield idx, 3)) (kk : xJ l M cc Q kc ks (pc + 3) lv st (h.1, va_up h.2 q (.inr (.inr (ci, fs.set k v))))) : xJ l M cc Q kc ks pc lv (v :: .ref q :: st) h := by
  intro p e s m args below meth c D aC ad b0 H locs ls Z C R L E
  obtain ⟨C', T, N, tf, f1, f2, f3, f4, f5, f6, f7, f8⟩ := F
  have hts := C.2.2.2.2.2.2.2.1
  have hown := C.2.2.2.2.2.2.1
  have hdec : (T k).1 = M.1 := hdecl _ f1
  have hap := va_apart (own := M.1) hts f3 tf f5 f6 R.1 f1
  have he : (x_ws aC ad h)[q]? = some (ad q, .inr (ci, fs.map (x_v ad))) := by rw [x_ws_get hn, hq]; rfl
  obtain ⟨r, g1, cell, q1, q2, q3, q4⟩ := R.2.1 q _ he
  have hr : r = (C', T, N) := Option.some.inj (g1.symm.trans f1)
  subst hr
  obtain ⟨hS, hfc, kC, hkC, hkind⟩ := R.1.1 ci _ f1
  obtain ⟨cf, kf, fi, f, hi, hsl⟩ := hS k f2
  have hlay := hts _ (f3 _ (u_in_lay f2))
  unfold u_lay at hlay
  rw [if_pos f8] at hlay
  have hst := (u_facts hfc hkC (u_lays hts f3 f2) hi).1
  have hcf : m.cls = cf := by
    obtain ⟨_, _, c', _, _, _, -, -, hf', -, -, -, hown2, -⟩ := Cond.laysFinal_spec hlay
    have e1 : c' = cf := by have := hi.symm.trans hf'; simp at this; exact this.1.symm
    rw [hdec] at hown2
    rw [← e1]; exact Option.some.inj (hown.symm.trans hown2)
  have h6 := u_fits hfc hkC hkind (Or.inr hlay) hi f7 (hv ad).1 (hv ad).2
  refine W.putFinK C.1 C.2.1 hown (hts _ f4) hi hst hcf (C.2.2.2.2.2.1 hin) (by rw [q2]; exact h6) q1 q3 (by rw [hsl]; exact k2_hasslot (q4 k f2)) rfl rfl d fun H' e1 e2 e3 => ?_
  rw [hsl] at e1
  refine kk p e s m args below meth c D aC ad b0 H' _ ls Z C (R.set C.2.2.2.2.2.2.2.2.2.1 hn e2 e3 ?_) L E
  show va_at D vwCl (ad q, .inr (ci, (fs.set k v).map (x_v ad))) H'
  rw [List.map_set]
  exact ⟨_, f1, t_OB.to (V := updV (vp_V (fs.map (x_v ad))) k (x_v ad v)) ⟨_, e1, q2, q3, t_set q4 hap f2 (x_v ad v)⟩ (fun j _ => vp_updV_set (by rw [List.length_map]; exact hl) (x_v ad v) j)⟩
theorem xj_iald {q n : Nat} {f : Nat → Int32} {i : Int32} (hn : q < h.1) (hq : h.2 q = .inl (n, f)) (hi : vp_in i n) (d : decode cc pc = .ok (.iaload, 1)) (kk : xJ l M cc Q kc ks (pc + 1) lv (.int (f i.toNatClampNeg) :: st) h) : xJ l M cc Q kc ks pc lv (.int i :: .ref q :: st) h := by
  intro p e s m args below meth c D aC ad b0 H locs ls Z C R L E
  have he : (x_ws aC ad h)[q]? = some (ad q, .inl (aC 0, (n, .inl f))) := by rw [x_ws_get hn, hq]; rfl
  exact va_iald C.1 C.2.1 R.1 R.2.1 q 0 he rfl hi d (kk p e s m args below meth c D aC ad b0 H locs ls Z C R L E)
theorem xj_iast {q n : Nat} {f : Nat → Int32} {i x : Int32} (hn : q < h.1) (hq : h.2 q = .inl (n, f)) (hi : vp_in i n) (d : decode cc pc = .ok (.iastore, 1)) (kk : xJ l M cc Q kc ks (pc + 1) lv st (h.1, va_up h.2 q (.inl (n, upd f i.toNatClampNeg x)))) : xJ l M cc Q kc ks pc lv (.int x :: .int i :: .ref q :: st) h := by
  intro p e s m args below meth c D aC ad b0 H locs ls Z C R L E
  have he : (x_ws aC ad h)[q]? = some (ad q, .inl (aC 0, (n, .inl f))) := by rw [x_ws_get hn, hq]; rfl
  refine W.iast C.1 C.2.1 (R.2.1 q _ he) ((R.1.2 0 _ rfl).1 n (fun j => .int (f j))) (fun z => by cases z) (by show ¬ (i < 0 ∨ (arrV _ _ _).slots.size ≤ _); rw [arrV_size]; exact hi) rfl rfl d fun H1 e1 z oq => ?_
  refine kk p e s m args below meth c D aC ad b0 H1 _ ls Z C (R.set C.2.2.2.2.2.2.2.2.2.1 hn z oq ?_) L E
  show H1[ad q]? = some (vp_cell (aC 0) (n, .inl (upd f i.toNatClampNeg x)))
  rw [e1, vp_cell_i, vp_cell_i, arrV_store]
  congr 2
  funext j
  by_cases hj : j = i.toNatClampNeg
  · subst hj; simp [updV, upd]
  · simp [updV, upd, hj]
theorem xj_alen {q n : Nat} {f : Nat → Int32} {v : Int32} (hn : q < h.1) (hq : h.2 q = .inl (n, f)) (hv : Int32.ofNat n = v) (d : decode cc pc = .ok (.arraylength, 1)) (kk : xJ l M cc Q kc ks (pc + 1) lv (.int v :: st) h) : xJ l M cc Q kc ks pc lv (.ref q :: st) h := by
  intro p e s m args below meth c D aC ad b0 H locs ls Z C R L E
  have he : (x_ws aC ad h)[q]? = some (ad q, .inl (aC 0, (n, .inl f))) := by rw [x_ws_get hn, hq]; rfl
  exact va_alen C.1 C.2.1 R.1 R.2.1 q 0 he (ty := .int) rfl hv d (kk p e s m args below meth c D aC ad b0 H locs ls Z C R L E)
/-- the class whose objects a row of references holds -/
def xRt (t : Nat) : String := match t with
  | 1 => RX4
  | 2 => RX7
  | 3 => RX8
  | _ => RX10
theorem x_ty (aC : Nat → Nat) {t : Nat} (h1 : 1 ≤ t) (h2 : t ≤ 4) : (xTys aC)[t]? = some (aC t, .object (xRt t)) := by
  rcases (show t = 1 ∨ t = 2 ∨ t = 3 ∨ t = 4 by omega) with rfl | rfl | rfl | rfl <;> rfl
theorem xj_aald {q t n a : Nat} {f : Nat → Option Nat} {i : Int32} (hn : q < h.1) (hq : h.2 q = .inr (.inl (t, n, f))) (h1 : 1 ≤ t) (h2 : t ≤ 4) (hi : vp_in i n) (hf : f i.toNatClampNeg = some a) (d : decode cc pc = .ok (.aaload, 1)) (kk : xJ l M cc Q kc ks (pc + 1) lv (.ref a :: st) h) : xJ l M cc Q kc ks pc lv (.int i :: .ref q :: st) h := by
  intro p e s m args below meth c D aC ad b0 H locs ls Z C R L E
  have he : (x_ws aC ad h)[q]? = some (ad q, .inl (aC t, (n, .inr (.inr (.inr (.inr (fun j => (f j).map ad))))))) := by rw [x_ws_get hn, hq]; rfl
  refine va_aldq C.1 C.2.1 R.1 R.2.1 q t he (x_ty aC h1 h2) hi d ?_
  show W p l e _ s m args below meth c H locs kc ks Z (F0 m (pc + 1) ls (va_rf ((f i.toNatClampNeg).map ad) :: st.map (x_v ad)))
  rw [hf]
  exact kk p e s m args below meth c D aC ad b0 H locs ls Z C R L E
/-- a reference is put into a row: of the row's class, or of one that can be cast to it -/
theorem xj_aast {q t n a ci : Nat} {x : vw_C} {fs : List Value} {f : Nat → Option Nat} {i : Int32} (hn : q < h.1) (hq : h.2 q = .inr (.inl (t, n, f))) (h1 : 1 ≤ t) (h2 : t ≤ 4) (hi : vp_in i n) (hna : a < h.1) (ha : h.2 a = .inr (.inr (ci, fs))) (hc : vwCl[ci]? = some x) (hx : x.1 = xRt t ∨ Cond.castable x.1 (xRt t) ∈ xNw) (d : decode cc pc = .ok (.aastore, 1)) (kk : xJ l M cc Q kc ks (pc + 1) lv st (h.1, va_up h.2 q (.inr (.inl (t, n, va_up f i.toNatClampNeg (some a)))))) : xJ l M cc Q kc ks pc lv (.ref a :: .int i :: .ref q :: st) h := by
  intro p e s m args below meth c D aC ad b0 H locs ls Z C R L E
  have he : (x_ws aC ad h)[q]? = some (ad q, .inl (aC t, (n, .inr (.inr (.inr (.inr (fun j => (f j).map ad))))))) := by rw [x_ws_get hn, hq]; rfl
  have hv : (x_ws aC ad h)[a]? = some (ad a, .inr (ci, fs.map (x_v ad))) := by rw [x_ws_get hna, ha]; rfl
  have hlt : i.toNatClampNeg < n := Nat.not_le.mp fun z => hi (Or.inr z)
  have h0 : ¬ i < 0 := fun z => hi (Or.inl z)
  obtain ⟨r', hr', cellV, g1, g2, g3, -⟩ := R.2.1 a _ hv
  have hcls := (R.1.1 ci x hc).2
  obtain ⟨kA, comp, k1, k2, k3, -⟩ := (R.1.2 t _ (x_ty aC h1 h2)).2
  obtain ⟨kE, hkE, -⟩ := Vm.findClass_spec k3
  obtain ⟨kC, hkC, -⟩ := hcls.2
  have hasg : s.vm.assignable cellV.cls comp = true := by
    rcases hx with hx | hx
    · have e1 : comp = D.1 ci := Option.some.inj (k3.symm.trans (by rw [← hx]; exact hcls.1))
      rw [g2, e1]
      exact va_assign hcls
    · obtain ⟨c0, t1, f1, f2, f3⟩ := Cond.castable_spec (va_Nw.use (A := args) rfl (C.2.2.2.2.2.2.2.2.2.2.1.1 _ hx))
      cases hcls.1.symm.trans f1
      cases k3.symm.trans f2
      rw [g2]
      exact f3
  refine W.aast C.1 C.2.1 (R.2.1 q _ he) (fun z h => by cases h) (fun h => by cases h) k1 k2 rfl hkE ⟨h0, by show _ < (arrV _ _ _).slots.size; rw [arrV_size]; exact hlt⟩ g1 (fun z h => by rw [g3] at h; cases h) (by rw [g2]; exact hkC) hasg rfl rfl d fun H1 e1 z oq => ?_
  refine kk p e s m args below meth c D aC ad b0 H1 _ ls Z C (R.set C.2.2.2.2.2.2.2.2.2.1 hn z oq ?_) L E
  show H1[ad q]? = some (vp_cell (aC t) (n, .inr (.inr (.inr (.inr (fun j => (va_up f i.toNatClampNeg (some a) j).map ad))))))
  rw [e1, vp_cell_q, vp_cell_q, arrV_store]
  congr 2
  funext j
  by_cases hj : j = i.toNatClampNeg
  · subst hj; simp [updV, va_up, va_rf]
  · simp [updV, va_up, hj]
/-- a new object -/
theorem xj_new {ci idx : Nat} {Cn : String} {T : u_T} {N : Nat} {tf : Nat → FieldType} {fs : List Value} (hc : vwCl[ci]? = some (Cn, T, N)) (hin : ∀ w ∈ u_ws Cn T N, w ∈ xW) (hty : ∀ k, k < N → parseFieldDescriptor (T k).2.2.1 = some (tf k)) (hfs : ∀ j, j < N → defaultValue (tf j) = vp_V fs j) (hno : ∀ ad : Nat → Nat, fs.map (x_v ad) = fs) (w1 : Cond.classLink M.1 idx Cn ∈ xW) (w2 : Cond.instantiable Cn N ∈ xW) (w3 : Cond.initialized Cn ∈ xW) (hn : h.1 < xN) (hcells : kc + 1 ≤ M.2.2.2.2.1.cells) (hslots : ks + N ≤ M.2.2.2.2.1.slots) (d : decode cc pc = .ok (.new idx, 3)) (kk : xJ l M cc Q (kc + 1) (ks + N) (pc + 3) lv (.ref h.1 :: st) (h.1 + 1, va_up h.2 h.1 (.inr (.inr (ci, fs))))) : xJ l M cc Q kc ks pc lv st h := by
  intro p e s m args below meth c D aC ad b0 H locs ls Z C R L E
  have hts := C.2.2.2.2.2.2.2.1
  have hKn := R.1.1 ci _ hc
  have ha := C.2.2.2.2.2.2.2.2.2.1
  have had : ad h.1 = H.size := by rw [ha _ hn, R.2.2.2.1]
  refine W.newcK C.1 C.2.1 C.2.2.2.2.2.2.1 (hts _ w1) (hts _ w2) (hts _ w3) rfl d hcells hslots hKn.2.1 rfl fun H1 kC hkC e1 z1 o1 => ?_
  rw [← had] at e1 ⊢
  refine kk p e s m args below meth c D aC ad b0 H1 locs ls Z C (R.push ha hn z1 o1 ?_) L E
  show va_at D vwCl (ad h.1, .inr (ci, fs.map (x_v ad))) H1
  rw [hno]
  exact ⟨_, hc, (u_born tf hts hin hKn hkC e1 hty).to hfs⟩
theorem xj_newi {n : Int32} {N : Nat} (hn0 : ¬ n < 0) (hN : n.toNatClampNeg = N) (hb : N * 4 ≤ 536870912) (w1 : Cond.arrayClass .int ∈ xW) (hn : h.1 < xN) (hcells : kc + 1 ≤ M.2.2.2.2.1.cells) (hslots : ks + N ≤ M.2.2.2.2.1.slots) (d : decode cc pc = .ok (.newarray .int, 2)) (kk : xJ l M cc Q (kc + 1) (ks + N) (pc + 2) lv (.ref h.1 :: st) (h.1 + 1, va_up h.2 h.1 (.inl (N, fun _ => 0)))) : xJ l M cc Q kc ks pc lv (.int n :: st) h := by
  intro p e s m args below meth c D aC ad b0 H locs ls Z C R L E
  have hts := C.2.2.2.2.2.2.2.1
  have ha := C.2.2.2.2.2.2.2.2.2.1
  have had : ad h.1 = H.size := by rw [ha _ hn, R.2.2.2.1]
  refine va_newaK C.1 C.2.1 (atype := .int) (hts _ w1) rfl d rfl hn0 hN hb hcells hslots rfl fun H1 cA e1 z1 o1 hAr hNm => ?_
  have hcA : cA = aC 0 := Option.some.inj (hNm.symm.trans (R.1.2 0 _ rfl).2)
  rw [← had] at e1 ⊢
  refine kk p e s m args below meth c D aC ad b0 H1 locs ls Z C (R.push ha hn z1 o1 ?_) L E
  show H1[ad h.1]? = some (vp_cell (aC 0) (N, .inl (fun _ => 0)))
  rw [e1, hcA]
  rfl
theorem xj_newq {n : Int32} {N t idx : Nat} (h1 : 1 ≤ t) (h2 : t ≤ 4) (hn0 : ¬ n < 0) (hN : n.toNatClampNeg = N) (hb : N * 4 ≤ 536870912) (w1 : Cond.classLink M.1 idx (xRt t) ∈ xW) (hn : h.1 < xN) (hcells : kc + 1 ≤ M.2.2.2.2.1.cells) (hslots : ks + N ≤ M.2.2.2.2.1.slots) (d : decode cc pc = .ok (.anewarray idx, 3)) (kk : xJ l M cc Q (kc + 1) (ks + N) (pc + 3) lv (.ref h.1 :: st) (h.1 + 1, va_up h.2 h.1 (.inr (.inl (t, N, fun _ => none))))) : xJ l M cc Q kc ks pc lv (.int n :: st) h := by
  intro p e s m args below meth c D aC ad b0 H locs ls Z C R L E
  have hts := C.2.2.2.2.2.2.2.1
  have ha := C.2.2.2.2.2.2.2.2.2.1
  have had : ad h.1 = H.size := by rw [ha _ hn, R.2.2.2.1]
  have hAO : va_AO (xRt t) s := C.2.2.2.2.2.2.2.2.2.2.1.2.2.1 _ (by rcases (show t = 1 ∨ t = 2 ∨ t = 3 ∨ t = 4 by omega) with rfl | rfl | rfl | rfl <;> simp [xAO, xRt])
  subst hN
  refine W.anew C.1 C.2.1 C.2.2.2.2.2.2.1 (hts _ w1) (va_AO.use hAO) rfl d rfl hn0 hb hcells hslots fun cA kA comp f1 f2 f3 f4 => ?_
  generalize hH1 : H.push ({ cls := cA, slots := Array.replicate n.toNatClampNeg .null, vm := .none } : Cell) = H1
  have z1 : H1.size = H.size + 1 := by rw [← hH1, Array.size_push]
  have e1 : H1[H.size]? = some (arrV cA n.toNatClampNeg (fun _ => .null)) := by rw [← hH1, Array.getElem?_push_size, ← arrV_new]
  have o1 : ∀ x : Nat, x < H.size → H1[x]? = H[x]? := fun x hx => by rw [← hH1, Array.getElem?_push, if_neg (Nat.ne_of_lt hx)]
  obtain ⟨kA', comp', g1, g2, g3, g4⟩ := (R.1.2 t _ (x_ty aC h1 h2)).2
  have hcA : cA = aC t := Option.some.inj (f1.symm.trans g4)
  rw [← had] at e1 ⊢
  refine kk p e s m args below meth c D aC ad b0 H1 locs ls Z C (R.push ha hn z1 o1 ?_) L E
  show H1[ad h.1]? = some (vp_cell (aC t) (n.toNatClampNeg, .inr (.inr (.inr (.inr (fun j => (none : Option Nat).map ad))))))
  rw [e1, hcA, vp_cell_q]
  rfl
theorem xj_objInit {idx q : Nat} (w1 : Cond.methodLink M.1 idx Lib.objectInit ∈ xW) (w2 : Cond.instanceMethod Lib.objectInit ∈ xW) (w3 : Cond.code Lib.objectInit ⟨#[0xb1]⟩ 1 none ∈ xW) (hst : (st.map fun v => v.category).sum ≤ 8) (hR : 1 ≤ M.2.2.2.2.1.frames ∧ 20 ≤ M.2.2.2.2.1.locals) (d : decode cc pc = .ok (.invokespecial idx, 3)) (kk : xJ l M cc Q kc ks (pc + 3) lv st h) : xJ l M cc Q kc ks pc lv (.ref q :: st) h := by
  intro p e s m args below meth c D aC ad b0 H locs ls Z C R L E
  have hts := C.2.2.2.2.2.2.2.1
  refine W.objInit C.1 C.2.1 C.2.2.2.2.2.2.1 (hts _ w1) (hts _ w2) (hts _ w3) rfl (L.1.trans C.2.2.1.symm) rfl d hR.1 ?_ (kk p e s m args below meth c D aC ad b0 H locs ls Z C R L E)
  show 2 * 0 + ((st.map (x_v ad)).map fun v => v.category).sum + 12 ≤ _
  rw [x_v_cats]
  omega
theorem xj_mmin {idx : Nat} {x y : Int32} (w1 : Cond.methodLink M.1 idx Lib.Math.min.name ∈ xW) (w2 : Cond.static Lib.Math.min.name ∈ xW) (w3 : Cond.initialized "java/lang/Math" ∈ xW) (w4 : Cond.code Lib.Math.min.name Lib.Math.min.code 2 (some .int) ∈ xW) (hst : (st.map fun v => v.category).sum ≤ 8) (hR : 1 ≤ M.2.2.2.2.1.frames ∧ 21 ≤ M.2.2.2.2.1.locals ∧ kc ≤ M.2.2.2.2.1.cells ∧ ks ≤ M.2.2.2.2.1.slots) (d : decode cc pc = .ok (.invokestatic idx, 3)) (kk : xJ l M cc Q kc ks (pc + 3) lv (.int (if y < x then y else x) :: st) h) : xJ l M cc Q kc ks pc lv (.int y :: .int x :: st) h := by
  intro p e s m args below meth c D aC ad b0 H locs ls Z C R L E
  have hts := C.2.2.2.2.2.2.2.1
  exact va_mmin C.1 C.2.1 (C.2.2.1.trans L.1.symm) C.2.2.2.2.2.2.1 (hts _ w1) (hts _ w2) (hts _ w3) (hts _ w4) hR.1 (by rw [x_v_cats]; omega) hR.2.2.1 hR.2.2.2 d (kk p e s m args below meth c D aC ad b0 H locs ls Z C R L E)
theorem xj_mmax {idx : Nat} {x y : Int32} (w1 : Cond.methodLink M.1 idx Lib.Math.max.name ∈ xW) (w2 : Cond.static Lib.Math.max.name ∈ xW) (w3 : Cond.initialized "java/lang/Math" ∈ xW) (w4 : Cond.code Lib.Math.max.name Lib.Math.max.code 2 (some .int) ∈ xW) (hst : (st.map fun v => v.category).sum ≤ 8) (hR : 1 ≤ M.2.2.2.2.1.frames ∧ 21 ≤ M.2.2.2.2.1.locals ∧ kc ≤ M.2.2.2.2.1.cells ∧ ks ≤ M.2.2.2.2.1.slots) (d : decode cc pc = .ok (.invokestatic idx, 3)) (kk : xJ l M cc Q kc ks (pc + 3) lv (.int (if x < y then y else x) :: st) h) : xJ l M cc Q kc ks pc lv (.int y :: .int x :: st) h := by
  intro p e s m args below meth c D aC ad b0 H locs ls Z C R L E
  have hts := C.2.2.2.2.2.2.2.1
  exact va_mmax C.1 C.2.1 (C.2.2.1.trans L.1.symm) C.2.2.2.2.2.2.1 (hts _ w1) (hts _ w2) (hts _ w3) (hts _ w4) hR.1 (by rw [x_v_cats]; omega) hR.2.2.1 hR.2.2.2 d (kk p e s m args below meth c D aC ad b0 H locs ls Z C R L E)
theorem xj_instY {q ci idx : Nat} {x : vw_C} {fs : List Value} {nm : String} (hn : q < h.1) (hq : h.2 q = .inr (.inr (ci, fs))) (hc : vwCl[ci]? = some x) (hx : x.1 = nm ∨ Cond.castable x.1 nm ∈ xNw) (w1 : Cond.classLink M.1 idx nm ∈ xW) (d : decode cc pc = .ok (.instanceof idx, 3)) (kk : xJ l M cc Q kc ks (pc + 3) lv (.int 1 :: st) h) : xJ l M cc Q kc ks pc lv (.ref q :: st) h := by
  intro p e s m args below meth c D aC ad b0 H locs ls Z C R L E
  have he : (x_ws aC ad h)[q]? = some (ad q, .inr (ci, fs.map (x_v ad))) := by rw [x_ws_get hn, hq]; rfl
  have hr := va_recv R.1 R.2.1 hc he
  have kk' := kk p e s m args below meth c D aC ad b0 H locs ls Z C R L E
  rcases hx with hx | hx
  · subst hx
    exact va_instS C.1 C.2.1 C.2.2.2.2.2.2.1 (C.2.2.2.2.2.2.2.1 _ w1) (R.1.1 ci x hc).2 hr d kk'
  · exact va_instY C.1 C.2.1 C.2.2.2.2.2.2.1 (C.2.2.2.2.2.2.2.1 _ w1) (C.2.2.2.2.2.2.2.2.2.2.1.1 _ hx) hr d kk'
theorem xj_instN {q ci idx : Nat} {x : vw_C} {fs : List Value} {nm : String} (hn : q < h.1) (hq : h.2 q = .inr (.inr (ci, fs))) (hc : vwCl[ci]? = some x) (hx : (x.1, nm) ∈ xNc) (w1 : Cond.classLink M.1 idx nm ∈ xW) (d : decode cc pc = .ok (.instanceof idx, 3)) (kk : xJ l M cc Q kc ks (pc + 3) lv (.int 0 :: st) h) : xJ l M cc Q kc ks pc lv (.ref q :: st) h := by
  intro p e s m args below meth c D aC ad b0 H locs ls Z C R L E
  have he : (x_ws aC ad h)[q]? = some (ad q, .inr (ci, fs.map (x_v ad))) := by rw [x_ws_get hn, hq]; rfl
  exact va_instNo C.1 C.2.1 C.2.2.2.2.2.2.1 (C.2.2.2.2.2.2.2.1 _ w1) (C.2.2.2.2.2.2.2.2.2.2.1.2.1 _ hx) (va_recv R.1 R.2.1 hc he) d (kk p e s m args below meth c D aC ad b0 H locs ls Z C R L E)
/-- the script -/
theorem xj_sald {L0 : Nat} {xs : Nat → Int32} {i : Int32} (hM : M.2.2.2.2.2 = some (L0, xs)) (hi : vp_in i L0) (d : decode cc pc = .ok (.iaload, 1)) (kk : xJ l M cc Q kc ks (pc + 1) lv (.int (xs i.toNatClampNeg) :: st) h) : xJ l M cc Q kc ks pc lv (.int i :: .ref (xN + 3) :: st) h := by
  intro p e s m args below meth c D aC ad b0 H locs ls Z C R L E
  have hs := C.2.2.2.2.2.2.2.2.2.2.2
  rw [hM] at hs
  exact va_sld C.1 C.2.1 hs.1 (Nat.lt_of_lt_of_le hs.2 C.2.2.2.2.2.2.2.2.1) (Nat.not_le.mpr hs.2) R.2.2.1 hi d (kk p e s m args below meth c D aC ad b0 H locs ls Z C R L E)
theorem xj_slen {L0 : Nat} {xs : Nat → Int32} (hM : M.2.2.2.2.2 = some (L0, xs)) (d : decode cc pc = .ok (.arraylength, 1)) (kk : xJ l M cc Q kc ks (pc + 1) lv (.int (Int32.ofNat L0) :: st) h) : xJ l M cc Q kc ks pc lv (.ref (xN + 3) :: st) h := by
  intro p e s m args below meth c D aC ad b0 H locs ls Z C R L E
  have hs := C.2.2.2.2.2.2.2.2.2.2.2
  rw [hM] at hs
  exact va_slen C.1 C.2.1 hs.1 (Nat.lt_of_lt_of_le hs.2 C.2.2.2.2.2.2.2.2.1) (Nat.not_le.mpr hs.2) R.2.2.1 d (kk p e s m args below meth c D aC ad b0 H locs ls Z C R L E)
/-- ends -/
theorem xj_ireturn {v : Int32} {ty : FieldType} (hr : M.2.2.1 = some ty) (hv : narrow ty (.int v) = .int v) (h1 : kc ≤ M.2.2.2.2.1.cells) (h2 : ks ≤ M.2.2.2.2.1.slots) (d : decode cc pc = .ok (.ireturn, 1)) (hq : Q (some (.int v)) h) : xJ l M cc Q kc ks pc lv [.int v] h := by
  intro p e s m args below meth c D aC ad b0 H locs ls Z C R L E
  exact W.widen h1 h2 (E (some (.int v)) h H locs ls pc hq R ⟨d, ty, hr, hv⟩)
theorem xj_lreturn {v : Int64} (hr : M.2.2.1 = some .long) (h1 : kc ≤ M.2.2.2.2.1.cells) (h2 : ks ≤ M.2.2.2.2.1.slots) (d : decode cc pc = .ok (.lreturn, 1)) (hq : Q (some (.long v)) h) : xJ l M cc Q kc ks pc lv [.long v] h := by
  intro p e s m args below meth c D aC ad b0 H locs ls Z C R L E
  exact W.widen h1 h2 (E (some (.long v)) h H locs ls pc hq R ⟨d, hr⟩)
theorem xj_areturn {a : Nat} {rt : FieldType} (hr : M.2.2.1 = some rt) (hrt : (∃ n, rt = .object n) ∨ ∃ t, rt = .array t) (h1 : kc ≤ M.2.2.2.2.1.cells) (h2 : ks ≤ M.2.2.2.2.1.slots) (d : decode cc pc = .ok (.areturn, 1)) (hq : Q (some (.ref a)) h) : xJ l M cc Q kc ks pc lv [.ref a] h := by
  intro p e s m args below meth c D aC ad b0 H locs ls Z C R L E
  exact W.widen h1 h2 (E (some (.ref a)) h H locs ls pc hq R ⟨d, rt, hr, hrt⟩)
theorem xj_return (hr : M.2.2.1 = none) (h1 : kc ≤ M.2.2.2.2.1.cells) (h2 : ks ≤ M.2.2.2.2.1.slots) (d : decode cc pc = .ok (.return_, 1)) (hq : Q none h) : xJ l M cc Q kc ks pc lv [] h := by
  intro p e s m args below meth c D aC ad b0 H locs ls Z C R L E
  exact W.widen h1 h2 (E none h H locs ls pc hq R ⟨d, hr⟩)
end XJ
