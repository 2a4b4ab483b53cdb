set_option maxHeartbeats 4000000 in
set_option maxRecDepth 100000 in
theorem kn_T {b : Nat} {s : State} (hts : ∀ w ∈ lw_tbl, w.before #[Value.ref b] s = true) (hgv : (Jvm.Cond.and given_1 narrow_1).before #[Value.ref b] s = true) : ∃ k v f : Nat, ∀ b', xT (adF s.heap.size k v f b') s.heap.size s s.heap := by
  have hs := flat_of_before _ hgv
  have hA : ∀ a : Nat, a < s.heap.size → ¬ xA s.heap.size a := fun a ha h => absurd ha (Nat.not_lt.mpr h)
  have hel : ∀ j, j < 63 → (Cond.eq (.elem (.field (.string RX9 100) "java/lang/String" "value" "[B") (.int (Int32.ofNat j))) (.int (xBytes.getD j 0))).before #[Value.ref b] s = true := fun j hj => hs _ ((by decide +kernel : ∀ j, j < 63 → (Cond.eq (.elem (.field (.string RX9 100) "java/lang/String" "value" "[B") (.int (Int32.ofNat j))) (.int (xBytes.getD j 0))) ∈ _) j hj)
  obtain ⟨adK, adV, hS, hev⟩ := vk_Sof (args := #[Value.ref b]) (s := s) (N := 1) (tm := fun _ => .string RX9 100) (len := [63]) (byt := [xBytes]) (A := xA s.heap.size) (fun i hi => by
    have e : i = 0 := by omega
    subst e
    decide) (fun i hi => hs _ (by decide +kernel)) (fun i hi => hs _ (by decide +kernel)) (fun i hi => hs _ (by decide +kernel)) (fun i hi => by
    have e : i = 0 := by omega
    subst e
    exact hs _ (by decide +kernel)) (fun i hi j hj => by
    have e : i = 0 := by omega
    subst e
    exact hel j hj) (fun i j hi hj hne => absurd (show i = j by omega) hne) hA
  have hz1 := va_Zof (A := xA s.heap.size) (hts (.laysStatic "java/lang/String" "COMPACT_STRINGS" "Z") (by decide +kernel)) (hts (.initialized "java/lang/String") (by decide +kernel)) (va_eqi (hs (.eq (.static "java/lang/String" "COMPACT_STRINGS" "Z") (.int 1)) (by decide +kernel))) hA
  have hz2 := va_Zqof (A := xA s.heap.size) (hts (.laysStatic "jdk/internal/util/Preconditions" "SIOOBE_FORMATTER" "Ljava/util/function/BiFunction;") (by decide +kernel)) (hts (.initialized "jdk/internal/util/Preconditions") (by decide +kernel)) (hs (.isRef (.static "jdk/internal/util/Preconditions" "SIOOBE_FORMATTER" "Ljava/util/function/BiFunction;")) (by decide +kernel)) hA
  have hSt : (Cond.stringRef RX9 100 xWords).before #[Value.ref b] s = true := hts _ (by decide +kernel)
  have hNw : ∀ w ∈ xNw, va_Nw w s := fun w hw => by
    simp only [xNw, List.mem_cons, List.not_mem_nil, or_false] at hw
    rcases hw with rfl | rfl | rfl | rfl | rfl | rfl | rfl | rfl | rfl | rfl | rfl | rfl | rfl | rfl | rfl <;> exact va_Nw.of rfl (hts _ (by decide +kernel))
  have hNc : ∀ q ∈ xNc, va_Nc q.1 q.2 s := fun q hq => by
    simp only [xNc, List.mem_cons, List.not_mem_nil, or_false] at hq
    rcases hq with rfl | rfl | rfl | rfl | rfl | rfl | rfl | rfl | rfl | rfl | rfl | rfl | rfl | rfl | rfl | rfl | rfl | rfl | rfl | rfl | rfl | rfl | rfl <;> exact va_Nc.of (hs _ (by decide +kernel))
  have hAO : ∀ C ∈ xAO, va_AO C s := fun C hC => by
    simp only [xAO, List.mem_cons, List.not_mem_nil, or_false] at hC
    rcases hC with rfl | rfl | rfl | rfl <;> exact va_AO.of (hts _ (by decide +kernel))
  have hS0 : vk_S 1 [63] [xBytes] (fun _ => adK 0) (fun _ => adV 0) (xA s.heap.size) s s.heap := ⟨fun i hi => by
    have e : i = 0 := by omega
    subst e
    exact hS.1 0 hi, fun i j hi hj _ => by omega⟩
  obtain ⟨f, hf⟩ : ∃ f : Nat, va_Z "jdk/internal/util/Preconditions" "SIOOBE_FORMATTER" "Ljava/util/function/BiFunction;" .null (xA s.heap.size) s s.heap ∨ va_Z "jdk/internal/util/Preconditions" "SIOOBE_FORMATTER" "Ljava/util/function/BiFunction;" (.ref f) (xA s.heap.size) s s.heap := by
    rcases hz2 with h | ⟨t, h⟩
    · exact ⟨0, Or.inl h⟩
    · exact ⟨t, Or.inr h⟩
  refine ⟨adK 0, adV 0, f, fun b' => ⟨hNw, hNc, hAO, ?_, ?_, hz1, ?_⟩⟩
  · rw [adF_0]; exact vk_R.of hSt (hev 0 (by decide))
  · rw [adF_0, adF_1]; exact hS0
  · rw [adF_2]; exact hf
