/-! What holds at the law's entry. -/
theorem zi_all : ∀ k, k < 7 → Cond.instantiable (cN k) (nS k) ∈ lw_tbl := by
  intro k hk
  rcases (show k = 0 ∨ k = 1 ∨ k = 2 ∨ k = 3 ∨ k = 4 ∨ k = 5 ∨ k = 6 by omega) with rfl | rfl | rfl | rfl | rfl | rfl | rfl
  · exact zi_0
  · exact zi_1
  · exact zi_2
  · exact zi_3
  · exact zi_4
  · exact zi_5
  · exact zi_6
theorem vcl_lt {k : Nat} {q : vw_C} (h : vwCl[k]? = some q) : k < 7 := (List.getElem?_eq_some_iff.mp h).1
theorem zx_ao : Cond.arrayOver (.object RX0) ∈ lw_tbl := List.mem_of_getElem? (i := 173) (by decide +kernel)
theorem zx_n1 : Cond.methodLinkNest RX0 36 yX2_init RX5 ∈ lw_tbl := List.mem_of_getElem? (i := 89) (by decide +kernel)
theorem zx_n2 : Cond.methodLinkNest RX5 26 yX4_init RX5 ∈ lw_tbl := List.mem_of_getElem? (i := 176) (by decide +kernel)
theorem zx_n3 : Cond.methodLinkNest RX5 33 yX2_init RX5 ∈ lw_tbl := List.mem_of_getElem? (i := 225) (by decide +kernel)
theorem zx_n4 : Cond.methodLinkNest RX5 61 yX3_init RX5 ∈ lw_tbl := List.mem_of_getElem? (i := 228) (by decide +kernel)
theorem zx_n5 : Cond.methodLinkNest RX5 68 yX1_init RX5 ∈ lw_tbl := List.mem_of_getElem? (i := 251) (by decide +kernel)
theorem zx_n6 : Cond.methodLinkNest (cN 4) 98 (mN m_X5_within) RX5 ∈ lw_tbl := List.mem_of_getElem? (i := 458) (by decide +kernel)
theorem arrK {args : Array Value} {s : State} {ty : FieldType} (h : (Cond.arrayClass ty).before args s = true) (hn : ∀ C, ty ≠ .object C) : ∃ cA, ArrOfT s cA ty ∧ va_RA s cA ty := by
  obtain ⟨cA, kA, comp, h1, h2, h3⟩ := Cond.arrayClass_spec h
  refine ⟨cA, fun n z => ⟨fun k h => (by cases h), kA, h2, comp, h3⟩, ?_⟩
  cases ty with
  | object C => exact absurd rfl (hn C)
  | _ => exact h1
theorem K0 {args : Array Value} {s : State} (hts : ∀ w ∈ lw_tbl, w.before args s = true) : ∃ (dC : Nat → ClassId) (dI : Nat → Nat → Nat) (cy : Nat → ClassId), va_K (dC, dI) vwCl (tys cy) s := by
  have h : ∀ k : Nat, ∃ q : ClassId × (Nat → Nat), k < 7 → u_Kn s (cN k) (Tc k) (nS k) q.1 q.2 := by
    intro k
    by_cases hk : k < 7
    · obtain ⟨cC, iS, hq⟩ := u_known (C := cN k) (T := Tc k) (N := nS k) hts (fun w hw => lwg_in w (uws_in hk w hw)) (hts _ (zi_all k hk))
      exact ⟨(cC, iS), fun _ => hq⟩
    · exact ⟨(default, fun _ => 0), fun q => absurd q hk⟩
  obtain ⟨f, hf⟩ : ∃ f : Nat → ClassId × (Nat → Nat), ∀ k, k < 7 → u_Kn s (cN k) (Tc k) (nS k) (f k).1 (f k).2 := ⟨fun k => Classical.choose (h k), fun k => Classical.choose_spec (h k)⟩
  obtain ⟨c0, h0⟩ := arrK (hts _ za_int) (fun C q => by cases q)
  obtain ⟨c1, h1⟩ := arrK (hts _ za_long) (fun C q => by cases q)
  obtain ⟨c2, h2⟩ := arrK (hts _ za_boolean) (fun C q => by cases q)
  obtain ⟨comp, c3, kA, g1, -, g2, g3, g4⟩ := Cond.arrayOver_spec (hts _ zx_ao)
  refine ⟨fun k => (f k).1, fun k => (f k).2, fun k => if k = 0 then c0 else if k = 1 then c1 else if k = 2 then c2 else c3, fun k q hq => ?_, fun k q hq => ?_⟩
  · have hk := vcl_lt hq
    rw [vcl hk] at hq
    cases hq
    exact hf k hk
  · have hk : k < 4 := (List.getElem?_eq_some_iff.mp hq).1
    rcases (show k = 0 ∨ k = 1 ∨ k = 2 ∨ k = 3 by omega) with rfl | rfl | rfl | rfl
    · cases hq; exact h0
    · cases hq; exact h1
    · cases hq; exact h2
    · cases hq
      exact ⟨fun n z => ⟨fun k h => (by cases h), kA, g2, comp, g3⟩, kA, comp, g2, g3, g1, g4⟩
theorem NW0 {args : Array Value} {s : State} (hts : ∀ w ∈ lw_tbl, w.before args s = true) : NW s :=
  ⟨va_Nw.of rfl (hts _ zx_n1), va_Nw.of rfl (hts _ zx_n2), va_Nw.of rfl (hts _ zx_n3), va_Nw.of rfl (hts _ zx_n4), va_Nw.of rfl (hts _ zx_n5), va_AO.of (hts _ zx_ao)⟩
def stT (i : Nat) : Term := .string "RolledStones$Reader" (if i = 0 then 78 else 84)
theorem zx_s1 : Cond.stringRef RX3 78 "claim" ∈ lw_tbl := List.mem_of_getElem? (i := 668) (by decide +kernel)
theorem zx_s2 : Cond.stringRef RX3 84 "back" ∈ lw_tbl := List.mem_of_getElem? (i := 721) (by decide +kernel)
theorem zx_l1 : Cond.laysStatic "java/lang/String" "COMPACT_STRINGS" "Z" ∈ lw_tbl := List.mem_of_getElem? (i := 682) (by decide +kernel)
theorem zx_l2 : Cond.laysStatic "jdk/internal/util/Preconditions" "SIOOBE_FORMATTER" "Ljava/util/function/BiFunction;" ∈ lw_tbl := List.mem_of_getElem? (i := 698) (by decide +kernel)
theorem zx_i1 : Cond.initialized "java/lang/String" ∈ lw_tbl := List.mem_of_getElem? (i := 69) (by decide +kernel)
theorem zx_i2 : Cond.initialized "jdk/internal/util/Preconditions" ∈ lw_tbl := List.mem_of_getElem? (i := 71) (by decide +kernel)
set_option maxRecDepth 100000 in
set_option maxHeartbeats 4000000 in
theorem SX0 {s : State} {b : Nat} (hts : ∀ w ∈ lw_tbl, w.before #[Value.ref b] s = true) (hgv : (Jvm.Cond.and given_1 narrow_1).before #[Value.ref b] s = true) : ∃ ad : Nat → Nat, ∀ a : Nat → Nat, (∀ i, i < 2 → a (900 + i) = ad i) → SX a (fun q : Nat => s.heap.size ≤ q) s := by
  have hs := flat_of_before _ hgv
  have hA : ∀ q : Nat, q < s.heap.size → ¬ (fun q : Nat => s.heap.size ≤ q) q := fun q h => Nat.not_le.mpr h
  obtain ⟨adK, adV, hS, hv⟩ := vk_Sof (args := #[Value.ref b]) (s := s) (N := 2) (tm := stT) (len := [5, 4]) (byt := sby) (A := fun q : Nat => s.heap.size ≤ q)
    (fun i hi => by rcases (show i = 0 ∨ i = 1 by omega) with rfl | rfl <;> decide)
    (fun i hi => by rcases (show i = 0 ∨ i = 1 by omega) with rfl | rfl <;> exact hs _ (by decide +kernel))
    (fun i hi => by rcases (show i = 0 ∨ i = 1 by omega) with rfl | rfl <;> exact hs _ (by decide +kernel))
    (fun i hi => by rcases (show i = 0 ∨ i = 1 by omega) with rfl | rfl <;> exact hs _ (by decide +kernel))
    (fun i hi => by rcases (show i = 0 ∨ i = 1 by omega) with rfl | rfl <;> exact hs _ (by decide +kernel))
    (fun i hi j hj => by
      rcases (show i = 0 ∨ i = 1 by omega) with rfl | rfl
      · have hj : j < 5 := hj
        rcases (show j = 0 ∨ j = 1 ∨ j = 2 ∨ j = 3 ∨ j = 4 by omega) with rfl | rfl | rfl | rfl | rfl <;> exact hs _ (by decide +kernel)
      · have hj : j < 4 := hj
        rcases (show j = 0 ∨ j = 1 ∨ j = 2 ∨ j = 3 by omega) with rfl | rfl | rfl | rfl <;> exact hs _ (by decide +kernel))
    (fun i j hi hj hij => by
      rcases (show i = 0 ∨ i = 1 by omega) with rfl | rfl
      · rcases (show j = 1 by omega) with rfl
        exact Or.inl (hs _ (by decide +kernel))
      · rcases (show j = 0 by omega) with rfl
        exact Or.inr (hs _ (by decide +kernel))) hA
  have hZ1 : va_Z "java/lang/String" "COMPACT_STRINGS" "Z" (.int 1) (fun q : Nat => s.heap.size ≤ q) s s.heap := va_Zof (hts _ zx_l1) (hts _ zx_i1) (va_eqi (hs (.eq (.static "java/lang/String" "COMPACT_STRINGS" "Z") (.int 1)) (by decide +kernel))) hA
  have hZ2 : va_Zq "jdk/internal/util/Preconditions" "SIOOBE_FORMATTER" "Ljava/util/function/BiFunction;" (fun q : Nat => s.heap.size ≤ q) s s.heap := va_Zqof (hts _ zx_l2) (hts _ zx_i2) (hs (.isRef (.static "jdk/internal/util/Preconditions" "SIOOBE_FORMATTER" "Ljava/util/function/BiFunction;")) (by decide +kernel)) hA
  refine ⟨adK, fun a ha => ⟨?_, ?_, ⟨adV, ?_⟩, hZ1, hZ2, va_Nw.of rfl (hts _ zx_n6)⟩⟩
  · rw [show a 900 = adK 0 from ha 0 (by omega)]
    exact vk_R.of (hts _ zx_s1) (hv 0 (by omega))
  · rw [show a 901 = adK 1 from ha 1 (by omega)]
    exact vk_R.of (hts _ zx_s2) (hv 1 (by omega))
  · refine ⟨fun i hi => ?_, fun i j hi hj h => ?_⟩
    · dsimp only
      rw [ha i hi]; exact hS.1 i hi
    · have h : a (900 + i) = a (900 + j) := h
      rw [ha i hi, ha j hj] at h; exact hS.2 i j hi hj h
