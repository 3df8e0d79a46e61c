/-! The world with a new image is the old one, one row set, and the new cells. -/
theorem fillF_eq : fillF = fun i : Nat => Int32.ofInt (if 0 ≤ (i : Int) ∧ (i : Int) < 6 then -1 else 0) := by
  funext i
  simp only [fillF, upd]
  by_cases h : i < 6
  · rw [if_pos (c := 0 ≤ (i : Int) ∧ (i : Int) < 6) (by omega)]
    rcases (show i = 0 ∨ i = 1 ∨ i = 2 ∨ i = 3 ∨ i = 4 ∨ i = 5 by omega) with rfl | rfl | rfl | rfl | rfl | rfl <;> decide
  · rw [if_neg (c := 0 ≤ (i : Int) ∧ (i : Int) < 6) (by omega), if_neg (by omega), if_neg (by omega), if_neg (by omega), if_neg (by omega), if_neg (by omega), if_neg (by omega)]
    rfl
theorem SX_a {a a' : Nat → Nat} {A : Nat → Prop} {s : State} (h : SX a A s) (ha : ∀ k, 600 ≤ k → a' k = a k) : SX a' A s := by
  have e : (fun i => a' (900 + i)) = fun i => a (900 + i) := by funext i; exact ha _ (by omega)
  unfold SX
  rw [ha 900 (by omega), ha 901 (by omega), e]
  exact h

theorem arr2 {c : ClassId} {f g : Nat → Value} (h0 : f 0 = g 0) (h1 : f 1 = g 1) : arrV c 2 f = arrV c 2 g := by
  unfold arrV
  congr 2
  funext j
  match j with
  | ⟨0, _⟩ => exact h0
  | ⟨1, _⟩ => exact h1
def gN (F : Nat) (X : Int) (q a : Nat → Nat) (cy : Nat → ClassId) (σ : Sg) (e : Nat × Nat × Nat) : Nat × va_E := (aN F q σ a e.1, ent (aN F q σ a) cy e.1 (sgN F X σ e.1) e.2)
theorem kB15 : ∀ i ∈ List.range kBl.length, i ≠ 15 → kBl[i]?.map (fun e => e.1) ≠ some 16 := by decide +kernel
theorem mB_new {F : Nat} {X : Int} {q a : Nat → Nat} {cy : Nat → ClassId} {σ : Sg} (hF : F = 60 ∨ F = 80) : kBl.map (gN F X q a cy σ) = (kBl.map (fun e => (a e.1, ent a cy e.1 (σ e.1) e.2))).set 15 (gN F X q a cy σ (16, 4, 2)) := by
  apply List.ext_getElem?
  intro i
  by_cases hi : i = 15
  · subst hi
    rw [List.getElem?_set_self (by rw [List.length_map]; decide), List.getElem?_map, show kBl[15]? = some (16, 4, 2) from rfl]
    rfl
  · rw [List.getElem?_set_ne (Ne.symm hi), List.getElem?_map, List.getElem?_map]
    by_cases hl : i < kBl.length
    · rw [List.getElem?_eq_getElem hl]
      simp only [Option.map_some]
      have hm : kBl[i] ∈ kBl := List.getElem_mem hl
      have h16 : (kBl[i]).1 ≠ 16 := fun q => kB15 i (List.mem_range.mpr hl) hi (by rw [List.getElem?_eq_getElem hl]; simp [q])
      obtain ⟨t1, t2, t3⟩ := tI1 _ hm
      refine congrArg some (ent_n hF (List.mem_append_left _ hm) h16 ⟨by omega, t2⟩ (fun z j hj h2 => ?_))
      have := t3 z j (List.mem_range.mpr hj) h2
      exact ⟨by omega, this.2⟩
    · rw [List.getElem?_eq_none (by omega)]; rfl
theorem mT_0 {X : Int} {q a : Nat → Nat} {cy : Nat → ClassId} {σ : Sg} : kI1.map (gN 60 X q a cy σ) = kI1.map (fun e => (a e.1, ent a cy e.1 (σ e.1) e.2)) := by
  refine List.map_congr_left (fun e he => ?_)
  obtain ⟨t1, t2⟩ := tI3 e he
  refine ent_n (Or.inl rfl) (List.mem_append_right _ (List.mem_append_right _ he)) (by omega) ⟨by omega, by omega⟩ (fun z j hj h2 => ?_)
  have := t2 z j (List.mem_range.mpr hj) h2
  exact ⟨by omega, by omega⟩
theorem mT_1 {X : Int} {q a : Nat → Nat} {cy : Nat → ClassId} {σ : Sg} : kI0.map (gN 80 X q a cy σ) = kI0.map (fun e => (a e.1, ent a cy e.1 (σ e.1) e.2)) := by
  refine List.map_congr_left (fun e he => ?_)
  obtain ⟨t1, t2⟩ := tI2 e he
  refine ent_n (Or.inr rfl) (List.mem_append_right _ (List.mem_append_left _ he)) (by omega) ⟨by omega, by omega⟩ (fun z j hj h2 => ?_)
  have := t2 z j (List.mem_range.mpr hj) h2
  exact ⟨by omega, by omega⟩
set_option maxRecDepth 100000 in
set_option maxHeartbeats 4000000 in
theorem mI_0 {X : Int} {q a : Nat → Nat} {cy : Nat → ClassId} {σ : Sg} : kI0.map (gN 60 X q a cy σ) = wB_0 cy q := by
  unfold wB_0
  rw [fillF_eq]
  rfl
set_option maxRecDepth 100000 in
set_option maxHeartbeats 4000000 in
theorem mI_1 {X : Int} {q a : Nat → Nat} {cy : Nat → ClassId} {σ : Sg} : kI1.map (gN 80 X q a cy σ) = wB_0 cy q := by
  unfold wB_0
  rw [fillF_eq]
  rfl
theorem sgN_16 {F : Nat} {X : Int} {σ : Sg} (hF : F = 60 ∨ F = 80) : sgN F X σ 16 X = F := by
  unfold sgN; rw [if_neg (by omega), if_pos ⟨rfl, rfl⟩]
theorem sgN_16o {F : Nat} {X i : Int} {σ : Sg} (hF : F = 60 ∨ F = 80) (h : i ≠ X) : sgN F X σ 16 i = σ 16 i := by
  unfold sgN; rw [if_neg (by omega), if_neg (fun q => h q.2), if_neg (fun q => by omega), if_neg (fun q => by omega)]
theorem set_app {α : Type} {l1 l2 : List α} {i : Nat} {x : α} (h : i < l1.length) : (l1 ++ l2).set i x = l1.set i x ++ l2 := by
  rw [List.set_append]; rw [if_pos h]
theorem w_new {F : Nat} {X : Int} {q a : Nat → Nat} {cy : Nat → ClassId} {σ : Sg} {D : va_G} {A : Nat → Prop} {H : Heap} (hx : (X = 0 ∧ F = 60 ∧ (σ 16 1 = 0 ∨ σ 16 1 = 80)) ∨ (X = 1 ∧ F = 80 ∧ (σ 16 0 = 0 ∨ σ 16 0 = 60))) (h16 : σ 16 X = 0)
    (hP : va_P D vwCl ((wld a cy σ ++ wB_0 cy q).set 15 (a 16, .inl (cy 3, 2, .inr (.inr (.inr (.inr (va_up (fun i : Nat => if (σ 16 i).toNat = 0 then none else some (a (σ 16 i).toNat)) X.toNat (some (q 0))))))))) H)
    (hD : va_D A ((wld a cy σ ++ wB_0 cy q).set 15 (a 16, .inl (cy 3, 2, .inr (.inr (.inr (.inr (va_up (fun i : Nat => if (σ 16 i).toNat = 0 then none else some (a (σ 16 i).toNat)) X.toNat (some (q 0)))))))))) :
    va_P D vwCl (wld (aN F q σ a) cy (sgN F X σ)) H ∧ va_D A (wld (aN F q σ a) cy (sgN F X σ)) := by
  have hF : F = 60 ∨ F = 80 := by omega
  obtain ⟨W1, hW⟩ : ∃ W1, W1 = wld a cy σ ++ wB_0 cy q := ⟨_, rfl⟩
  rw [← hW] at hP hD
  have hlen : 15 < W1.length := by
    rw [hW, List.length_append]; unfold wld kl; rw [List.length_map, List.length_append]
    have : 15 < kBl.length := by decide
    omega
  have hg : gN F X q a cy σ (16, 4, 2) = (a 16, .inl (cy 3, 2, .inr (.inr (.inr (.inr (fun i : Nat => if (sgN F X σ 16 i).toNat = 0 then none else some (aN F q σ a (sgN F X σ 16 i).toNat))))))) := by
    unfold gN
    rw [aN_o (k := (16, 4, 2).1) (by show ¬ (F ≤ 16 ∧ _); omega) (by show 16 < 500 ∨ _; omega)]
    rfl
  have hat := hP 15 _ (List.getElem?_set_self hlen)
  have hat2 : va_at D vwCl (gN F X q a cy σ (16, 4, 2)) H := by
    rw [hg]
    refine Eq.trans hat (congrArg some ?_)
    refine arr2 (c := cy 3) (f := fun j => va_rf (va_up (fun i : Nat => if (σ 16 i).toNat = 0 then none else some (a (σ 16 i).toNat)) X.toNat (some (q 0)) j)) (g := fun i => va_rf (if (sgN F X σ 16 i).toNat = 0 then none else some (aN F q σ a (sgN F X σ 16 i).toNat))) ?_ ?_
    · show va_rf (va_up _ X.toNat (some (q 0)) 0) = va_rf (if (sgN F X σ 16 ((0 : Nat) : Int)).toNat = 0 then none else _)
      rcases hx with ⟨rfl, rfl, h1⟩ | ⟨rfl, rfl, h1⟩
      · rw [show sgN 60 0 σ 16 ((0 : Nat) : Int) = 60 from sgN_16 (Or.inl rfl)]
        rfl
      · rw [show sgN 80 1 σ 16 ((0 : Nat) : Int) = σ 16 0 from sgN_16o (Or.inr rfl) (by decide)]
        show va_rf (if (σ 16 0).toNat = 0 then none else some (a (σ 16 0).toNat)) = _
        rcases h1 with h1 | h1 <;> rw [h1]
        · rfl
        · show va_rf (some (a 60)) = va_rf (some (aN 80 q σ a 60))
          rw [aN_o (by omega) (by omega)]
    · show va_rf (va_up _ X.toNat (some (q 0)) 1) = va_rf (if (sgN F X σ 16 ((1 : Nat) : Int)).toNat = 0 then none else _)
      rcases hx with ⟨rfl, rfl, h1⟩ | ⟨rfl, rfl, h1⟩
      · rw [show sgN 60 0 σ 16 ((1 : Nat) : Int) = σ 16 1 from sgN_16o (Or.inl rfl) (by decide)]
        show va_rf (if (σ 16 1).toNat = 0 then none else some (a (σ 16 1).toNat)) = _
        rcases h1 with h1 | h1 <;> rw [h1]
        · rfl
        · show va_rf (some (a 80)) = va_rf (some (aN 60 q σ a 80))
          rw [aN_o (by omega) (by omega)]
      · rw [show sgN 80 1 σ 16 ((1 : Nat) : Int) = 80 from sgN_16 (Or.inr rfl)]
        rfl
  have hfst : (gN F X q a cy σ (16, 4, 2)) = (a 16, (gN F X q a cy σ (16, 4, 2)).2) := by rw [hg]
  have hP2 := hP.set (e := (gN F X q a cy σ (16, 4, 2)).2) (H1 := H) hD (List.getElem?_set_self hlen) (by rw [← hfst]; exact hat2) (fun _ _ => rfl)
  have hD2 := hD.set (e := (gN F X q a cy σ (16, 4, 2)).2) (List.getElem?_set_self hlen)
  rw [← hfst, List.set_set] at hP2 hD2
  have hkb : 15 < (kBl.map (fun e : Nat × Nat × Nat => (a e.1, ent a cy e.1 (σ e.1) e.2))).length := by rw [List.length_map]; decide
  rcases hx with ⟨rfl, rfl, h1⟩ | ⟨rfl, rfl, h1⟩
  · have e1 : W1.set 15 (gN 60 0 q a cy σ (16, 4, 2)) = (kBl.map (gN 60 0 q a cy σ) ++ (if σ 16 1 = 80 then kI1 else []).map (gN 60 0 q a cy σ)) ++ wB_0 cy q := by
      rw [hW]
      unfold wld kl
      rw [h16, if_neg (by decide), List.nil_append, List.map_append, List.append_assoc, set_app hkb, ← mB_new (Or.inl rfl), ← List.append_assoc]
      congr 2
      split
      · exact mT_0.symm
      · rfl
    have e2 : wld (aN 60 q σ a) cy (sgN 60 0 σ) = (kBl.map (gN 60 0 q a cy σ) ++ wB_0 cy q) ++ (if σ 16 1 = 80 then kI1 else []).map (gN 60 0 q a cy σ) := by
      unfold wld kl
      rw [show sgN 60 0 σ 16 0 = 60 from sgN_16 (Or.inl rfl), if_pos rfl, show sgN 60 0 σ 16 1 = σ 16 1 from sgN_16o (Or.inl rfl) (by decide), List.map_append, List.map_append, ← List.append_assoc]
      congr 2
      exact mI_0
    rw [e1] at hP2 hD2
    rw [e2]
    exact ⟨hP2.swap, hD2.swap⟩
  · have e1 : W1.set 15 (gN 80 1 q a cy σ (16, 4, 2)) = (kBl.map (gN 80 1 q a cy σ) ++ (if σ 16 0 = 60 then kI0 else []).map (gN 80 1 q a cy σ)) ++ wB_0 cy q := by
      rw [hW]
      unfold wld kl
      rw [h16, if_neg (c := (0 : Int) = 80) (by decide), List.append_nil, List.map_append, List.append_assoc, set_app hkb, ← mB_new (Or.inr rfl), ← List.append_assoc]
      congr 2
      split
      · exact mT_1.symm
      · rfl
    have e2 : wld (aN 80 q σ a) cy (sgN 80 1 σ) = (kBl.map (gN 80 1 q a cy σ) ++ (if σ 16 0 = 60 then kI0 else []).map (gN 80 1 q a cy σ)) ++ wB_0 cy q := by
      unfold wld kl
      rw [show sgN 80 1 σ 16 1 = 80 from sgN_16 (Or.inr rfl), if_pos (c := (80 : Int) = 80) rfl, show sgN 80 1 σ 16 0 = σ 16 0 from sgN_16o (Or.inr rfl) (by decide), List.map_append, List.map_append, ← List.append_assoc]
      congr 1
      exact mI_1
    rw [e1] at hP2 hD2
    rw [e2]
    exact ⟨hP2, hD2⟩
