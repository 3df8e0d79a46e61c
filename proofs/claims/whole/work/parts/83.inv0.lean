/-! The state behind the constructors. -/
def sg0 (scr : Int → Int) : Sg := fun k i => if k = 15 then (if 0 ≤ i ∧ i < 6 then -1 else 0) else if k = 101 then (if i = 2 ∨ (24 ≤ i ∧ i < 30) then -1 else 0) else if k = 2 then (if i = 10 then -1 else 0) else if k = 1 then (if i = 8 then -1 else if i = 14 then 1 else 0) else if k = 100 then (if i = 5 then 1 else 0) else if k = 999 then scr i else 0
def a0F (q q' ad : Nat → Nat) (b : Nat) : Nat → Nat := fun k => if k < 48 then q (k - 1) else if k < 119 then q' (k - 100) else if k = 900 then ad 0 else if k = 901 then ad 1 else b
theorem bookF_eq : bookF = fun i : Nat => Int32.ofInt (if (i : Int) = 2 ∨ (24 ≤ (i : Int) ∧ (i : Int) < 30) then -1 else 0) := by
  funext i
  simp only [bookF, upd]
  by_cases h : i = 2 ∨ (24 ≤ i ∧ i < 30)
  · rw [if_pos (c := (i : Int) = 2 ∨ (24 ≤ (i : Int) ∧ (i : Int) < 30)) (by omega)]
    rcases (show i = 2 ∨ i = 24 ∨ i = 25 ∨ i = 26 ∨ i = 27 ∨ i = 28 ∨ i = 29 by omega) with rfl | rfl | rfl | rfl | rfl | rfl | rfl <;> decide
  · rw [if_neg (c := (i : Int) = 2 ∨ (24 ≤ (i : Int) ∧ (i : Int) < 30)) (by omega), if_neg (by omega), if_neg (by omega), if_neg (by omega), if_neg (by omega), if_neg (by omega), if_neg (by omega), if_neg (by omega)]
    rfl
set_option maxRecDepth 100000 in
set_option maxHeartbeats 4000000 in
theorem w0_eq (q q' ad : Nat → Nat) (b : Nat) (cy : Nat → ClassId) (scr : Int → Int) : wld (a0F q q' ad b) cy (sg0 scr) = wB_5 cy q ++ wB_6 cy q' := by
  unfold wB_5 wB_6
  rw [fillF_eq, bookF_eq]
  rfl
theorem b0_z {scr : Int → Int} {j : Int} (h : ¬ (j = 2 ∨ (24 ≤ j ∧ j < 30))) : sg0 scr 101 j = 0 := by
  show (if j = 2 ∨ (24 ≤ j ∧ j < 30) then (-1 : Int) else 0) = 0
  rw [if_neg h]
theorem inv0 (scr : Int → Int) : Inv (sg0 scr) := by
  have e0 : sg0 scr 101 0 = 0 := rfl
  refine ⟨⟨⟨by rw [e0]; omega, by rw [e0]; omega, rfl⟩, fun s a c => ?_, fun s a c => by rw [e0] at c; omega, fun s t a c d => by rw [e0] at d; omega, fun s w a c => by rw [e0] at c; omega, fun c a d => ?_, fun k a c => ?_, ⟨Int.le_refl _, by show (0 : Int) ≤ 200; omega, rfl⟩, fun i a c => ?_, ⟨Int.le_refl _, by show (-1 : Int) ≤ 19; omega, rfl⟩, fun s a c => ?_⟩, ⟨rfl, rfl⟩, fun i _ _ => rfl, Or.inl ⟨rfl, rfl⟩, Or.inl ⟨rfl, rfl⟩⟩
  · rw [b0_z (by omega), b0_z (by omega), b0_z (by omega)]
    exact ⟨rfl, rfl, rfl, by omega, by omega⟩
  · rw [b0_z (by omega), b0_z (by omega)]
    exact ⟨rfl, rfl, by omega, by omega, Or.inl rfl⟩
  · rw [b0_z (by omega), b0_z (by omega), b0_z (by omega)]
    exact ⟨rfl, rfl, by omega, by omega, ⟨Int.le_refl _, by show (0 : Int) ≤ 9; omega⟩, Or.inl rfl, rfl⟩
  · rw [b0_z (by omega)]
    exact ⟨rfl, by omega, by omega⟩
  · have h1 : sg0 scr 101 (24 + s) = -1 := by
      show (if 24 + s = 2 ∨ (24 ≤ 24 + s ∧ 24 + s < 30) then (-1 : Int) else 0) = -1
      rw [if_pos (by omega)]
    have h2 : sg0 scr 15 s = -1 := by
      show (if 0 ≤ s ∧ s < 6 then (-1 : Int) else 0) = -1
      rw [if_pos (by omega)]
    rw [h1]
    exact ⟨h2, by omega, by omega, fun _ => rfl⟩
