set_option maxRecDepth 100000 in
theorem en_X5_stone {d : Nat} {o : Nat} {a0 : Int} {a1 : Int} {a2 : Int} {σ σ0 : Sg} {r0 : AV} (h : Rn d m_X5_stone 0 [vR o, vI a0, vI a1, vI a2] [] σ (fun r σ1 => r = r0 ∧ σ1 = σ0)) : Ev (d + 1) m_X5_stone [vR o, vI a0, vI a1, vI a2] σ r0 σ0 := Ev_is (Nat.le_of_ble_eq_true rfl) h
set_option maxRecDepth 100000 in
theorem eo_X5_stone {d : Nat} {o : Nat} {a0 : Int} {a1 : Int} {a2 : Int} {σ : Sg} {Q : AV → Sg → Prop} (h : Rn d m_X5_stone 0 [vR o, vI a0, vI a1, vI a2] [] σ Q) : ∃ r σ1, Ev (d + 1) m_X5_stone [vR o, vI a0, vI a1, vI a2] σ r σ1 ∧ Q r σ1 := Ev_of (Nat.le_of_ble_eq_true rfl) h
set_option maxRecDepth 100000 in
theorem s_X5_stone_0 {d : Nat} {l0 l2 l3 : AV} {st : List AV} {x : Int} {σ : Sg} {Q : AV → Sg → Prop}  : Rn d m_X5_stone 0 [l0, vI x, l2, l3] st σ Q ↔ Rn d m_X5_stone 1 [l0, vI x, l2, l3] (vI x :: st) σ Q := q3 (show fnd (pgm m_X5_stone) 0 = some (1, 3, 0, 1, 0, []) from rfl) rfl
set_option maxRecDepth 100000 in
theorem s_X5_stone_1 {d : Nat} {l0 l1 l2 l3 : AV} {st : List AV} {σ : Sg} {Q : AV → Sg → Prop}  : Rn d m_X5_stone 1 [l0, l1, l2, l3] st σ Q ↔ Rn d m_X5_stone 2 [l0, l1, l2, l3] (vI 5 :: st) σ Q := q0 (show fnd (pgm m_X5_stone) 1 = some (2, 0, 5, 0, 0, []) from rfl)
set_option maxRecDepth 100000 in
theorem s_X5_stone_2 {d : Nat} {l0 l1 l2 l3 : AV} {st : List AV}  {a0 : Int} {a1 : Int} {σ : Sg} {Q : AV → Sg → Prop} (h4 : st.length ≤ 4) : Rn d m_X5_stone 2 [l0, l1, l2, l3] (vI a1 :: vI a0 :: st) σ Q ↔ ∃ r σ1, Ev d m_X5_within [vI a0, vI a1] σ r σ1 ∧ Rn d m_X5_stone 5 [l0, l1, l2, l3] (psh r st) σ1 Q := q35 (show fnd (pgm m_X5_stone) 2 = some (5, 35, 80, 89, 2, []) from rfl) ⟨⟨by simp, by simpa using h4⟩, rfl⟩
set_option maxRecDepth 100000 in
theorem s_X5_stone_5 {d : Nat} {l0 l1 l2 l3 : AV} {st : List AV} {a : Int} {σ : Sg} {Q : AV → Sg → Prop}  : Rn d m_X5_stone 5 [l0, l1, l2, l3] (vI a :: st) σ Q ↔ if w32 a = 0 then Rn d m_X5_stone 29 [l0, l1, l2, l3] st σ Q else Rn d m_X5_stone 8 [l0, l1, l2, l3] st σ Q := q19_0 (show fnd (pgm m_X5_stone) 5 = some (8, 19, 0, 0, 29, []) from rfl)
set_option maxRecDepth 100000 in
theorem s_X5_stone_8 {d : Nat} {l0 l1 l3 : AV} {st : List AV} {x : Int} {σ : Sg} {Q : AV → Sg → Prop}  : Rn d m_X5_stone 8 [l0, l1, vI x, l3] st σ Q ↔ Rn d m_X5_stone 9 [l0, l1, vI x, l3] (vI x :: st) σ Q := q3 (show fnd (pgm m_X5_stone) 8 = some (9, 3, 0, 2, 0, []) from rfl) rfl
set_option maxRecDepth 100000 in
theorem s_X5_stone_9 {d : Nat} {l0 l1 l2 l3 : AV} {st : List AV} {σ : Sg} {Q : AV → Sg → Prop}  : Rn d m_X5_stone 9 [l0, l1, l2, l3] st σ Q ↔ Rn d m_X5_stone 12 [l0, l1, l2, l3] (vI 144 :: st) σ Q := q0 (show fnd (pgm m_X5_stone) 9 = some (12, 0, 144, 2, 0, []) from rfl)
set_option maxRecDepth 100000 in
theorem s_X5_stone_12 {d : Nat} {l0 l1 l2 l3 : AV} {st : List AV}  {a0 : Int} {a1 : Int} {σ : Sg} {Q : AV → Sg → Prop} (h4 : st.length ≤ 4) : Rn d m_X5_stone 12 [l0, l1, l2, l3] (vI a1 :: vI a0 :: st) σ Q ↔ ∃ r σ1, Ev d m_X5_within [vI a0, vI a1] σ r σ1 ∧ Rn d m_X5_stone 15 [l0, l1, l2, l3] (psh r st) σ1 Q := q35 (show fnd (pgm m_X5_stone) 12 = some (15, 35, 80, 89, 2, []) from rfl) ⟨⟨by simp, by simpa using h4⟩, rfl⟩
set_option maxRecDepth 100000 in
theorem s_X5_stone_15 {d : Nat} {l0 l1 l2 l3 : AV} {st : List AV} {a : Int} {σ : Sg} {Q : AV → Sg → Prop}  : Rn d m_X5_stone 15 [l0, l1, l2, l3] (vI a :: st) σ Q ↔ if w32 a = 0 then Rn d m_X5_stone 29 [l0, l1, l2, l3] st σ Q else Rn d m_X5_stone 18 [l0, l1, l2, l3] st σ Q := q19_0 (show fnd (pgm m_X5_stone) 15 = some (18, 19, 0, 0, 29, []) from rfl)
set_option maxRecDepth 100000 in
theorem s_X5_stone_18 {d : Nat} {l0 l1 l2 : AV} {st : List AV} {x : Int} {σ : Sg} {Q : AV → Sg → Prop}  : Rn d m_X5_stone 18 [l0, l1, l2, vI x] st σ Q ↔ Rn d m_X5_stone 19 [l0, l1, l2, vI x] (vI x :: st) σ Q := q3 (show fnd (pgm m_X5_stone) 18 = some (19, 3, 0, 3, 0, []) from rfl) rfl
set_option maxRecDepth 100000 in
theorem s_X5_stone_19 {d : Nat} {l0 l1 l2 l3 : AV} {st : List AV} {σ : Sg} {Q : AV → Sg → Prop}  : Rn d m_X5_stone 19 [l0, l1, l2, l3] st σ Q ↔ Rn d m_X5_stone 20 [l0, l1, l2, l3] (vI 1 :: st) σ Q := q0 (show fnd (pgm m_X5_stone) 19 = some (20, 0, 1, 0, 0, []) from rfl)
set_option maxRecDepth 100000 in
theorem s_X5_stone_20 {d : Nat} {l0 l1 l2 l3 : AV} {st : List AV} {a b : Int} {σ : Sg} {Q : AV → Sg → Prop}  : Rn d m_X5_stone 20 [l0, l1, l2, l3] (vI b :: vI a :: st) σ Q ↔ if w32 a < w32 b then Rn d m_X5_stone 29 [l0, l1, l2, l3] st σ Q else Rn d m_X5_stone 23 [l0, l1, l2, l3] st σ Q := q20_2 (show fnd (pgm m_X5_stone) 20 = some (23, 20, 0, 2, 29, []) from rfl)
set_option maxRecDepth 100000 in
theorem s_X5_stone_23 {d : Nat} {l0 l1 l2 : AV} {st : List AV} {x : Int} {σ : Sg} {Q : AV → Sg → Prop}  : Rn d m_X5_stone 23 [l0, l1, l2, vI x] st σ Q ↔ Rn d m_X5_stone 24 [l0, l1, l2, vI x] (vI x :: st) σ Q := q3 (show fnd (pgm m_X5_stone) 23 = some (24, 3, 0, 3, 0, []) from rfl) rfl
set_option maxRecDepth 100000 in
theorem s_X5_stone_24 {d : Nat} {l0 l1 l2 l3 : AV} {st : List AV} {σ : Sg} {Q : AV → Sg → Prop}  : Rn d m_X5_stone 24 [l0, l1, l2, l3] st σ Q ↔ Rn d m_X5_stone 26 [l0, l1, l2, l3] (vI 99 :: st) σ Q := q0 (show fnd (pgm m_X5_stone) 24 = some (26, 0, 99, 1, 0, []) from rfl)
set_option maxRecDepth 100000 in
theorem s_X5_stone_26 {d : Nat} {l0 l1 l2 l3 : AV} {st : List AV} {a b : Int} {σ : Sg} {Q : AV → Sg → Prop}  : Rn d m_X5_stone 26 [l0, l1, l2, l3] (vI b :: vI a :: st) σ Q ↔ if w32 a ≤ w32 b then Rn d m_X5_stone 38 [l0, l1, l2, l3] st σ Q else Rn d m_X5_stone 29 [l0, l1, l2, l3] st σ Q := q20_5 (show fnd (pgm m_X5_stone) 26 = some (29, 20, 0, 5, 38, []) from rfl)
set_option maxRecDepth 100000 in
theorem s_X5_stone_29 {d : Nat} {l1 l2 l3 : AV} {st : List AV} {o : Nat} {σ : Sg} {Q : AV → Sg → Prop} (ho : o ≠ 0) : Rn d m_X5_stone 29 [vR o, l1, l2, l3] st σ Q ↔ Rn d m_X5_stone 30 [vR o, l1, l2, l3] (vR o :: st) σ Q := q5 (show fnd (pgm m_X5_stone) 29 = some (30, 5, 0, 0, 0, []) from rfl) rfl ho
set_option maxRecDepth 100000 in
theorem s_X5_stone_30 {d : Nat} {l0 l1 l2 l3 : AV} {st : List AV} {σ : Sg} {Q : AV → Sg → Prop}  : Rn d m_X5_stone 30 [l0, l1, l2, l3] st σ Q ↔ Rn d m_X5_stone 32 [l0, l1, l2, l3] (vI (-2) :: st) σ Q := q0 (show fnd (pgm m_X5_stone) 30 = some (32, 0, (-2), 1, 0, []) from rfl)
set_option maxRecDepth 100000 in
theorem s_X5_stone_32 {d : Nat} {l0 l1 l2 l3 : AV} {st : List AV} {σ : Sg} {Q : AV → Sg → Prop}  : Rn d m_X5_stone 32 [l0, l1, l2, l3] st σ Q ↔ Rn d m_X5_stone 34 [l0, l1, l2, l3] (vI (-2) :: st) σ Q := q0 (show fnd (pgm m_X5_stone) 32 = some (34, 0, (-2), 1, 0, []) from rfl)
set_option maxRecDepth 100000 in
theorem s_X5_stone_34 {d : Nat} {l0 l1 l2 l3 : AV} {st : List AV} {o : Nat} {a0 : Int} {a1 : Int} {σ : Sg} {Q : AV → Sg → Prop} (h4 : st.length ≤ 4) (hk : kn σ o = (0, 5)) : Rn d m_X5_stone 34 [l0, l1, l2, l3] (vI a1 :: vI a0 :: vR o :: st) σ Q ↔ ∃ r σ1, Ev d m_X5_refuse [vR o, vI a0, vI a1] σ r σ1 ∧ Rn d m_X5_stone 37 [l0, l1, l2, l3] (psh r st) σ1 Q := q35 (show fnd (pgm m_X5_stone) 34 = some (37, 35, 84, 92, 3, []) from rfl) ⟨⟨by simp, by simpa using h4⟩, (by simp only [List.take, List.reverse, List.reverseAux, rcv]; rw [if_neg (by decide +kernel)]; exact decide_eq_true hk)⟩
set_option maxRecDepth 100000 in
theorem s_X5_stone_37 {d : Nat} {l0 l1 l2 l3 : AV} {x : Int} {σ : Sg} {Q : AV → Sg → Prop}  : Rn d m_X5_stone 37 [l0, l1, l2, l3] [vI x] σ Q ↔ Q (vI x) σ := q37_1 (st := []) (show fnd (pgm m_X5_stone) 37 = some (38, 37, 0, 1, 0, []) from rfl)
set_option maxRecDepth 100000 in
theorem s_X5_stone_38 {d : Nat} {l1 l2 l3 : AV} {st : List AV} {o : Nat} {σ : Sg} {Q : AV → Sg → Prop} (ho : o ≠ 0) : Rn d m_X5_stone 38 [vR o, l1, l2, l3] st σ Q ↔ Rn d m_X5_stone 39 [vR o, l1, l2, l3] (vR o :: st) σ Q := q5 (show fnd (pgm m_X5_stone) 38 = some (39, 5, 0, 0, 0, []) from rfl) rfl ho
set_option maxRecDepth 100000 in
theorem s_X5_stone_39 {d : Nat} {l0 l1 l2 l3 : AV} {st : List AV} {o : Nat} {σ : Sg} {Q : AV → Sg → Prop} (hk : kn σ o = (0, 5)) : Rn d m_X5_stone 39 [l0, l1, l2, l3] (vR o :: st) σ Q ↔ Rn d m_X5_stone 42 [l0, l1, l2, l3] (vR (tp o 0) :: st) σ Q := q33 (show fnd (pgm m_X5_stone) 39 = some (42, 33, 12, 5, 0, []) from rfl) hk
set_option maxRecDepth 100000 in
theorem s_X5_stone_42 {d : Nat} {l0 l1 l3 : AV} {st : List AV} {x : Int} {σ : Sg} {Q : AV → Sg → Prop}  : Rn d m_X5_stone 42 [l0, l1, vI x, l3] st σ Q ↔ Rn d m_X5_stone 43 [l0, l1, vI x, l3] (vI x :: st) σ Q := q3 (show fnd (pgm m_X5_stone) 42 = some (43, 3, 0, 2, 0, []) from rfl) rfl
set_option maxRecDepth 100000 in
theorem s_X5_stone_43 {d : Nat} {l0 l1 l2 l3 : AV} {st : List AV} {o : Nat} {a0 : Int} {σ : Sg} {Q : AV → Sg → Prop} (h4 : st.length ≤ 4) (hk : kn σ o = (0, 0)) : Rn d m_X5_stone 43 [l0, l1, l2, l3] (vI a0 :: vR o :: st) σ Q ↔ ∃ r σ1, Ev d m_X0_isFirstCell [vR o, vI a0] σ r σ1 ∧ Rn d m_X5_stone 46 [l0, l1, l2, l3] (psh r st) σ1 Q := q35 (show fnd (pgm m_X5_stone) 43 = some (46, 35, 88, 0, 2, []) from rfl) ⟨⟨by simp, by simpa using h4⟩, (by simp only [List.take, List.reverse, List.reverseAux, rcv]; rw [if_neg (by decide +kernel)]; exact decide_eq_true hk)⟩
set_option maxRecDepth 100000 in
theorem s_X5_stone_46 {d : Nat} {l0 l1 l2 l3 : AV} {st : List AV} {a : Int} {σ : Sg} {Q : AV → Sg → Prop}  : Rn d m_X5_stone 46 [l0, l1, l2, l3] (vI a :: st) σ Q ↔ if ¬ w32 a = 0 then Rn d m_X5_stone 62 [l0, l1, l2, l3] st σ Q else Rn d m_X5_stone 49 [l0, l1, l2, l3] st σ Q := q19_1 (show fnd (pgm m_X5_stone) 46 = some (49, 19, 0, 1, 62, []) from rfl)
set_option maxRecDepth 100000 in
theorem s_X5_stone_49 {d : Nat} {l1 l2 l3 : AV} {st : List AV} {o : Nat} {σ : Sg} {Q : AV → Sg → Prop} (ho : o ≠ 0) : Rn d m_X5_stone 49 [vR o, l1, l2, l3] st σ Q ↔ Rn d m_X5_stone 50 [vR o, l1, l2, l3] (vR o :: st) σ Q := q5 (show fnd (pgm m_X5_stone) 49 = some (50, 5, 0, 0, 0, []) from rfl) rfl ho
set_option maxRecDepth 100000 in
theorem s_X5_stone_50 {d : Nat} {l0 l1 l2 l3 : AV} {st : List AV} {o : Nat} {σ : Sg} {Q : AV → Sg → Prop} (hk : kn σ o = (0, 5)) : Rn d m_X5_stone 50 [l0, l1, l2, l3] (vR o :: st) σ Q ↔ Rn d m_X5_stone 53 [l0, l1, l2, l3] (vR (tp o 0) :: st) σ Q := q33 (show fnd (pgm m_X5_stone) 50 = some (53, 33, 12, 5, 0, []) from rfl) hk
set_option maxRecDepth 100000 in
theorem s_X5_stone_53 {d : Nat} {l0 l1 l2 l3 : AV} {st : List AV} {o : Nat} {σ : Sg} {Q : AV → Sg → Prop} (hk : kn σ o = (0, 0)) : Rn d m_X5_stone 53 [l0, l1, l2, l3] (vR o :: st) σ Q ↔ Rn d m_X5_stone 56 [l0, l1, l2, l3] (vR (tp o 6) :: st) σ Q := q33 (show fnd (pgm m_X5_stone) 53 = some (56, 33, 92, 0, 6, []) from rfl) hk
set_option maxRecDepth 100000 in
theorem s_X5_stone_56 {d : Nat} {l0 l1 l3 : AV} {st : List AV} {x : Int} {σ : Sg} {Q : AV → Sg → Prop}  : Rn d m_X5_stone 56 [l0, l1, vI x, l3] st σ Q ↔ Rn d m_X5_stone 57 [l0, l1, vI x, l3] (vI x :: st) σ Q := q3 (show fnd (pgm m_X5_stone) 56 = some (57, 3, 0, 2, 0, []) from rfl) rfl
set_option maxRecDepth 100000 in
theorem s_X5_stone_57 {d : Nat} {l0 l1 l2 l3 : AV} {st : List AV} {i : Int} {o : Nat} {σ : Sg} {Q : AV → Sg → Prop} (hi : 0 ≤ w32 i ∧ w32 i < al σ 1 o) : Rn d m_X5_stone 57 [l0, l1, l2, l3] (vI i :: vR o :: st) σ Q ↔ Rn d m_X5_stone 58 [l0, l1, l2, l3] (vI (σ o (w32 i)) :: st) σ Q := q25 (show fnd (pgm m_X5_stone) 57 = some (58, 25, 0, 0, 0, []) from rfl) hi
set_option maxRecDepth 100000 in
theorem s_X5_stone_58 {d : Nat} {l0 l1 l2 l3 : AV} {st : List AV} {σ : Sg} {Q : AV → Sg → Prop}  : Rn d m_X5_stone 58 [l0, l1, l2, l3] st σ Q ↔ Rn d m_X5_stone 59 [l0, l1, l2, l3] (vI 1 :: st) σ Q := q0 (show fnd (pgm m_X5_stone) 58 = some (59, 0, 1, 0, 0, []) from rfl)
set_option maxRecDepth 100000 in
theorem s_X5_stone_59 {d : Nat} {l0 l1 l2 l3 : AV} {st : List AV} {a b : Int} {σ : Sg} {Q : AV → Sg → Prop}  : Rn d m_X5_stone 59 [l0, l1, l2, l3] (vI b :: vI a :: st) σ Q ↔ if ¬ w32 a = w32 b then Rn d m_X5_stone 71 [l0, l1, l2, l3] st σ Q else Rn d m_X5_stone 62 [l0, l1, l2, l3] st σ Q := q20_1 (show fnd (pgm m_X5_stone) 59 = some (62, 20, 0, 1, 71, []) from rfl)
set_option maxRecDepth 100000 in
theorem s_X5_stone_62 {d : Nat} {l1 l2 l3 : AV} {st : List AV} {o : Nat} {σ : Sg} {Q : AV → Sg → Prop} (ho : o ≠ 0) : Rn d m_X5_stone 62 [vR o, l1, l2, l3] st σ Q ↔ Rn d m_X5_stone 63 [vR o, l1, l2, l3] (vR o :: st) σ Q := q5 (show fnd (pgm m_X5_stone) 62 = some (63, 5, 0, 0, 0, []) from rfl) rfl ho
set_option maxRecDepth 100000 in
theorem s_X5_stone_63 {d : Nat} {l0 l1 l2 l3 : AV} {st : List AV} {σ : Sg} {Q : AV → Sg → Prop}  : Rn d m_X5_stone 63 [l0, l1, l2, l3] st σ Q ↔ Rn d m_X5_stone 65 [l0, l1, l2, l3] (vI (-2) :: st) σ Q := q0 (show fnd (pgm m_X5_stone) 63 = some (65, 0, (-2), 1, 0, []) from rfl)
set_option maxRecDepth 100000 in
theorem s_X5_stone_65 {d : Nat} {l0 l1 l2 l3 : AV} {st : List AV} {σ : Sg} {Q : AV → Sg → Prop}  : Rn d m_X5_stone 65 [l0, l1, l2, l3] st σ Q ↔ Rn d m_X5_stone 67 [l0, l1, l2, l3] (vI (-2) :: st) σ Q := q0 (show fnd (pgm m_X5_stone) 65 = some (67, 0, (-2), 1, 0, []) from rfl)
set_option maxRecDepth 100000 in
theorem s_X5_stone_67 {d : Nat} {l0 l1 l2 l3 : AV} {st : List AV} {o : Nat} {a0 : Int} {a1 : Int} {σ : Sg} {Q : AV → Sg → Prop} (h4 : st.length ≤ 4) (hk : kn σ o = (0, 5)) : Rn d m_X5_stone 67 [l0, l1, l2, l3] (vI a1 :: vI a0 :: vR o :: st) σ Q ↔ ∃ r σ1, Ev d m_X5_refuse [vR o, vI a0, vI a1] σ r σ1 ∧ Rn d m_X5_stone 70 [l0, l1, l2, l3] (psh r st) σ1 Q := q35 (show fnd (pgm m_X5_stone) 67 = some (70, 35, 84, 92, 3, []) from rfl) ⟨⟨by simp, by simpa using h4⟩, (by simp only [List.take, List.reverse, List.reverseAux, rcv]; rw [if_neg (by decide +kernel)]; exact decide_eq_true hk)⟩
set_option maxRecDepth 100000 in
theorem s_X5_stone_70 {d : Nat} {l0 l1 l2 l3 : AV} {x : Int} {σ : Sg} {Q : AV → Sg → Prop}  : Rn d m_X5_stone 70 [l0, l1, l2, l3] [vI x] σ Q ↔ Q (vI x) σ := q37_1 (st := []) (show fnd (pgm m_X5_stone) 70 = some (71, 37, 0, 1, 0, []) from rfl)
set_option maxRecDepth 100000 in
theorem s_X5_stone_71 {d : Nat} {l1 l2 l3 : AV} {st : List AV} {o : Nat} {σ : Sg} {Q : AV → Sg → Prop} (ho : o ≠ 0) : Rn d m_X5_stone 71 [vR o, l1, l2, l3] st σ Q ↔ Rn d m_X5_stone 72 [vR o, l1, l2, l3] (vR o :: st) σ Q := q5 (show fnd (pgm m_X5_stone) 71 = some (72, 5, 0, 0, 0, []) from rfl) rfl ho
set_option maxRecDepth 100000 in
theorem s_X5_stone_72 {d : Nat} {l0 l1 l2 l3 : AV} {st : List AV} {o : Nat} {σ : Sg} {Q : AV → Sg → Prop} (hk : kn σ o = (0, 5)) : Rn d m_X5_stone 72 [l0, l1, l2, l3] (vR o :: st) σ Q ↔ Rn d m_X5_stone 75 [l0, l1, l2, l3] (vR (tp o 0) :: st) σ Q := q33 (show fnd (pgm m_X5_stone) 72 = some (75, 33, 12, 5, 0, []) from rfl) hk
set_option maxRecDepth 100000 in
theorem s_X5_stone_75 {d : Nat} {l0 l1 l2 l3 : AV} {st : List AV} {o : Nat} {σ : Sg} {Q : AV → Sg → Prop} (hk : kn σ o = (0, 0)) : Rn d m_X5_stone 75 [l0, l1, l2, l3] (vR o :: st) σ Q ↔ Rn d m_X5_stone 78 [l0, l1, l2, l3] (vI (σ o 0) :: st) σ Q := q33 (show fnd (pgm m_X5_stone) 75 = some (78, 33, 95, 0, 0, []) from rfl) hk
set_option maxRecDepth 100000 in
theorem s_X5_stone_78 {d : Nat} {l0 l1 l2 l3 : AV} {st : List AV} {σ : Sg} {Q : AV → Sg → Prop}  : Rn d m_X5_stone 78 [l0, l1, l2, l3] st σ Q ↔ Rn d m_X5_stone 80 [l0, l1, l2, l3] (vI 6 :: st) σ Q := q0 (show fnd (pgm m_X5_stone) 78 = some (80, 0, 6, 1, 0, []) from rfl)
set_option maxRecDepth 100000 in
theorem s_X5_stone_80 {d : Nat} {l0 l1 l2 l3 : AV} {st : List AV} {a b : Int} {σ : Sg} {Q : AV → Sg → Prop}  : Rn d m_X5_stone 80 [l0, l1, l2, l3] (vI b :: vI a :: st) σ Q ↔ if w32 a < w32 b then Rn d m_X5_stone 92 [l0, l1, l2, l3] st σ Q else Rn d m_X5_stone 83 [l0, l1, l2, l3] st σ Q := q20_2 (show fnd (pgm m_X5_stone) 80 = some (83, 20, 0, 2, 92, []) from rfl)
set_option maxRecDepth 100000 in
theorem s_X5_stone_83 {d : Nat} {l1 l2 l3 : AV} {st : List AV} {o : Nat} {σ : Sg} {Q : AV → Sg → Prop} (ho : o ≠ 0) : Rn d m_X5_stone 83 [vR o, l1, l2, l3] st σ Q ↔ Rn d m_X5_stone 84 [vR o, l1, l2, l3] (vR o :: st) σ Q := q5 (show fnd (pgm m_X5_stone) 83 = some (84, 5, 0, 0, 0, []) from rfl) rfl ho
set_option maxRecDepth 100000 in
theorem s_X5_stone_84 {d : Nat} {l0 l1 l2 l3 : AV} {st : List AV} {σ : Sg} {Q : AV → Sg → Prop}  : Rn d m_X5_stone 84 [l0, l1, l2, l3] st σ Q ↔ Rn d m_X5_stone 86 [l0, l1, l2, l3] (vI (-4) :: st) σ Q := q0 (show fnd (pgm m_X5_stone) 84 = some (86, 0, (-4), 1, 0, []) from rfl)
set_option maxRecDepth 100000 in
theorem s_X5_stone_86 {d : Nat} {l0 l1 l2 l3 : AV} {st : List AV} {σ : Sg} {Q : AV → Sg → Prop}  : Rn d m_X5_stone 86 [l0, l1, l2, l3] st σ Q ↔ Rn d m_X5_stone 88 [l0, l1, l2, l3] (vI (-4) :: st) σ Q := q0 (show fnd (pgm m_X5_stone) 86 = some (88, 0, (-4), 1, 0, []) from rfl)
set_option maxRecDepth 100000 in
theorem s_X5_stone_88 {d : Nat} {l0 l1 l2 l3 : AV} {st : List AV} {o : Nat} {a0 : Int} {a1 : Int} {σ : Sg} {Q : AV → Sg → Prop} (h4 : st.length ≤ 4) (hk : kn σ o = (0, 5)) : Rn d m_X5_stone 88 [l0, l1, l2, l3] (vI a1 :: vI a0 :: vR o :: st) σ Q ↔ ∃ r σ1, Ev d m_X5_refuse [vR o, vI a0, vI a1] σ r σ1 ∧ Rn d m_X5_stone 91 [l0, l1, l2, l3] (psh r st) σ1 Q := q35 (show fnd (pgm m_X5_stone) 88 = some (91, 35, 84, 92, 3, []) from rfl) ⟨⟨by simp, by simpa using h4⟩, (by simp only [List.take, List.reverse, List.reverseAux, rcv]; rw [if_neg (by decide +kernel)]; exact decide_eq_true hk)⟩
set_option maxRecDepth 100000 in
theorem s_X5_stone_91 {d : Nat} {l0 l1 l2 l3 : AV} {x : Int} {σ : Sg} {Q : AV → Sg → Prop}  : Rn d m_X5_stone 91 [l0, l1, l2, l3] [vI x] σ Q ↔ Q (vI x) σ := q37_1 (st := []) (show fnd (pgm m_X5_stone) 91 = some (92, 37, 0, 1, 0, []) from rfl)
set_option maxRecDepth 100000 in
theorem s_X5_stone_92 {d : Nat} {l1 l2 l3 : AV} {st : List AV} {o : Nat} {σ : Sg} {Q : AV → Sg → Prop} (ho : o ≠ 0) : Rn d m_X5_stone 92 [vR o, l1, l2, l3] st σ Q ↔ Rn d m_X5_stone 93 [vR o, l1, l2, l3] (vR o :: st) σ Q := q5 (show fnd (pgm m_X5_stone) 92 = some (93, 5, 0, 0, 0, []) from rfl) rfl ho
set_option maxRecDepth 100000 in
theorem s_X5_stone_93 {d : Nat} {l0 l1 l2 l3 : AV} {st : List AV} {o : Nat} {σ : Sg} {Q : AV → Sg → Prop} (hk : kn σ o = (0, 5)) : Rn d m_X5_stone 93 [l0, l1, l2, l3] (vR o :: st) σ Q ↔ Rn d m_X5_stone 96 [l0, l1, l2, l3] (vR (tp o 0) :: st) σ Q := q33 (show fnd (pgm m_X5_stone) 93 = some (96, 33, 12, 5, 0, []) from rfl) hk
set_option maxRecDepth 100000 in
theorem s_X5_stone_96 {d : Nat} {l0 l2 l3 : AV} {st : List AV} {x : Int} {σ : Sg} {Q : AV → Sg → Prop}  : Rn d m_X5_stone 96 [l0, vI x, l2, l3] st σ Q ↔ Rn d m_X5_stone 97 [l0, vI x, l2, l3] (vI x :: st) σ Q := q3 (show fnd (pgm m_X5_stone) 96 = some (97, 3, 0, 1, 0, []) from rfl) rfl
set_option maxRecDepth 100000 in
theorem s_X5_stone_97 {d : Nat} {l0 l1 l3 : AV} {st : List AV} {x : Int} {σ : Sg} {Q : AV → Sg → Prop}  : Rn d m_X5_stone 97 [l0, l1, vI x, l3] st σ Q ↔ Rn d m_X5_stone 98 [l0, l1, vI x, l3] (vI x :: st) σ Q := q3 (show fnd (pgm m_X5_stone) 97 = some (98, 3, 0, 2, 0, []) from rfl) rfl
set_option maxRecDepth 100000 in
theorem s_X5_stone_98 {d : Nat} {l0 l1 l2 : AV} {st : List AV} {x : Int} {σ : Sg} {Q : AV → Sg → Prop}  : Rn d m_X5_stone 98 [l0, l1, l2, vI x] st σ Q ↔ Rn d m_X5_stone 99 [l0, l1, l2, vI x] (vI x :: st) σ Q := q3 (show fnd (pgm m_X5_stone) 98 = some (99, 3, 0, 3, 0, []) from rfl) rfl
set_option maxRecDepth 100000 in
theorem s_X5_stone_99 {d : Nat} {l0 l1 l2 l3 : AV} {st : List AV} {o : Nat} {a0 : Int} {a1 : Int} {a2 : Int} {σ : Sg} {Q : AV → Sg → Prop} (h4 : st.length ≤ 4) (hk : kn σ o = (0, 0)) : Rn d m_X5_stone 99 [l0, l1, l2, l3] (vI a2 :: vI a1 :: vI a0 :: vR o :: st) σ Q ↔ ∃ r σ1, Ev d m_X0_addStone [vR o, vI a0, vI a1, vI a2] σ r σ1 ∧ Rn d m_X5_stone 102 [l0, l1, l2, l3] (psh r st) σ1 Q := q35 (show fnd (pgm m_X5_stone) 99 = some (102, 35, 98, 1, 4, []) from rfl) ⟨⟨by simp, by simpa using h4⟩, (by simp only [List.take, List.reverse, List.reverseAux, rcv]; rw [if_neg (by decide +kernel)]; exact decide_eq_true hk)⟩
set_option maxRecDepth 100000 in
theorem s_X5_stone_102 {d : Nat} {l0 l1 l2 l3 : AV} {x : Int} {σ : Sg} {Q : AV → Sg → Prop}  : Rn d m_X5_stone 102 [l0, l1, l2, l3] [vI x] σ Q ↔ Q (vI x) σ := q37_1 (st := []) (show fnd (pgm m_X5_stone) 102 = some (103, 37, 0, 1, 0, []) from rfl)
set_option maxRecDepth 100000 in
theorem en_X5_fence {d : Nat} {o : Nat} {a0 : Int} {a1 : Int} {σ σ0 : Sg} {r0 : AV} (h : Rn d m_X5_fence 0 [vR o, vI a0, vI a1, none] [] σ (fun r σ1 => r = r0 ∧ σ1 = σ0)) : Ev (d + 1) m_X5_fence [vR o, vI a0, vI a1] σ r0 σ0 := Ev_is (Nat.le_of_ble_eq_true rfl) h
set_option maxRecDepth 100000 in
theorem eo_X5_fence {d : Nat} {o : Nat} {a0 : Int} {a1 : Int} {σ : Sg} {Q : AV → Sg → Prop} (h : Rn d m_X5_fence 0 [vR o, vI a0, vI a1, none] [] σ Q) : ∃ r σ1, Ev (d + 1) m_X5_fence [vR o, vI a0, vI a1] σ r σ1 ∧ Q r σ1 := Ev_of (Nat.le_of_ble_eq_true rfl) h
set_option maxRecDepth 100000 in
theorem s_X5_fence_0 {d : Nat} {l0 l2 l3 : AV} {st : List AV} {x : Int} {σ : Sg} {Q : AV → Sg → Prop}  : Rn d m_X5_fence 0 [l0, vI x, l2, l3] st σ Q ↔ Rn d m_X5_fence 1 [l0, vI x, l2, l3] (vI x :: st) σ Q := q3 (show fnd (pgm m_X5_fence) 0 = some (1, 3, 0, 1, 0, []) from rfl) rfl
set_option maxRecDepth 100000 in
theorem s_X5_fence_1 {d : Nat} {l0 l1 l2 l3 : AV} {st : List AV} {σ : Sg} {Q : AV → Sg → Prop}  : Rn d m_X5_fence 1 [l0, l1, l2, l3] st σ Q ↔ Rn d m_X5_fence 4 [l0, l1, l2, l3] (vI 144 :: st) σ Q := q0 (show fnd (pgm m_X5_fence) 1 = some (4, 0, 144, 2, 0, []) from rfl)
set_option maxRecDepth 100000 in
theorem s_X5_fence_4 {d : Nat} {l0 l1 l2 l3 : AV} {st : List AV}  {a0 : Int} {a1 : Int} {σ : Sg} {Q : AV → Sg → Prop} (h4 : st.length ≤ 4) : Rn d m_X5_fence 4 [l0, l1, l2, l3] (vI a1 :: vI a0 :: st) σ Q ↔ ∃ r σ1, Ev d m_X5_within [vI a0, vI a1] σ r σ1 ∧ Rn d m_X5_fence 7 [l0, l1, l2, l3] (psh r st) σ1 Q := q35 (show fnd (pgm m_X5_fence) 4 = some (7, 35, 80, 89, 2, []) from rfl) ⟨⟨by simp, by simpa using h4⟩, rfl⟩
set_option maxRecDepth 100000 in
theorem s_X5_fence_7 {d : Nat} {l0 l1 l2 l3 : AV} {st : List AV} {a : Int} {σ : Sg} {Q : AV → Sg → Prop}  : Rn d m_X5_fence 7 [l0, l1, l2, l3] (vI a :: st) σ Q ↔ if w32 a = 0 then Rn d m_X5_fence 18 [l0, l1, l2, l3] st σ Q else Rn d m_X5_fence 10 [l0, l1, l2, l3] st σ Q := q19_0 (show fnd (pgm m_X5_fence) 7 = some (10, 19, 0, 0, 18, []) from rfl)
set_option maxRecDepth 100000 in
theorem s_X5_fence_10 {d : Nat} {l0 l1 l3 : AV} {st : List AV} {x : Int} {σ : Sg} {Q : AV → Sg → Prop}  : Rn d m_X5_fence 10 [l0, l1, vI x, l3] st σ Q ↔ Rn d m_X5_fence 11 [l0, l1, vI x, l3] (vI x :: st) σ Q := q3 (show fnd (pgm m_X5_fence) 10 = some (11, 3, 0, 2, 0, []) from rfl) rfl
set_option maxRecDepth 100000 in
theorem s_X5_fence_11 {d : Nat} {l0 l1 l2 l3 : AV} {st : List AV} {σ : Sg} {Q : AV → Sg → Prop}  : Rn d m_X5_fence 11 [l0, l1, l2, l3] st σ Q ↔ Rn d m_X5_fence 12 [l0, l1, l2, l3] (vI 4 :: st) σ Q := q0 (show fnd (pgm m_X5_fence) 11 = some (12, 0, 4, 0, 0, []) from rfl)
set_option maxRecDepth 100000 in
theorem s_X5_fence_12 {d : Nat} {l0 l1 l2 l3 : AV} {st : List AV}  {a0 : Int} {a1 : Int} {σ : Sg} {Q : AV → Sg → Prop} (h4 : st.length ≤ 4) : Rn d m_X5_fence 12 [l0, l1, l2, l3] (vI a1 :: vI a0 :: st) σ Q ↔ ∃ r σ1, Ev d m_X5_within [vI a0, vI a1] σ r σ1 ∧ Rn d m_X5_fence 15 [l0, l1, l2, l3] (psh r st) σ1 Q := q35 (show fnd (pgm m_X5_fence) 12 = some (15, 35, 80, 89, 2, []) from rfl) ⟨⟨by simp, by simpa using h4⟩, rfl⟩
set_option maxRecDepth 100000 in
theorem s_X5_fence_15 {d : Nat} {l0 l1 l2 l3 : AV} {st : List AV} {a : Int} {σ : Sg} {Q : AV → Sg → Prop}  : Rn d m_X5_fence 15 [l0, l1, l2, l3] (vI a :: st) σ Q ↔ if ¬ w32 a = 0 then Rn d m_X5_fence 27 [l0, l1, l2, l3] st σ Q else Rn d m_X5_fence 18 [l0, l1, l2, l3] st σ Q := q19_1 (show fnd (pgm m_X5_fence) 15 = some (18, 19, 0, 1, 27, []) from rfl)
set_option maxRecDepth 100000 in
theorem s_X5_fence_18 {d : Nat} {l1 l2 l3 : AV} {st : List AV} {o : Nat} {σ : Sg} {Q : AV → Sg → Prop} (ho : o ≠ 0) : Rn d m_X5_fence 18 [vR o, l1, l2, l3] st σ Q ↔ Rn d m_X5_fence 19 [vR o, l1, l2, l3] (vR o :: st) σ Q := q5 (show fnd (pgm m_X5_fence) 18 = some (19, 5, 0, 0, 0, []) from rfl) rfl ho
set_option maxRecDepth 100000 in
theorem s_X5_fence_19 {d : Nat} {l0 l1 l2 l3 : AV} {st : List AV} {σ : Sg} {Q : AV → Sg → Prop}  : Rn d m_X5_fence 19 [l0, l1, l2, l3] st σ Q ↔ Rn d m_X5_fence 21 [l0, l1, l2, l3] (vI (-2) :: st) σ Q := q0 (show fnd (pgm m_X5_fence) 19 = some (21, 0, (-2), 1, 0, []) from rfl)
set_option maxRecDepth 100000 in
theorem s_X5_fence_21 {d : Nat} {l0 l1 l2 l3 : AV} {st : List AV} {σ : Sg} {Q : AV → Sg → Prop}  : Rn d m_X5_fence 21 [l0, l1, l2, l3] st σ Q ↔ Rn d m_X5_fence 23 [l0, l1, l2, l3] (vI (-2) :: st) σ Q := q0 (show fnd (pgm m_X5_fence) 21 = some (23, 0, (-2), 1, 0, []) from rfl)
set_option maxRecDepth 100000 in
theorem s_X5_fence_23 {d : Nat} {l0 l1 l2 l3 : AV} {st : List AV} {o : Nat} {a0 : Int} {a1 : Int} {σ : Sg} {Q : AV → Sg → Prop} (h4 : st.length ≤ 4) (hk : kn σ o = (0, 5)) : Rn d m_X5_fence 23 [l0, l1, l2, l3] (vI a1 :: vI a0 :: vR o :: st) σ Q ↔ ∃ r σ1, Ev d m_X5_refuse [vR o, vI a0, vI a1] σ r σ1 ∧ Rn d m_X5_fence 26 [l0, l1, l2, l3] (psh r st) σ1 Q := q35 (show fnd (pgm m_X5_fence) 23 = some (26, 35, 84, 92, 3, []) from rfl) ⟨⟨by simp, by simpa using h4⟩, (by simp only [List.take, List.reverse, List.reverseAux, rcv]; rw [if_neg (by decide +kernel)]; exact decide_eq_true hk)⟩
set_option maxRecDepth 100000 in
theorem s_X5_fence_26 {d : Nat} {l0 l1 l2 l3 : AV} {x : Int} {σ : Sg} {Q : AV → Sg → Prop}  : Rn d m_X5_fence 26 [l0, l1, l2, l3] [vI x] σ Q ↔ Q (vI x) σ := q37_1 (st := []) (show fnd (pgm m_X5_fence) 26 = some (27, 37, 0, 1, 0, []) from rfl)
set_option maxRecDepth 100000 in
theorem s_X5_fence_27 {d : Nat} {l1 l2 l3 : AV} {st : List AV} {o : Nat} {σ : Sg} {Q : AV → Sg → Prop} (ho : o ≠ 0) : Rn d m_X5_fence 27 [vR o, l1, l2, l3] st σ Q ↔ Rn d m_X5_fence 28 [vR o, l1, l2, l3] (vR o :: st) σ Q := q5 (show fnd (pgm m_X5_fence) 27 = some (28, 5, 0, 0, 0, []) from rfl) rfl ho
set_option maxRecDepth 100000 in
theorem s_X5_fence_28 {d : Nat} {l0 l1 l2 l3 : AV} {st : List AV} {o : Nat} {σ : Sg} {Q : AV → Sg → Prop} (hk : kn σ o = (0, 5)) : Rn d m_X5_fence 28 [l0, l1, l2, l3] (vR o :: st) σ Q ↔ Rn d m_X5_fence 31 [l0, l1, l2, l3] (vR (tp o 0) :: st) σ Q := q33 (show fnd (pgm m_X5_fence) 28 = some (31, 33, 12, 5, 0, []) from rfl) hk
set_option maxRecDepth 100000 in
theorem s_X5_fence_31 {d : Nat} {l0 l1 l2 l3 : AV} {st : List AV} {o : Nat} {σ : Sg} {Q : AV → Sg → Prop} (hk : kn σ o = (0, 0)) : Rn d m_X5_fence 31 [l0, l1, l2, l3] (vR o :: st) σ Q ↔ Rn d m_X5_fence 34 [l0, l1, l2, l3] (vR (tp o 5) :: st) σ Q := q33 (show fnd (pgm m_X5_fence) 31 = some (34, 33, 102, 0, 5, []) from rfl) hk
set_option maxRecDepth 100000 in
theorem s_X5_fence_34 {d : Nat} {l0 l2 l3 : AV} {st : List AV} {x : Int} {σ : Sg} {Q : AV → Sg → Prop}  : Rn d m_X5_fence 34 [l0, vI x, l2, l3] st σ Q ↔ Rn d m_X5_fence 35 [l0, vI x, l2, l3] (vI x :: st) σ Q := q3 (show fnd (pgm m_X5_fence) 34 = some (35, 3, 0, 1, 0, []) from rfl) rfl
set_option maxRecDepth 100000 in
theorem s_X5_fence_35 {d : Nat} {l0 l1 l2 l3 : AV} {st : List AV} {i : Int} {o : Nat} {σ : Sg} {Q : AV → Sg → Prop} (hi : 0 ≤ w32 i ∧ w32 i < al σ 1 o) : Rn d m_X5_fence 35 [l0, l1, l2, l3] (vI i :: vR o :: st) σ Q ↔ Rn d m_X5_fence 36 [l0, l1, l2, l3] (vI (σ o (w32 i)) :: st) σ Q := q25 (show fnd (pgm m_X5_fence) 35 = some (36, 25, 0, 0, 0, []) from rfl) hi
set_option maxRecDepth 100000 in
theorem s_X5_fence_36 {d : Nat} {l0 l1 l2 l3 : AV} {st : List AV} {x : Int} {σ : Sg} {Q : AV → Sg → Prop}  : Rn d m_X5_fence 36 [l0, l1, l2, l3] (vI x :: st) σ Q ↔ Rn d m_X5_fence 37 [l0, l1, l2, vI x] st σ Q := q6 (show fnd (pgm m_X5_fence) 36 = some (37, 6, 0, 3, 0, []) from rfl) (by decide : 3 < 4)
set_option maxRecDepth 100000 in
theorem s_X5_fence_37 {d : Nat} {l1 l2 l3 : AV} {st : List AV} {o : Nat} {σ : Sg} {Q : AV → Sg → Prop} (ho : o ≠ 0) : Rn d m_X5_fence 37 [vR o, l1, l2, l3] st σ Q ↔ Rn d m_X5_fence 38 [vR o, l1, l2, l3] (vR o :: st) σ Q := q5 (show fnd (pgm m_X5_fence) 37 = some (38, 5, 0, 0, 0, []) from rfl) rfl ho
set_option maxRecDepth 100000 in
theorem s_X5_fence_38 {d : Nat} {l0 l1 l2 l3 : AV} {st : List AV} {o : Nat} {σ : Sg} {Q : AV → Sg → Prop} (hk : kn σ o = (0, 5)) : Rn d m_X5_fence 38 [l0, l1, l2, l3] (vR o :: st) σ Q ↔ Rn d m_X5_fence 41 [l0, l1, l2, l3] (vR (tp o 0) :: st) σ Q := q33 (show fnd (pgm m_X5_fence) 38 = some (41, 33, 12, 5, 0, []) from rfl) hk
set_option maxRecDepth 100000 in
theorem s_X5_fence_41 {d : Nat} {l0 l1 l2 l3 : AV} {st : List AV} {o : Nat} {σ : Sg} {Q : AV → Sg → Prop} (hk : kn σ o = (0, 0)) : Rn d m_X5_fence 41 [l0, l1, l2, l3] (vR o :: st) σ Q ↔ Rn d m_X5_fence 44 [l0, l1, l2, l3] (vR (tp o 5) :: st) σ Q := q33 (show fnd (pgm m_X5_fence) 41 = some (44, 33, 102, 0, 5, []) from rfl) hk
set_option maxRecDepth 100000 in
theorem s_X5_fence_44 {d : Nat} {l0 l2 l3 : AV} {st : List AV} {x : Int} {σ : Sg} {Q : AV → Sg → Prop}  : Rn d m_X5_fence 44 [l0, vI x, l2, l3] st σ Q ↔ Rn d m_X5_fence 45 [l0, vI x, l2, l3] (vI x :: st) σ Q := q3 (show fnd (pgm m_X5_fence) 44 = some (45, 3, 0, 1, 0, []) from rfl) rfl
set_option maxRecDepth 100000 in
theorem s_X5_fence_45 {d : Nat} {l0 l1 l3 : AV} {st : List AV} {x : Int} {σ : Sg} {Q : AV → Sg → Prop}  : Rn d m_X5_fence 45 [l0, l1, vI x, l3] st σ Q ↔ Rn d m_X5_fence 46 [l0, l1, vI x, l3] (vI x :: st) σ Q := q3 (show fnd (pgm m_X5_fence) 45 = some (46, 3, 0, 2, 0, []) from rfl) rfl
set_option maxRecDepth 100000 in
theorem s_X5_fence_46 {d : Nat} {l0 l1 l2 l3 : AV} {st : List AV} {i x : Int} {o : Nat} {σ : Sg} {Q : AV → Sg → Prop} (hi : 0 ≤ w32 i ∧ w32 i < al σ 1 o) : Rn d m_X5_fence 46 [l0, l1, l2, l3] (vI x :: vI i :: vR o :: st) σ Q ↔ Rn d m_X5_fence 47 [l0, l1, l2, l3] st (up σ o (w32 i) x) Q := q29 (show fnd (pgm m_X5_fence) 46 = some (47, 29, 0, 0, 0, []) from rfl) hi
set_option maxRecDepth 100000 in
theorem s_X5_fence_47 {d : Nat} {l0 l1 l2 : AV} {st : List AV} {x : Int} {σ : Sg} {Q : AV → Sg → Prop}  : Rn d m_X5_fence 47 [l0, l1, l2, vI x] st σ Q ↔ Rn d m_X5_fence 48 [l0, l1, l2, vI x] (vI x :: st) σ Q := q3 (show fnd (pgm m_X5_fence) 47 = some (48, 3, 0, 3, 0, []) from rfl) rfl
set_option maxRecDepth 100000 in
theorem s_X5_fence_48 {d : Nat} {l0 l1 l2 l3 : AV} {x : Int} {σ : Sg} {Q : AV → Sg → Prop}  : Rn d m_X5_fence 48 [l0, l1, l2, l3] [vI x] σ Q ↔ Q (vI x) σ := q37_1 (st := []) (show fnd (pgm m_X5_fence) 48 = some (49, 37, 0, 1, 0, []) from rfl)
set_option maxRecDepth 100000 in
theorem en_X5_stake {d : Nat} {o : Nat} {a0 : Int} {a1 : Int} {σ σ0 : Sg} {r0 : AV} (h : Rn d m_X5_stake 0 [vR o, vI a0, vI a1, none] [] σ (fun r σ1 => r = r0 ∧ σ1 = σ0)) : Ev (d + 1) m_X5_stake [vR o, vI a0, vI a1] σ r0 σ0 := Ev_is (Nat.le_of_ble_eq_true rfl) h
set_option maxRecDepth 100000 in
theorem eo_X5_stake {d : Nat} {o : Nat} {a0 : Int} {a1 : Int} {σ : Sg} {Q : AV → Sg → Prop} (h : Rn d m_X5_stake 0 [vR o, vI a0, vI a1, none] [] σ Q) : ∃ r σ1, Ev (d + 1) m_X5_stake [vR o, vI a0, vI a1] σ r σ1 ∧ Q r σ1 := Ev_of (Nat.le_of_ble_eq_true rfl) h
set_option maxRecDepth 100000 in
theorem s_X5_stake_0 {d : Nat} {l0 l2 l3 : AV} {st : List AV} {x : Int} {σ : Sg} {Q : AV → Sg → Prop}  : Rn d m_X5_stake 0 [l0, vI x, l2, l3] st σ Q ↔ Rn d m_X5_stake 1 [l0, vI x, l2, l3] (vI x :: st) σ Q := q3 (show fnd (pgm m_X5_stake) 0 = some (1, 3, 0, 1, 0, []) from rfl) rfl
set_option maxRecDepth 100000 in
theorem s_X5_stake_1 {d : Nat} {l0 l1 l2 l3 : AV} {st : List AV} {σ : Sg} {Q : AV → Sg → Prop}  : Rn d m_X5_stake 1 [l0, l1, l2, l3] st σ Q ↔ Rn d m_X5_stake 4 [l0, l1, l2, l3] (vI 144 :: st) σ Q := q0 (show fnd (pgm m_X5_stake) 1 = some (4, 0, 144, 2, 0, []) from rfl)
set_option maxRecDepth 100000 in
theorem s_X5_stake_4 {d : Nat} {l0 l1 l2 l3 : AV} {st : List AV}  {a0 : Int} {a1 : Int} {σ : Sg} {Q : AV → Sg → Prop} (h4 : st.length ≤ 4) : Rn d m_X5_stake 4 [l0, l1, l2, l3] (vI a1 :: vI a0 :: st) σ Q ↔ ∃ r σ1, Ev d m_X5_within [vI a0, vI a1] σ r σ1 ∧ Rn d m_X5_stake 7 [l0, l1, l2, l3] (psh r st) σ1 Q := q35 (show fnd (pgm m_X5_stake) 4 = some (7, 35, 80, 89, 2, []) from rfl) ⟨⟨by simp, by simpa using h4⟩, rfl⟩
set_option maxRecDepth 100000 in
theorem s_X5_stake_7 {d : Nat} {l0 l1 l2 l3 : AV} {st : List AV} {a : Int} {σ : Sg} {Q : AV → Sg → Prop}  : Rn d m_X5_stake 7 [l0, l1, l2, l3] (vI a :: st) σ Q ↔ if w32 a = 0 then Rn d m_X5_stake 21 [l0, l1, l2, l3] st σ Q else Rn d m_X5_stake 10 [l0, l1, l2, l3] st σ Q := q19_0 (show fnd (pgm m_X5_stake) 7 = some (10, 19, 0, 0, 21, []) from rfl)
set_option maxRecDepth 100000 in
theorem s_X5_stake_10 {d : Nat} {l1 l2 l3 : AV} {st : List AV} {o : Nat} {σ : Sg} {Q : AV → Sg → Prop} (ho : o ≠ 0) : Rn d m_X5_stake 10 [vR o, l1, l2, l3] st σ Q ↔ Rn d m_X5_stake 11 [vR o, l1, l2, l3] (vR o :: st) σ Q := q5 (show fnd (pgm m_X5_stake) 10 = some (11, 5, 0, 0, 0, []) from rfl) rfl ho
set_option maxRecDepth 100000 in
theorem s_X5_stake_11 {d : Nat} {l0 l1 l2 l3 : AV} {st : List AV} {o : Nat} {σ : Sg} {Q : AV → Sg → Prop} (hk : kn σ o = (0, 5)) : Rn d m_X5_stake 11 [l0, l1, l2, l3] (vR o :: st) σ Q ↔ Rn d m_X5_stake 14 [l0, l1, l2, l3] (vR (tp o 0) :: st) σ Q := q33 (show fnd (pgm m_X5_stake) 11 = some (14, 33, 12, 5, 0, []) from rfl) hk
set_option maxRecDepth 100000 in
theorem s_X5_stake_14 {d : Nat} {l0 l2 l3 : AV} {st : List AV} {x : Int} {σ : Sg} {Q : AV → Sg → Prop}  : Rn d m_X5_stake 14 [l0, vI x, l2, l3] st σ Q ↔ Rn d m_X5_stake 15 [l0, vI x, l2, l3] (vI x :: st) σ Q := q3 (show fnd (pgm m_X5_stake) 14 = some (15, 3, 0, 1, 0, []) from rfl) rfl
set_option maxRecDepth 100000 in
theorem s_X5_stake_15 {d : Nat} {l0 l1 l2 l3 : AV} {st : List AV} {o : Nat} {a0 : Int} {σ : Sg} {Q : AV → Sg → Prop} (h4 : st.length ≤ 4) (hk : kn σ o = (0, 0)) : Rn d m_X5_stake 15 [l0, l1, l2, l3] (vI a0 :: vR o :: st) σ Q ↔ ∃ r σ1, Ev d m_X0_isFirstCell [vR o, vI a0] σ r σ1 ∧ Rn d m_X5_stake 18 [l0, l1, l2, l3] (psh r st) σ1 Q := q35 (show fnd (pgm m_X5_stake) 15 = some (18, 35, 88, 0, 2, []) from rfl) ⟨⟨by simp, by simpa using h4⟩, (by simp only [List.take, List.reverse, List.reverseAux, rcv]; rw [if_neg (by decide +kernel)]; exact decide_eq_true hk)⟩
set_option maxRecDepth 100000 in
theorem s_X5_stake_18 {d : Nat} {l0 l1 l2 l3 : AV} {st : List AV} {a : Int} {σ : Sg} {Q : AV → Sg → Prop}  : Rn d m_X5_stake 18 [l0, l1, l2, l3] (vI a :: st) σ Q ↔ if w32 a = 0 then Rn d m_X5_stake 30 [l0, l1, l2, l3] st σ Q else Rn d m_X5_stake 21 [l0, l1, l2, l3] st σ Q := q19_0 (show fnd (pgm m_X5_stake) 18 = some (21, 19, 0, 0, 30, []) from rfl)
set_option maxRecDepth 100000 in
theorem s_X5_stake_21 {d : Nat} {l1 l2 l3 : AV} {st : List AV} {o : Nat} {σ : Sg} {Q : AV → Sg → Prop} (ho : o ≠ 0) : Rn d m_X5_stake 21 [vR o, l1, l2, l3] st σ Q ↔ Rn d m_X5_stake 22 [vR o, l1, l2, l3] (vR o :: st) σ Q := q5 (show fnd (pgm m_X5_stake) 21 = some (22, 5, 0, 0, 0, []) from rfl) rfl ho
set_option maxRecDepth 100000 in
theorem s_X5_stake_22 {d : Nat} {l0 l1 l2 l3 : AV} {st : List AV} {σ : Sg} {Q : AV → Sg → Prop}  : Rn d m_X5_stake 22 [l0, l1, l2, l3] st σ Q ↔ Rn d m_X5_stake 24 [l0, l1, l2, l3] (vI (-2) :: st) σ Q := q0 (show fnd (pgm m_X5_stake) 22 = some (24, 0, (-2), 1, 0, []) from rfl)
set_option maxRecDepth 100000 in
theorem s_X5_stake_24 {d : Nat} {l0 l1 l2 l3 : AV} {st : List AV} {σ : Sg} {Q : AV → Sg → Prop}  : Rn d m_X5_stake 24 [l0, l1, l2, l3] st σ Q ↔ Rn d m_X5_stake 26 [l0, l1, l2, l3] (vI (-2) :: st) σ Q := q0 (show fnd (pgm m_X5_stake) 24 = some (26, 0, (-2), 1, 0, []) from rfl)
set_option maxRecDepth 100000 in
theorem s_X5_stake_26 {d : Nat} {l0 l1 l2 l3 : AV} {st : List AV} {o : Nat} {a0 : Int} {a1 : Int} {σ : Sg} {Q : AV → Sg → Prop} (h4 : st.length ≤ 4) (hk : kn σ o = (0, 5)) : Rn d m_X5_stake 26 [l0, l1, l2, l3] (vI a1 :: vI a0 :: vR o :: st) σ Q ↔ ∃ r σ1, Ev d m_X5_refuse [vR o, vI a0, vI a1] σ r σ1 ∧ Rn d m_X5_stake 29 [l0, l1, l2, l3] (psh r st) σ1 Q := q35 (show fnd (pgm m_X5_stake) 26 = some (29, 35, 84, 92, 3, []) from rfl) ⟨⟨by simp, by simpa using h4⟩, (by simp only [List.take, List.reverse, List.reverseAux, rcv]; rw [if_neg (by decide +kernel)]; exact decide_eq_true hk)⟩
set_option maxRecDepth 100000 in
theorem s_X5_stake_29 {d : Nat} {l0 l1 l2 l3 : AV} {x : Int} {σ : Sg} {Q : AV → Sg → Prop}  : Rn d m_X5_stake 29 [l0, l1, l2, l3] [vI x] σ Q ↔ Q (vI x) σ := q37_1 (st := []) (show fnd (pgm m_X5_stake) 29 = some (30, 37, 0, 1, 0, []) from rfl)
set_option maxRecDepth 100000 in
theorem s_X5_stake_30 {d : Nat} {l0 l1 l3 : AV} {st : List AV} {x : Int} {σ : Sg} {Q : AV → Sg → Prop}  : Rn d m_X5_stake 30 [l0, l1, vI x, l3] st σ Q ↔ Rn d m_X5_stake 31 [l0, l1, vI x, l3] (vI x :: st) σ Q := q3 (show fnd (pgm m_X5_stake) 30 = some (31, 3, 0, 2, 0, []) from rfl) rfl
set_option maxRecDepth 100000 in
theorem s_X5_stake_31 {d : Nat} {l0 l1 l2 l3 : AV} {st : List AV} {a : Int} {σ : Sg} {Q : AV → Sg → Prop}  : Rn d m_X5_stake 31 [l0, l1, l2, l3] (vI a :: st) σ Q ↔ if w32 a = 0 then Rn d m_X5_stake 38 [l0, l1, l2, l3] st σ Q else Rn d m_X5_stake 34 [l0, l1, l2, l3] st σ Q := q19_0 (show fnd (pgm m_X5_stake) 31 = some (34, 19, 0, 0, 38, []) from rfl)
set_option maxRecDepth 100000 in
theorem s_X5_stake_34 {d : Nat} {l0 l1 l2 l3 : AV} {st : List AV} {σ : Sg} {Q : AV → Sg → Prop}  : Rn d m_X5_stake 34 [l0, l1, l2, l3] st σ Q ↔ Rn d m_X5_stake 35 [l0, l1, l2, l3] (vI 1 :: st) σ Q := q0 (show fnd (pgm m_X5_stake) 34 = some (35, 0, 1, 0, 0, []) from rfl)
set_option maxRecDepth 100000 in
theorem s_X5_stake_35 {d : Nat} {l0 l1 l2 l3 : AV} {st : List AV} {σ : Sg} {Q : AV → Sg → Prop}  : Rn d m_X5_stake 35 [l0, l1, l2, l3] st σ Q ↔ Rn d m_X5_stake 39 [l0, l1, l2, l3] st σ Q := q21 (show fnd (pgm m_X5_stake) 35 = some (38, 21, 0, 0, 39, []) from rfl)
set_option maxRecDepth 100000 in
theorem s_X5_stake_38 {d : Nat} {l0 l1 l2 l3 : AV} {st : List AV} {σ : Sg} {Q : AV → Sg → Prop}  : Rn d m_X5_stake 38 [l0, l1, l2, l3] st σ Q ↔ Rn d m_X5_stake 39 [l0, l1, l2, l3] (vI 0 :: st) σ Q := q0 (show fnd (pgm m_X5_stake) 38 = some (39, 0, 0, 0, 0, []) from rfl)
set_option maxRecDepth 100000 in
theorem s_X5_stake_39 {d : Nat} {l0 l1 l2 l3 : AV} {st : List AV} {x : Int} {σ : Sg} {Q : AV → Sg → Prop}  : Rn d m_X5_stake 39 [l0, l1, l2, l3] (vI x :: st) σ Q ↔ Rn d m_X5_stake 40 [l0, l1, l2, vI x] st σ Q := q6 (show fnd (pgm m_X5_stake) 39 = some (40, 6, 0, 3, 0, []) from rfl) (by decide : 3 < 4)
set_option maxRecDepth 100000 in
theorem s_X5_stake_40 {d : Nat} {l1 l2 l3 : AV} {st : List AV} {o : Nat} {σ : Sg} {Q : AV → Sg → Prop} (ho : o ≠ 0) : Rn d m_X5_stake 40 [vR o, l1, l2, l3] st σ Q ↔ Rn d m_X5_stake 41 [vR o, l1, l2, l3] (vR o :: st) σ Q := q5 (show fnd (pgm m_X5_stake) 40 = some (41, 5, 0, 0, 0, []) from rfl) rfl ho
set_option maxRecDepth 100000 in
theorem s_X5_stake_41 {d : Nat} {l0 l1 l2 l3 : AV} {st : List AV} {o : Nat} {σ : Sg} {Q : AV → Sg → Prop} (hk : kn σ o = (0, 5)) : Rn d m_X5_stake 41 [l0, l1, l2, l3] (vR o :: st) σ Q ↔ Rn d m_X5_stake 44 [l0, l1, l2, l3] (vR (tp o 0) :: st) σ Q := q33 (show fnd (pgm m_X5_stake) 41 = some (44, 33, 12, 5, 0, []) from rfl) hk
set_option maxRecDepth 100000 in
theorem s_X5_stake_44 {d : Nat} {l0 l1 l2 l3 : AV} {st : List AV} {o : Nat} {σ : Sg} {Q : AV → Sg → Prop} (hk : kn σ o = (0, 0)) : Rn d m_X5_stake 44 [l0, l1, l2, l3] (vR o :: st) σ Q ↔ Rn d m_X5_stake 47 [l0, l1, l2, l3] (vR (tp o 6) :: st) σ Q := q33 (show fnd (pgm m_X5_stake) 44 = some (47, 33, 92, 0, 6, []) from rfl) hk
set_option maxRecDepth 100000 in
theorem s_X5_stake_47 {d : Nat} {l0 l2 l3 : AV} {st : List AV} {x : Int} {σ : Sg} {Q : AV → Sg → Prop}  : Rn d m_X5_stake 47 [l0, vI x, l2, l3] st σ Q ↔ Rn d m_X5_stake 48 [l0, vI x, l2, l3] (vI x :: st) σ Q := q3 (show fnd (pgm m_X5_stake) 47 = some (48, 3, 0, 1, 0, []) from rfl) rfl
set_option maxRecDepth 100000 in
theorem s_X5_stake_48 {d : Nat} {l0 l1 l2 l3 : AV} {st : List AV} {i : Int} {o : Nat} {σ : Sg} {Q : AV → Sg → Prop} (hi : 0 ≤ w32 i ∧ w32 i < al σ 1 o) : Rn d m_X5_stake 48 [l0, l1, l2, l3] (vI i :: vR o :: st) σ Q ↔ Rn d m_X5_stake 49 [l0, l1, l2, l3] (vI (σ o (w32 i)) :: st) σ Q := q25 (show fnd (pgm m_X5_stake) 48 = some (49, 25, 0, 0, 0, []) from rfl) hi
set_option maxRecDepth 100000 in
theorem s_X5_stake_49 {d : Nat} {l0 l1 l2 : AV} {st : List AV} {x : Int} {σ : Sg} {Q : AV → Sg → Prop}  : Rn d m_X5_stake 49 [l0, l1, l2, vI x] st σ Q ↔ Rn d m_X5_stake 50 [l0, l1, l2, vI x] (vI x :: st) σ Q := q3 (show fnd (pgm m_X5_stake) 49 = some (50, 3, 0, 3, 0, []) from rfl) rfl
set_option maxRecDepth 100000 in
theorem s_X5_stake_50 {d : Nat} {l0 l1 l2 l3 : AV} {st : List AV} {a b : Int} {σ : Sg} {Q : AV → Sg → Prop}  : Rn d m_X5_stake 50 [l0, l1, l2, l3] (vI b :: vI a :: st) σ Q ↔ if ¬ w32 a = w32 b then Rn d m_X5_stake 62 [l0, l1, l2, l3] st σ Q else Rn d m_X5_stake 53 [l0, l1, l2, l3] st σ Q := q20_1 (show fnd (pgm m_X5_stake) 50 = some (53, 20, 0, 1, 62, []) from rfl)
set_option maxRecDepth 100000 in
theorem s_X5_stake_53 {d : Nat} {l1 l2 l3 : AV} {st : List AV} {o : Nat} {σ : Sg} {Q : AV → Sg → Prop} (ho : o ≠ 0) : Rn d m_X5_stake 53 [vR o, l1, l2, l3] st σ Q ↔ Rn d m_X5_stake 54 [vR o, l1, l2, l3] (vR o :: st) σ Q := q5 (show fnd (pgm m_X5_stake) 53 = some (54, 5, 0, 0, 0, []) from rfl) rfl ho
set_option maxRecDepth 100000 in
theorem s_X5_stake_54 {d : Nat} {l0 l1 l2 l3 : AV} {st : List AV} {σ : Sg} {Q : AV → Sg → Prop}  : Rn d m_X5_stake 54 [l0, l1, l2, l3] st σ Q ↔ Rn d m_X5_stake 56 [l0, l1, l2, l3] (vI (-3) :: st) σ Q := q0 (show fnd (pgm m_X5_stake) 54 = some (56, 0, (-3), 1, 0, []) from rfl)
set_option maxRecDepth 100000 in
theorem s_X5_stake_56 {d : Nat} {l0 l1 l2 l3 : AV} {st : List AV} {σ : Sg} {Q : AV → Sg → Prop}  : Rn d m_X5_stake 56 [l0, l1, l2, l3] st σ Q ↔ Rn d m_X5_stake 58 [l0, l1, l2, l3] (vI (-3) :: st) σ Q := q0 (show fnd (pgm m_X5_stake) 56 = some (58, 0, (-3), 1, 0, []) from rfl)
set_option maxRecDepth 100000 in
theorem s_X5_stake_58 {d : Nat} {l0 l1 l2 l3 : AV} {st : List AV} {o : Nat} {a0 : Int} {a1 : Int} {σ : Sg} {Q : AV → Sg → Prop} (h4 : st.length ≤ 4) (hk : kn σ o = (0, 5)) : Rn d m_X5_stake 58 [l0, l1, l2, l3] (vI a1 :: vI a0 :: vR o :: st) σ Q ↔ ∃ r σ1, Ev d m_X5_refuse [vR o, vI a0, vI a1] σ r σ1 ∧ Rn d m_X5_stake 61 [l0, l1, l2, l3] (psh r st) σ1 Q := q35 (show fnd (pgm m_X5_stake) 58 = some (61, 35, 84, 92, 3, []) from rfl) ⟨⟨by simp, by simpa using h4⟩, (by simp only [List.take, List.reverse, List.reverseAux, rcv]; rw [if_neg (by decide +kernel)]; exact decide_eq_true hk)⟩
set_option maxRecDepth 100000 in
theorem s_X5_stake_61 {d : Nat} {l0 l1 l2 l3 : AV} {x : Int} {σ : Sg} {Q : AV → Sg → Prop}  : Rn d m_X5_stake 61 [l0, l1, l2, l3] [vI x] σ Q ↔ Q (vI x) σ := q37_1 (st := []) (show fnd (pgm m_X5_stake) 61 = some (62, 37, 0, 1, 0, []) from rfl)
set_option maxRecDepth 100000 in
theorem s_X5_stake_62 {d : Nat} {l1 l2 l3 : AV} {st : List AV} {o : Nat} {σ : Sg} {Q : AV → Sg → Prop} (ho : o ≠ 0) : Rn d m_X5_stake 62 [vR o, l1, l2, l3] st σ Q ↔ Rn d m_X5_stake 63 [vR o, l1, l2, l3] (vR o :: st) σ Q := q5 (show fnd (pgm m_X5_stake) 62 = some (63, 5, 0, 0, 0, []) from rfl) rfl ho
set_option maxRecDepth 100000 in
theorem s_X5_stake_63 {d : Nat} {l0 l1 l2 l3 : AV} {st : List AV} {o : Nat} {σ : Sg} {Q : AV → Sg → Prop} (hk : kn σ o = (0, 5)) : Rn d m_X5_stake 63 [l0, l1, l2, l3] (vR o :: st) σ Q ↔ Rn d m_X5_stake 66 [l0, l1, l2, l3] (vR (tp o 0) :: st) σ Q := q33 (show fnd (pgm m_X5_stake) 63 = some (66, 33, 12, 5, 0, []) from rfl) hk
set_option maxRecDepth 100000 in
theorem s_X5_stake_66 {d : Nat} {l0 l1 l2 l3 : AV} {st : List AV} {o : Nat} {σ : Sg} {Q : AV → Sg → Prop} (hk : kn σ o = (0, 0)) : Rn d m_X5_stake 66 [l0, l1, l2, l3] (vR o :: st) σ Q ↔ Rn d m_X5_stake 69 [l0, l1, l2, l3] (vR (tp o 6) :: st) σ Q := q33 (show fnd (pgm m_X5_stake) 66 = some (69, 33, 92, 0, 6, []) from rfl) hk
set_option maxRecDepth 100000 in
theorem s_X5_stake_69 {d : Nat} {l0 l2 l3 : AV} {st : List AV} {x : Int} {σ : Sg} {Q : AV → Sg → Prop}  : Rn d m_X5_stake 69 [l0, vI x, l2, l3] st σ Q ↔ Rn d m_X5_stake 70 [l0, vI x, l2, l3] (vI x :: st) σ Q := q3 (show fnd (pgm m_X5_stake) 69 = some (70, 3, 0, 1, 0, []) from rfl) rfl
set_option maxRecDepth 100000 in
theorem s_X5_stake_70 {d : Nat} {l0 l1 l2 : AV} {st : List AV} {x : Int} {σ : Sg} {Q : AV → Sg → Prop}  : Rn d m_X5_stake 70 [l0, l1, l2, vI x] st σ Q ↔ Rn d m_X5_stake 71 [l0, l1, l2, vI x] (vI x :: st) σ Q := q3 (show fnd (pgm m_X5_stake) 70 = some (71, 3, 0, 3, 0, []) from rfl) rfl
set_option maxRecDepth 100000 in
theorem s_X5_stake_71 {d : Nat} {l0 l1 l2 l3 : AV} {st : List AV} {i x : Int} {o : Nat} {σ : Sg} {Q : AV → Sg → Prop} (hi : 0 ≤ w32 i ∧ w32 i < al σ 1 o) : Rn d m_X5_stake 71 [l0, l1, l2, l3] (vI x :: vI i :: vR o :: st) σ Q ↔ Rn d m_X5_stake 72 [l0, l1, l2, l3] st (up σ o (w32 i) x) Q := q29 (show fnd (pgm m_X5_stake) 71 = some (72, 29, 0, 0, 0, []) from rfl) hi
set_option maxRecDepth 100000 in
theorem s_X5_stake_72 {d : Nat} {l0 l1 l2 l3 : AV} {st : List AV} {σ : Sg} {Q : AV → Sg → Prop}  : Rn d m_X5_stake 72 [l0, l1, l2, l3] st σ Q ↔ Rn d m_X5_stake 73 [l0, l1, l2, l3] (vI 1 :: st) σ Q := q0 (show fnd (pgm m_X5_stake) 72 = some (73, 0, 1, 0, 0, []) from rfl)
set_option maxRecDepth 100000 in
theorem s_X5_stake_73 {d : Nat} {l0 l1 l2 l3 : AV} {x : Int} {σ : Sg} {Q : AV → Sg → Prop}  : Rn d m_X5_stake 73 [l0, l1, l2, l3] [vI x] σ Q ↔ Q (vI x) σ := q37_1 (st := []) (show fnd (pgm m_X5_stake) 73 = some (74, 37, 0, 1, 0, []) from rfl)
set_option maxRecDepth 100000 in
theorem en_X5_night {d : Nat} {o : Nat} {a0 : Int} {a1 : Int} {a2 : Int} {a3 : Int} {a4 : Int} {σ σ0 : Sg} {r0 : AV} (h : Rn d m_X5_night 0 [vR o, vI a0, vI a1, vI a2, vI a3, vI a4] [] σ (fun r σ1 => r = r0 ∧ σ1 = σ0)) : Ev (d + 1) m_X5_night [vR o, vI a0, vI a1, vI a2, vI a3, vI a4] σ r0 σ0 := Ev_is (Nat.le_of_ble_eq_true rfl) h
set_option maxRecDepth 100000 in
theorem eo_X5_night {d : Nat} {o : Nat} {a0 : Int} {a1 : Int} {a2 : Int} {a3 : Int} {a4 : Int} {σ : Sg} {Q : AV → Sg → Prop} (h : Rn d m_X5_night 0 [vR o, vI a0, vI a1, vI a2, vI a3, vI a4] [] σ Q) : ∃ r σ1, Ev (d + 1) m_X5_night [vR o, vI a0, vI a1, vI a2, vI a3, vI a4] σ r σ1 ∧ Q r σ1 := Ev_of (Nat.le_of_ble_eq_true rfl) h
set_option maxRecDepth 100000 in
theorem s_X5_night_0 {d : Nat} {l0 l2 l3 l4 l5 : AV} {st : List AV} {x : Int} {σ : Sg} {Q : AV → Sg → Prop}  : Rn d m_X5_night 0 [l0, vI x, l2, l3, l4, l5] st σ Q ↔ Rn d m_X5_night 1 [l0, vI x, l2, l3, l4, l5] (vI x :: st) σ Q := q3 (show fnd (pgm m_X5_night) 0 = some (1, 3, 0, 1, 0, []) from rfl) rfl
set_option maxRecDepth 100000 in
theorem s_X5_night_1 {d : Nat} {l0 l1 l2 l3 l4 l5 : AV} {st : List AV} {σ : Sg} {Q : AV → Sg → Prop}  : Rn d m_X5_night 1 [l0, l1, l2, l3, l4, l5] st σ Q ↔ Rn d m_X5_night 3 [l0, l1, l2, l3, l4, l5] (vI 20 :: st) σ Q := q0 (show fnd (pgm m_X5_night) 1 = some (3, 0, 20, 1, 0, []) from rfl)
set_option maxRecDepth 100000 in
theorem s_X5_night_3 {d : Nat} {l0 l1 l2 l3 l4 l5 : AV} {st : List AV}  {a0 : Int} {a1 : Int} {σ : Sg} {Q : AV → Sg → Prop} (h4 : st.length ≤ 4) : Rn d m_X5_night 3 [l0, l1, l2, l3, l4, l5] (vI a1 :: vI a0 :: st) σ Q ↔ ∃ r σ1, Ev d m_X5_within [vI a0, vI a1] σ r σ1 ∧ Rn d m_X5_night 6 [l0, l1, l2, l3, l4, l5] (psh r st) σ1 Q := q35 (show fnd (pgm m_X5_night) 3 = some (6, 35, 80, 89, 2, []) from rfl) ⟨⟨by simp, by simpa using h4⟩, rfl⟩
set_option maxRecDepth 100000 in
theorem s_X5_night_6 {d : Nat} {l0 l1 l2 l3 l4 l5 : AV} {st : List AV} {a : Int} {σ : Sg} {Q : AV → Sg → Prop}  : Rn d m_X5_night 6 [l0, l1, l2, l3, l4, l5] (vI a :: st) σ Q ↔ if w32 a = 0 then Rn d m_X5_night 36 [l0, l1, l2, l3, l4, l5] st σ Q else Rn d m_X5_night 9 [l0, l1, l2, l3, l4, l5] st σ Q := q19_0 (show fnd (pgm m_X5_night) 6 = some (9, 19, 0, 0, 36, []) from rfl)
set_option maxRecDepth 100000 in
theorem s_X5_night_9 {d : Nat} {l0 l1 l3 l4 l5 : AV} {st : List AV} {x : Int} {σ : Sg} {Q : AV → Sg → Prop}  : Rn d m_X5_night 9 [l0, l1, vI x, l3, l4, l5] st σ Q ↔ Rn d m_X5_night 10 [l0, l1, vI x, l3, l4, l5] (vI x :: st) σ Q := q3 (show fnd (pgm m_X5_night) 9 = some (10, 3, 0, 2, 0, []) from rfl) rfl
set_option maxRecDepth 100000 in
theorem s_X5_night_10 {d : Nat} {l0 l1 l2 l3 l4 l5 : AV} {st : List AV} {σ : Sg} {Q : AV → Sg → Prop}  : Rn d m_X5_night 10 [l0, l1, l2, l3, l4, l5] st σ Q ↔ Rn d m_X5_night 11 [l0, l1, l2, l3, l4, l5] (vI 4 :: st) σ Q := q0 (show fnd (pgm m_X5_night) 10 = some (11, 0, 4, 0, 0, []) from rfl)
set_option maxRecDepth 100000 in
theorem s_X5_night_11 {d : Nat} {l0 l1 l2 l3 l4 l5 : AV} {st : List AV}  {a0 : Int} {a1 : Int} {σ : Sg} {Q : AV → Sg → Prop} (h4 : st.length ≤ 4) : Rn d m_X5_night 11 [l0, l1, l2, l3, l4, l5] (vI a1 :: vI a0 :: st) σ Q ↔ ∃ r σ1, Ev d m_X5_within [vI a0, vI a1] σ r σ1 ∧ Rn d m_X5_night 14 [l0, l1, l2, l3, l4, l5] (psh r st) σ1 Q := q35 (show fnd (pgm m_X5_night) 11 = some (14, 35, 80, 89, 2, []) from rfl) ⟨⟨by simp, by simpa using h4⟩, rfl⟩
set_option maxRecDepth 100000 in
theorem s_X5_night_14 {d : Nat} {l0 l1 l2 l3 l4 l5 : AV} {st : List AV} {a : Int} {σ : Sg} {Q : AV → Sg → Prop}  : Rn d m_X5_night 14 [l0, l1, l2, l3, l4, l5] (vI a :: st) σ Q ↔ if w32 a = 0 then Rn d m_X5_night 36 [l0, l1, l2, l3, l4, l5] st σ Q else Rn d m_X5_night 17 [l0, l1, l2, l3, l4, l5] st σ Q := q19_0 (show fnd (pgm m_X5_night) 14 = some (17, 19, 0, 0, 36, []) from rfl)
set_option maxRecDepth 100000 in
theorem s_X5_night_17 {d : Nat} {l0 l1 l2 l4 l5 : AV} {st : List AV} {x : Int} {σ : Sg} {Q : AV → Sg → Prop}  : Rn d m_X5_night 17 [l0, l1, l2, vI x, l4, l5] st σ Q ↔ Rn d m_X5_night 18 [l0, l1, l2, vI x, l4, l5] (vI x :: st) σ Q := q3 (show fnd (pgm m_X5_night) 17 = some (18, 3, 0, 3, 0, []) from rfl) rfl
set_option maxRecDepth 100000 in
theorem s_X5_night_18 {d : Nat} {l0 l1 l2 l3 l4 l5 : AV} {st : List AV} {σ : Sg} {Q : AV → Sg → Prop}  : Rn d m_X5_night 18 [l0, l1, l2, l3, l4, l5] st σ Q ↔ Rn d m_X5_night 20 [l0, l1, l2, l3, l4, l5] (vI 100 :: st) σ Q := q0 (show fnd (pgm m_X5_night) 18 = some (20, 0, 100, 1, 0, []) from rfl)
set_option maxRecDepth 100000 in
theorem s_X5_night_20 {d : Nat} {l0 l1 l2 l3 l4 l5 : AV} {st : List AV}  {a0 : Int} {a1 : Int} {σ : Sg} {Q : AV → Sg → Prop} (h4 : st.length ≤ 4) : Rn d m_X5_night 20 [l0, l1, l2, l3, l4, l5] (vI a1 :: vI a0 :: st) σ Q ↔ ∃ r σ1, Ev d m_X5_within [vI a0, vI a1] σ r σ1 ∧ Rn d m_X5_night 23 [l0, l1, l2, l3, l4, l5] (psh r st) σ1 Q := q35 (show fnd (pgm m_X5_night) 20 = some (23, 35, 80, 89, 2, []) from rfl) ⟨⟨by simp, by simpa using h4⟩, rfl⟩
set_option maxRecDepth 100000 in
theorem s_X5_night_23 {d : Nat} {l0 l1 l2 l3 l4 l5 : AV} {st : List AV} {a : Int} {σ : Sg} {Q : AV → Sg → Prop}  : Rn d m_X5_night 23 [l0, l1, l2, l3, l4, l5] (vI a :: st) σ Q ↔ if w32 a = 0 then Rn d m_X5_night 36 [l0, l1, l2, l3, l4, l5] st σ Q else Rn d m_X5_night 26 [l0, l1, l2, l3, l4, l5] st σ Q := q19_0 (show fnd (pgm m_X5_night) 23 = some (26, 19, 0, 0, 36, []) from rfl)
set_option maxRecDepth 100000 in
theorem s_X5_night_26 {d : Nat} {l0 l1 l2 l3 l5 : AV} {st : List AV} {x : Int} {σ : Sg} {Q : AV → Sg → Prop}  : Rn d m_X5_night 26 [l0, l1, l2, l3, vI x, l5] st σ Q ↔ Rn d m_X5_night 28 [l0, l1, l2, l3, vI x, l5] (vI x :: st) σ Q := q3 (show fnd (pgm m_X5_night) 26 = some (28, 3, 0, 4, 1, []) from rfl) rfl
set_option maxRecDepth 100000 in
theorem s_X5_night_28 {d : Nat} {l0 l1 l2 l3 l4 l5 : AV} {st : List AV} {σ : Sg} {Q : AV → Sg → Prop}  : Rn d m_X5_night 28 [l0, l1, l2, l3, l4, l5] st σ Q ↔ Rn d m_X5_night 30 [l0, l1, l2, l3, l4, l5] (vI 10 :: st) σ Q := q0 (show fnd (pgm m_X5_night) 28 = some (30, 0, 10, 1, 0, []) from rfl)
set_option maxRecDepth 100000 in
theorem s_X5_night_30 {d : Nat} {l0 l1 l2 l3 l4 l5 : AV} {st : List AV}  {a0 : Int} {a1 : Int} {σ : Sg} {Q : AV → Sg → Prop} (h4 : st.length ≤ 4) : Rn d m_X5_night 30 [l0, l1, l2, l3, l4, l5] (vI a1 :: vI a0 :: st) σ Q ↔ ∃ r σ1, Ev d m_X5_within [vI a0, vI a1] σ r σ1 ∧ Rn d m_X5_night 33 [l0, l1, l2, l3, l4, l5] (psh r st) σ1 Q := q35 (show fnd (pgm m_X5_night) 30 = some (33, 35, 80, 89, 2, []) from rfl) ⟨⟨by simp, by simpa using h4⟩, rfl⟩
set_option maxRecDepth 100000 in
theorem s_X5_night_33 {d : Nat} {l0 l1 l2 l3 l4 l5 : AV} {st : List AV} {a : Int} {σ : Sg} {Q : AV → Sg → Prop}  : Rn d m_X5_night 33 [l0, l1, l2, l3, l4, l5] (vI a :: st) σ Q ↔ if ¬ w32 a = 0 then Rn d m_X5_night 45 [l0, l1, l2, l3, l4, l5] st σ Q else Rn d m_X5_night 36 [l0, l1, l2, l3, l4, l5] st σ Q := q19_1 (show fnd (pgm m_X5_night) 33 = some (36, 19, 0, 1, 45, []) from rfl)
set_option maxRecDepth 100000 in
theorem s_X5_night_36 {d : Nat} {l1 l2 l3 l4 l5 : AV} {st : List AV} {o : Nat} {σ : Sg} {Q : AV → Sg → Prop} (ho : o ≠ 0) : Rn d m_X5_night 36 [vR o, l1, l2, l3, l4, l5] st σ Q ↔ Rn d m_X5_night 37 [vR o, l1, l2, l3, l4, l5] (vR o :: st) σ Q := q5 (show fnd (pgm m_X5_night) 36 = some (37, 5, 0, 0, 0, []) from rfl) rfl ho
set_option maxRecDepth 100000 in
theorem s_X5_night_37 {d : Nat} {l0 l1 l2 l3 l4 l5 : AV} {st : List AV} {σ : Sg} {Q : AV → Sg → Prop}  : Rn d m_X5_night 37 [l0, l1, l2, l3, l4, l5] st σ Q ↔ Rn d m_X5_night 39 [l0, l1, l2, l3, l4, l5] (vI (-2) :: st) σ Q := q0 (show fnd (pgm m_X5_night) 37 = some (39, 0, (-2), 1, 0, []) from rfl)
set_option maxRecDepth 100000 in
theorem s_X5_night_39 {d : Nat} {l0 l1 l2 l3 l4 l5 : AV} {st : List AV} {σ : Sg} {Q : AV → Sg → Prop}  : Rn d m_X5_night 39 [l0, l1, l2, l3, l4, l5] st σ Q ↔ Rn d m_X5_night 41 [l0, l1, l2, l3, l4, l5] (vI (-2) :: st) σ Q := q0 (show fnd (pgm m_X5_night) 39 = some (41, 0, (-2), 1, 0, []) from rfl)
set_option maxRecDepth 100000 in
theorem s_X5_night_41 {d : Nat} {l0 l1 l2 l3 l4 l5 : AV} {st : List AV} {o : Nat} {a0 : Int} {a1 : Int} {σ : Sg} {Q : AV → Sg → Prop} (h4 : st.length ≤ 4) (hk : kn σ o = (0, 5)) : Rn d m_X5_night 41 [l0, l1, l2, l3, l4, l5] (vI a1 :: vI a0 :: vR o :: st) σ Q ↔ ∃ r σ1, Ev d m_X5_refuse [vR o, vI a0, vI a1] σ r σ1 ∧ Rn d m_X5_night 44 [l0, l1, l2, l3, l4, l5] (psh r st) σ1 Q := q35 (show fnd (pgm m_X5_night) 41 = some (44, 35, 84, 92, 3, []) from rfl) ⟨⟨by simp, by simpa using h4⟩, (by simp only [List.take, List.reverse, List.reverseAux, rcv]; rw [if_neg (by decide +kernel)]; exact decide_eq_true hk)⟩
set_option maxRecDepth 100000 in
theorem s_X5_night_44 {d : Nat} {l0 l1 l2 l3 l4 l5 : AV} {x : Int} {σ : Sg} {Q : AV → Sg → Prop}  : Rn d m_X5_night 44 [l0, l1, l2, l3, l4, l5] [vI x] σ Q ↔ Q (vI x) σ := q37_1 (st := []) (show fnd (pgm m_X5_night) 44 = some (45, 37, 0, 1, 0, []) from rfl)
set_option maxRecDepth 100000 in
theorem s_X5_night_45 {d : Nat} {l1 l2 l3 l4 l5 : AV} {st : List AV} {o : Nat} {σ : Sg} {Q : AV → Sg → Prop} (ho : o ≠ 0) : Rn d m_X5_night 45 [vR o, l1, l2, l3, l4, l5] st σ Q ↔ Rn d m_X5_night 46 [vR o, l1, l2, l3, l4, l5] (vR o :: st) σ Q := q5 (show fnd (pgm m_X5_night) 45 = some (46, 5, 0, 0, 0, []) from rfl) rfl ho
set_option maxRecDepth 100000 in
theorem s_X5_night_46 {d : Nat} {l0 l1 l2 l3 l4 l5 : AV} {st : List AV} {o : Nat} {σ : Sg} {Q : AV → Sg → Prop} (hk : kn σ o = (0, 5)) : Rn d m_X5_night 46 [l0, l1, l2, l3, l4, l5] (vR o :: st) σ Q ↔ Rn d m_X5_night 49 [l0, l1, l2, l3, l4, l5] (vR (tp o 0) :: st) σ Q := q33 (show fnd (pgm m_X5_night) 46 = some (49, 33, 12, 5, 0, []) from rfl) hk
set_option maxRecDepth 100000 in
theorem s_X5_night_49 {d : Nat} {l0 l1 l2 l3 l4 l5 : AV} {st : List AV} {o : Nat} {σ : Sg} {Q : AV → Sg → Prop} (hk : kn σ o = (0, 0)) : Rn d m_X5_night 49 [l0, l1, l2, l3, l4, l5] (vR o :: st) σ Q ↔ Rn d m_X5_night 52 [l0, l1, l2, l3, l4, l5] (vR (tp o 7) :: st) σ Q := q33 (show fnd (pgm m_X5_night) 49 = some (52, 33, 105, 0, 7, []) from rfl) hk
set_option maxRecDepth 100000 in
theorem s_X5_night_52 {d : Nat} {l0 l2 l3 l4 l5 : AV} {st : List AV} {x : Int} {σ : Sg} {Q : AV → Sg → Prop}  : Rn d m_X5_night 52 [l0, vI x, l2, l3, l4, l5] st σ Q ↔ Rn d m_X5_night 53 [l0, vI x, l2, l3, l4, l5] (vI x :: st) σ Q := q3 (show fnd (pgm m_X5_night) 52 = some (53, 3, 0, 1, 0, []) from rfl) rfl
set_option maxRecDepth 100000 in
theorem s_X5_night_53 {d : Nat} {l0 l1 l3 l4 l5 : AV} {st : List AV} {x : Int} {σ : Sg} {Q : AV → Sg → Prop}  : Rn d m_X5_night 53 [l0, l1, vI x, l3, l4, l5] st σ Q ↔ Rn d m_X5_night 54 [l0, l1, vI x, l3, l4, l5] (vI x :: st) σ Q := q3 (show fnd (pgm m_X5_night) 53 = some (54, 3, 0, 2, 0, []) from rfl) rfl
set_option maxRecDepth 100000 in
theorem s_X5_night_54 {d : Nat} {l0 l1 l2 l4 l5 : AV} {st : List AV} {x : Int} {σ : Sg} {Q : AV → Sg → Prop}  : Rn d m_X5_night 54 [l0, l1, l2, vI x, l4, l5] st σ Q ↔ Rn d m_X5_night 55 [l0, l1, l2, vI x, l4, l5] (vI x :: st) σ Q := q3 (show fnd (pgm m_X5_night) 54 = some (55, 3, 0, 3, 0, []) from rfl) rfl
set_option maxRecDepth 100000 in
theorem s_X5_night_55 {d : Nat} {l0 l1 l2 l3 l5 : AV} {st : List AV} {x : Int} {σ : Sg} {Q : AV → Sg → Prop}  : Rn d m_X5_night 55 [l0, l1, l2, l3, vI x, l5] st σ Q ↔ Rn d m_X5_night 57 [l0, l1, l2, l3, vI x, l5] (vI x :: st) σ Q := q3 (show fnd (pgm m_X5_night) 55 = some (57, 3, 0, 4, 1, []) from rfl) rfl
set_option maxRecDepth 100000 in
theorem s_X5_night_57 {d : Nat} {l0 l1 l2 l3 l4 : AV} {st : List AV} {x : Int} {σ : Sg} {Q : AV → Sg → Prop}  : Rn d m_X5_night 57 [l0, l1, l2, l3, l4, vI x] st σ Q ↔ Rn d m_X5_night 59 [l0, l1, l2, l3, l4, vI x] (vI x :: st) σ Q := q3 (show fnd (pgm m_X5_night) 57 = some (59, 3, 0, 5, 1, []) from rfl) rfl
set_option maxRecDepth 100000 in
theorem s_X5_night_59 {d : Nat} {l0 l1 l2 l3 l4 l5 : AV} {st : List AV} {a : Int} {σ : Sg} {Q : AV → Sg → Prop}  : Rn d m_X5_night 59 [l0, l1, l2, l3, l4, l5] (vI a :: st) σ Q ↔ if w32 a = 0 then Rn d m_X5_night 66 [l0, l1, l2, l3, l4, l5] st σ Q else Rn d m_X5_night 62 [l0, l1, l2, l3, l4, l5] st σ Q := q19_0 (show fnd (pgm m_X5_night) 59 = some (62, 19, 0, 0, 66, []) from rfl)
set_option maxRecDepth 100000 in
theorem s_X5_night_62 {d : Nat} {l0 l1 l2 l3 l4 l5 : AV} {st : List AV} {σ : Sg} {Q : AV → Sg → Prop}  : Rn d m_X5_night 62 [l0, l1, l2, l3, l4, l5] st σ Q ↔ Rn d m_X5_night 63 [l0, l1, l2, l3, l4, l5] (vI 1 :: st) σ Q := q0 (show fnd (pgm m_X5_night) 62 = some (63, 0, 1, 0, 0, []) from rfl)
set_option maxRecDepth 100000 in
theorem s_X5_night_63 {d : Nat} {l0 l1 l2 l3 l4 l5 : AV} {st : List AV} {σ : Sg} {Q : AV → Sg → Prop}  : Rn d m_X5_night 63 [l0, l1, l2, l3, l4, l5] st σ Q ↔ Rn d m_X5_night 67 [l0, l1, l2, l3, l4, l5] st σ Q := q21 (show fnd (pgm m_X5_night) 63 = some (66, 21, 0, 0, 67, []) from rfl)
set_option maxRecDepth 100000 in
theorem s_X5_night_66 {d : Nat} {l0 l1 l2 l3 l4 l5 : AV} {st : List AV} {σ : Sg} {Q : AV → Sg → Prop}  : Rn d m_X5_night 66 [l0, l1, l2, l3, l4, l5] st σ Q ↔ Rn d m_X5_night 67 [l0, l1, l2, l3, l4, l5] (vI 0 :: st) σ Q := q0 (show fnd (pgm m_X5_night) 66 = some (67, 0, 0, 0, 0, []) from rfl)
set_option maxRecDepth 100000 in
theorem s_X5_night_67 {d : Nat} {l0 l1 l2 l3 l4 l5 : AV} {st : List AV} {o : Nat} {a0 : Int} {a1 : Int} {a2 : Int} {a3 : Int} {a4 : Int} {σ : Sg} {Q : AV → Sg → Prop} (h4 : st.length ≤ 4) (hk : kn σ o = (0, 2)) : Rn d m_X5_night 67 [l0, l1, l2, l3, l4, l5] (vI a4 :: vI a3 :: vI a2 :: vI a1 :: vI a0 :: vR o :: st) σ Q ↔ ∃ r σ1, Ev d m_X2_tell [vR o, vI a0, vI a1, vI a2, vI a3, vI a4] σ r σ1 ∧ Rn d m_X5_night 70 [l0, l1, l2, l3, l4, l5] (psh r st) σ1 Q := q35 (show fnd (pgm m_X5_night) 67 = some (70, 35, 108, 19, 6, []) from rfl) ⟨⟨by simp, by simpa using h4⟩, (by simp only [List.take, List.reverse, List.reverseAux, rcv]; rw [if_neg (by decide +kernel)]; exact decide_eq_true hk)⟩
set_option maxRecDepth 100000 in
theorem s_X5_night_70 {d : Nat} {l0 l1 l2 l3 l4 l5 : AV} {st : List AV} {σ : Sg} {Q : AV → Sg → Prop}  : Rn d m_X5_night 70 [l0, l1, l2, l3, l4, l5] st σ Q ↔ Rn d m_X5_night 71 [l0, l1, l2, l3, l4, l5] (vI 1 :: st) σ Q := q0 (show fnd (pgm m_X5_night) 70 = some (71, 0, 1, 0, 0, []) from rfl)
set_option maxRecDepth 100000 in
theorem s_X5_night_71 {d : Nat} {l0 l1 l2 l3 l4 l5 : AV} {x : Int} {σ : Sg} {Q : AV → Sg → Prop}  : Rn d m_X5_night 71 [l0, l1, l2, l3, l4, l5] [vI x] σ Q ↔ Q (vI x) σ := q37_1 (st := []) (show fnd (pgm m_X5_night) 71 = some (72, 37, 0, 1, 0, []) from rfl)
set_option maxRecDepth 100000 in
theorem en_X5_draw {d : Nat} {o : Nat} {a0 : Int} {σ σ0 : Sg} {r0 : AV} (h : Rn d m_X5_draw 0 [vR o, vI a0] [] σ (fun r σ1 => r = r0 ∧ σ1 = σ0)) : Ev (d + 1) m_X5_draw [vR o, vI a0] σ r0 σ0 := Ev_is (Nat.le_of_ble_eq_true rfl) h
set_option maxRecDepth 100000 in
theorem eo_X5_draw {d : Nat} {o : Nat} {a0 : Int} {σ : Sg} {Q : AV → Sg → Prop} (h : Rn d m_X5_draw 0 [vR o, vI a0] [] σ Q) : ∃ r σ1, Ev (d + 1) m_X5_draw [vR o, vI a0] σ r σ1 ∧ Q r σ1 := Ev_of (Nat.le_of_ble_eq_true rfl) h
set_option maxRecDepth 100000 in
theorem s_X5_draw_0 {d : Nat} {l0 : AV} {st : List AV} {x : Int} {σ : Sg} {Q : AV → Sg → Prop}  : Rn d m_X5_draw 0 [l0, vI x] st σ Q ↔ Rn d m_X5_draw 1 [l0, vI x] (vI x :: st) σ Q := q3 (show fnd (pgm m_X5_draw) 0 = some (1, 3, 0, 1, 0, []) from rfl) rfl
set_option maxRecDepth 100000 in
theorem s_X5_draw_1 {d : Nat} {l0 l1 : AV} {st : List AV} {σ : Sg} {Q : AV → Sg → Prop}  : Rn d m_X5_draw 1 [l0, l1] st σ Q ↔ Rn d m_X5_draw 3 [l0, l1] (vI 1000000 :: st) σ Q := q0 (show fnd (pgm m_X5_draw) 1 = some (3, 0, 1000000, 3, 112, []) from rfl)
set_option maxRecDepth 100000 in
theorem s_X5_draw_3 {d : Nat} {l0 l1 : AV} {st : List AV}  {a0 : Int} {a1 : Int} {σ : Sg} {Q : AV → Sg → Prop} (h4 : st.length ≤ 4) : Rn d m_X5_draw 3 [l0, l1] (vI a1 :: vI a0 :: st) σ Q ↔ ∃ r σ1, Ev d m_X5_within [vI a0, vI a1] σ r σ1 ∧ Rn d m_X5_draw 6 [l0, l1] (psh r st) σ1 Q := q35 (show fnd (pgm m_X5_draw) 3 = some (6, 35, 80, 89, 2, []) from rfl) ⟨⟨by simp, by simpa using h4⟩, rfl⟩
set_option maxRecDepth 100000 in
theorem s_X5_draw_6 {d : Nat} {l0 l1 : AV} {st : List AV} {a : Int} {σ : Sg} {Q : AV → Sg → Prop}  : Rn d m_X5_draw 6 [l0, l1] (vI a :: st) σ Q ↔ if ¬ w32 a = 0 then Rn d m_X5_draw 18 [l0, l1] st σ Q else Rn d m_X5_draw 9 [l0, l1] st σ Q := q19_1 (show fnd (pgm m_X5_draw) 6 = some (9, 19, 0, 1, 18, []) from rfl)
set_option maxRecDepth 100000 in
theorem s_X5_draw_9 {d : Nat} {l1 : AV} {st : List AV} {o : Nat} {σ : Sg} {Q : AV → Sg → Prop} (ho : o ≠ 0) : Rn d m_X5_draw 9 [vR o, l1] st σ Q ↔ Rn d m_X5_draw 10 [vR o, l1] (vR o :: st) σ Q := q5 (show fnd (pgm m_X5_draw) 9 = some (10, 5, 0, 0, 0, []) from rfl) rfl ho
set_option maxRecDepth 100000 in
theorem s_X5_draw_10 {d : Nat} {l0 l1 : AV} {st : List AV} {σ : Sg} {Q : AV → Sg → Prop}  : Rn d m_X5_draw 10 [l0, l1] st σ Q ↔ Rn d m_X5_draw 12 [l0, l1] (vI (-2) :: st) σ Q := q0 (show fnd (pgm m_X5_draw) 10 = some (12, 0, (-2), 1, 0, []) from rfl)
set_option maxRecDepth 100000 in
theorem s_X5_draw_12 {d : Nat} {l0 l1 : AV} {st : List AV} {σ : Sg} {Q : AV → Sg → Prop}  : Rn d m_X5_draw 12 [l0, l1] st σ Q ↔ Rn d m_X5_draw 14 [l0, l1] (vI (-2) :: st) σ Q := q0 (show fnd (pgm m_X5_draw) 12 = some (14, 0, (-2), 1, 0, []) from rfl)
set_option maxRecDepth 100000 in
theorem s_X5_draw_14 {d : Nat} {l0 l1 : AV} {st : List AV} {o : Nat} {a0 : Int} {a1 : Int} {σ : Sg} {Q : AV → Sg → Prop} (h4 : st.length ≤ 4) (hk : kn σ o = (0, 5)) : Rn d m_X5_draw 14 [l0, l1] (vI a1 :: vI a0 :: vR o :: st) σ Q ↔ ∃ r σ1, Ev d m_X5_refuse [vR o, vI a0, vI a1] σ r σ1 ∧ Rn d m_X5_draw 17 [l0, l1] (psh r st) σ1 Q := q35 (show fnd (pgm m_X5_draw) 14 = some (17, 35, 84, 92, 3, []) from rfl) ⟨⟨by simp, by simpa using h4⟩, (by simp only [List.take, List.reverse, List.reverseAux, rcv]; rw [if_neg (by decide +kernel)]; exact decide_eq_true hk)⟩
set_option maxRecDepth 100000 in
theorem s_X5_draw_17 {d : Nat} {l0 l1 : AV} {x : Int} {σ : Sg} {Q : AV → Sg → Prop}  : Rn d m_X5_draw 17 [l0, l1] [vI x] σ Q ↔ Q (vI x) σ := q37_1 (st := []) (show fnd (pgm m_X5_draw) 17 = some (18, 37, 0, 1, 0, []) from rfl)
set_option maxRecDepth 100000 in
theorem s_X5_draw_18 {d : Nat} {l1 : AV} {st : List AV} {o : Nat} {σ : Sg} {Q : AV → Sg → Prop} (ho : o ≠ 0) : Rn d m_X5_draw 18 [vR o, l1] st σ Q ↔ Rn d m_X5_draw 19 [vR o, l1] (vR o :: st) σ Q := q5 (show fnd (pgm m_X5_draw) 18 = some (19, 5, 0, 0, 0, []) from rfl) rfl ho
set_option maxRecDepth 100000 in
theorem s_X5_draw_19 {d : Nat} {l0 l1 : AV} {st : List AV} {o : Nat} {σ : Sg} {Q : AV → Sg → Prop} (hk : kn σ o = (0, 5)) : Rn d m_X5_draw 19 [l0, l1] (vR o :: st) σ Q ↔ Rn d m_X5_draw 22 [l0, l1] (vR (tp o 0) :: st) σ Q := q33 (show fnd (pgm m_X5_draw) 19 = some (22, 33, 12, 5, 0, []) from rfl) hk
set_option maxRecDepth 100000 in
theorem s_X5_draw_22 {d : Nat} {l0 l1 : AV} {st : List AV} {o : Nat} {σ : Sg} {Q : AV → Sg → Prop} (hk : kn σ o = (0, 0)) : Rn d m_X5_draw 22 [l0, l1] (vR o :: st) σ Q ↔ Rn d m_X5_draw 25 [l0, l1] (vR (tp o 7) :: st) σ Q := q33 (show fnd (pgm m_X5_draw) 22 = some (25, 33, 105, 0, 7, []) from rfl) hk
set_option maxRecDepth 100000 in
theorem s_X5_draw_25 {d : Nat} {l0 : AV} {st : List AV} {x : Int} {σ : Sg} {Q : AV → Sg → Prop}  : Rn d m_X5_draw 25 [l0, vI x] st σ Q ↔ Rn d m_X5_draw 26 [l0, vI x] (vI x :: st) σ Q := q3 (show fnd (pgm m_X5_draw) 25 = some (26, 3, 0, 1, 0, []) from rfl) rfl
set_option maxRecDepth 100000 in
theorem s_X5_draw_26 {d : Nat} {l0 l1 : AV} {st : List AV} {o : Nat} {a0 : Int} {σ : Sg} {Q : AV → Sg → Prop} (h4 : st.length ≤ 4) (hk : kn σ o = (0, 2)) : Rn d m_X5_draw 26 [l0, l1] (vI a0 :: vR o :: st) σ Q ↔ ∃ r σ1, Ev d m_X2_drawBy [vR o, vI a0] σ r σ1 ∧ Rn d m_X5_draw 29 [l0, l1] (psh r st) σ1 Q := q35 (show fnd (pgm m_X5_draw) 26 = some (29, 35, 113, 20, 2, []) from rfl) ⟨⟨by simp, by simpa using h4⟩, (by simp only [List.take, List.reverse, List.reverseAux, rcv]; rw [if_neg (by decide +kernel)]; exact decide_eq_true hk)⟩
set_option maxRecDepth 100000 in
theorem s_X5_draw_29 {d : Nat} {l0 l1 : AV} {st : List AV} {σ : Sg} {Q : AV → Sg → Prop}  : Rn d m_X5_draw 29 [l0, l1] st σ Q ↔ Rn d m_X5_draw 30 [l0, l1] (vI 1 :: st) σ Q := q0 (show fnd (pgm m_X5_draw) 29 = some (30, 0, 1, 0, 0, []) from rfl)
set_option maxRecDepth 100000 in
theorem s_X5_draw_30 {d : Nat} {l0 l1 : AV} {x : Int} {σ : Sg} {Q : AV → Sg → Prop}  : Rn d m_X5_draw 30 [l0, l1] [vI x] σ Q ↔ Q (vI x) σ := q37_1 (st := []) (show fnd (pgm m_X5_draw) 30 = some (31, 37, 0, 1, 0, []) from rfl)
set_option maxRecDepth 100000 in
theorem en_X5_weather {d : Nat} {o : Nat} {a0 : Int} {a1 : Int} {σ σ0 : Sg} {r0 : AV} (h : Rn d m_X5_weather 0 [vR o, vI a0, vI a1] [] σ (fun r σ1 => r = r0 ∧ σ1 = σ0)) : Ev (d + 1) m_X5_weather [vR o, vI a0, vI a1] σ r0 σ0 := Ev_is (Nat.le_of_ble_eq_true rfl) h
set_option maxRecDepth 100000 in
theorem eo_X5_weather {d : Nat} {o : Nat} {a0 : Int} {a1 : Int} {σ : Sg} {Q : AV → Sg → Prop} (h : Rn d m_X5_weather 0 [vR o, vI a0, vI a1] [] σ Q) : ∃ r σ1, Ev (d + 1) m_X5_weather [vR o, vI a0, vI a1] σ r σ1 ∧ Q r σ1 := Ev_of (Nat.le_of_ble_eq_true rfl) h
set_option maxRecDepth 100000 in
theorem s_X5_weather_0 {d : Nat} {l0 l2 : AV} {st : List AV} {x : Int} {σ : Sg} {Q : AV → Sg → Prop}  : Rn d m_X5_weather 0 [l0, vI x, l2] st σ Q ↔ Rn d m_X5_weather 1 [l0, vI x, l2] (vI x :: st) σ Q := q3 (show fnd (pgm m_X5_weather) 0 = some (1, 3, 0, 1, 0, []) from rfl) rfl
set_option maxRecDepth 100000 in
theorem s_X5_weather_1 {d : Nat} {l0 l1 l2 : AV} {st : List AV} {σ : Sg} {Q : AV → Sg → Prop}  : Rn d m_X5_weather 1 [l0, l1, l2] st σ Q ↔ Rn d m_X5_weather 3 [l0, l1, l2] (vI 20 :: st) σ Q := q0 (show fnd (pgm m_X5_weather) 1 = some (3, 0, 20, 1, 0, []) from rfl)
set_option maxRecDepth 100000 in
theorem s_X5_weather_3 {d : Nat} {l0 l1 l2 : AV} {st : List AV}  {a0 : Int} {a1 : Int} {σ : Sg} {Q : AV → Sg → Prop} (h4 : st.length ≤ 4) : Rn d m_X5_weather 3 [l0, l1, l2] (vI a1 :: vI a0 :: st) σ Q ↔ ∃ r σ1, Ev d m_X5_within [vI a0, vI a1] σ r σ1 ∧ Rn d m_X5_weather 6 [l0, l1, l2] (psh r st) σ1 Q := q35 (show fnd (pgm m_X5_weather) 3 = some (6, 35, 80, 89, 2, []) from rfl) ⟨⟨by simp, by simpa using h4⟩, rfl⟩
set_option maxRecDepth 100000 in
theorem s_X5_weather_6 {d : Nat} {l0 l1 l2 : AV} {st : List AV} {a : Int} {σ : Sg} {Q : AV → Sg → Prop}  : Rn d m_X5_weather 6 [l0, l1, l2] (vI a :: st) σ Q ↔ if w32 a = 0 then Rn d m_X5_weather 17 [l0, l1, l2] st σ Q else Rn d m_X5_weather 9 [l0, l1, l2] st σ Q := q19_0 (show fnd (pgm m_X5_weather) 6 = some (9, 19, 0, 0, 17, []) from rfl)
set_option maxRecDepth 100000 in
theorem s_X5_weather_9 {d : Nat} {l0 l1 : AV} {st : List AV} {x : Int} {σ : Sg} {Q : AV → Sg → Prop}  : Rn d m_X5_weather 9 [l0, l1, vI x] st σ Q ↔ Rn d m_X5_weather 10 [l0, l1, vI x] (vI x :: st) σ Q := q3 (show fnd (pgm m_X5_weather) 9 = some (10, 3, 0, 2, 0, []) from rfl) rfl
set_option maxRecDepth 100000 in
theorem s_X5_weather_10 {d : Nat} {l0 l1 l2 : AV} {st : List AV} {σ : Sg} {Q : AV → Sg → Prop}  : Rn d m_X5_weather 10 [l0, l1, l2] st σ Q ↔ Rn d m_X5_weather 11 [l0, l1, l2] (vI 4 :: st) σ Q := q0 (show fnd (pgm m_X5_weather) 10 = some (11, 0, 4, 0, 0, []) from rfl)
set_option maxRecDepth 100000 in
theorem s_X5_weather_11 {d : Nat} {l0 l1 l2 : AV} {st : List AV}  {a0 : Int} {a1 : Int} {σ : Sg} {Q : AV → Sg → Prop} (h4 : st.length ≤ 4) : Rn d m_X5_weather 11 [l0, l1, l2] (vI a1 :: vI a0 :: st) σ Q ↔ ∃ r σ1, Ev d m_X5_within [vI a0, vI a1] σ r σ1 ∧ Rn d m_X5_weather 14 [l0, l1, l2] (psh r st) σ1 Q := q35 (show fnd (pgm m_X5_weather) 11 = some (14, 35, 80, 89, 2, []) from rfl) ⟨⟨by simp, by simpa using h4⟩, rfl⟩
set_option maxRecDepth 100000 in
theorem s_X5_weather_14 {d : Nat} {l0 l1 l2 : AV} {st : List AV} {a : Int} {σ : Sg} {Q : AV → Sg → Prop}  : Rn d m_X5_weather 14 [l0, l1, l2] (vI a :: st) σ Q ↔ if ¬ w32 a = 0 then Rn d m_X5_weather 26 [l0, l1, l2] st σ Q else Rn d m_X5_weather 17 [l0, l1, l2] st σ Q := q19_1 (show fnd (pgm m_X5_weather) 14 = some (17, 19, 0, 1, 26, []) from rfl)
set_option maxRecDepth 100000 in
theorem s_X5_weather_17 {d : Nat} {l1 l2 : AV} {st : List AV} {o : Nat} {σ : Sg} {Q : AV → Sg → Prop} (ho : o ≠ 0) : Rn d m_X5_weather 17 [vR o, l1, l2] st σ Q ↔ Rn d m_X5_weather 18 [vR o, l1, l2] (vR o :: st) σ Q := q5 (show fnd (pgm m_X5_weather) 17 = some (18, 5, 0, 0, 0, []) from rfl) rfl ho
set_option maxRecDepth 100000 in
theorem s_X5_weather_18 {d : Nat} {l0 l1 l2 : AV} {st : List AV} {σ : Sg} {Q : AV → Sg → Prop}  : Rn d m_X5_weather 18 [l0, l1, l2] st σ Q ↔ Rn d m_X5_weather 20 [l0, l1, l2] (vI (-2) :: st) σ Q := q0 (show fnd (pgm m_X5_weather) 18 = some (20, 0, (-2), 1, 0, []) from rfl)
set_option maxRecDepth 100000 in
theorem s_X5_weather_20 {d : Nat} {l0 l1 l2 : AV} {st : List AV} {σ : Sg} {Q : AV → Sg → Prop}  : Rn d m_X5_weather 20 [l0, l1, l2] st σ Q ↔ Rn d m_X5_weather 22 [l0, l1, l2] (vI (-2) :: st) σ Q := q0 (show fnd (pgm m_X5_weather) 20 = some (22, 0, (-2), 1, 0, []) from rfl)
set_option maxRecDepth 100000 in
theorem s_X5_weather_22 {d : Nat} {l0 l1 l2 : AV} {st : List AV} {o : Nat} {a0 : Int} {a1 : Int} {σ : Sg} {Q : AV → Sg → Prop} (h4 : st.length ≤ 4) (hk : kn σ o = (0, 5)) : Rn d m_X5_weather 22 [l0, l1, l2] (vI a1 :: vI a0 :: vR o :: st) σ Q ↔ ∃ r σ1, Ev d m_X5_refuse [vR o, vI a0, vI a1] σ r σ1 ∧ Rn d m_X5_weather 25 [l0, l1, l2] (psh r st) σ1 Q := q35 (show fnd (pgm m_X5_weather) 22 = some (25, 35, 84, 92, 3, []) from rfl) ⟨⟨by simp, by simpa using h4⟩, (by simp only [List.take, List.reverse, List.reverseAux, rcv]; rw [if_neg (by decide +kernel)]; exact decide_eq_true hk)⟩
set_option maxRecDepth 100000 in
theorem s_X5_weather_25 {d : Nat} {l0 l1 l2 : AV} {x : Int} {σ : Sg} {Q : AV → Sg → Prop}  : Rn d m_X5_weather 25 [l0, l1, l2] [vI x] σ Q ↔ Q (vI x) σ := q37_1 (st := []) (show fnd (pgm m_X5_weather) 25 = some (26, 37, 0, 1, 0, []) from rfl)
set_option maxRecDepth 100000 in
theorem s_X5_weather_26 {d : Nat} {l0 l1 : AV} {st : List AV} {x : Int} {σ : Sg} {Q : AV → Sg → Prop}  : Rn d m_X5_weather 26 [l0, l1, vI x] st σ Q ↔ Rn d m_X5_weather 27 [l0, l1, vI x] (vI x :: st) σ Q := q3 (show fnd (pgm m_X5_weather) 26 = some (27, 3, 0, 2, 0, []) from rfl) rfl
set_option maxRecDepth 100000 in
theorem s_X5_weather_27 {d : Nat} {l0 l1 l2 : AV} {st : List AV} {a : Int} {σ : Sg} {Q : AV → Sg → Prop}  : Rn d m_X5_weather 27 [l0, l1, l2] (vI a :: st) σ Q ↔ Rn d m_X5_weather (swt [(0, 52), (1, 65), (2, 78)] 91 (w32 a)) [l0, l1, l2] st σ Q := q24 (show fnd (pgm m_X5_weather) 27 = some (52, 24, 0, 0, 91, [(0, 52), (1, 65), (2, 78)]) from rfl)
set_option maxRecDepth 100000 in
theorem s_X5_weather_52 {d : Nat} {l1 l2 : AV} {st : List AV} {o : Nat} {σ : Sg} {Q : AV → Sg → Prop} (ho : o ≠ 0) : Rn d m_X5_weather 52 [vR o, l1, l2] st σ Q ↔ Rn d m_X5_weather 53 [vR o, l1, l2] (vR o :: st) σ Q := q5 (show fnd (pgm m_X5_weather) 52 = some (53, 5, 0, 0, 0, []) from rfl) rfl ho
set_option maxRecDepth 100000 in
theorem s_X5_weather_53 {d : Nat} {l0 l1 l2 : AV} {st : List AV} {o : Nat} {σ : Sg} {Q : AV → Sg → Prop} (hk : kn σ o = (0, 5)) : Rn d m_X5_weather 53 [l0, l1, l2] (vR o :: st) σ Q ↔ Rn d m_X5_weather 56 [l0, l1, l2] (vR (tp o 0) :: st) σ Q := q33 (show fnd (pgm m_X5_weather) 53 = some (56, 33, 12, 5, 0, []) from rfl) hk
set_option maxRecDepth 100000 in
theorem s_X5_weather_56 {d : Nat} {l0 l1 l2 : AV} {st : List AV} {o : Nat} {σ : Sg} {Q : AV → Sg → Prop} (hk : kn σ o = (0, 0)) : Rn d m_X5_weather 56 [l0, l1, l2] (vR o :: st) σ Q ↔ Rn d m_X5_weather 59 [l0, l1, l2] (vR (tp o 7) :: st) σ Q := q33 (show fnd (pgm m_X5_weather) 56 = some (59, 33, 105, 0, 7, []) from rfl) hk
set_option maxRecDepth 100000 in
theorem s_X5_weather_59 {d : Nat} {l0 l1 l2 : AV} {st : List AV} {o : Nat} {σ : Sg} {Q : AV → Sg → Prop} (hk : kn σ o = (0, 2)) : Rn d m_X5_weather 59 [l0, l1, l2] (vR o :: st) σ Q ↔ Rn d m_X5_weather 62 [l0, l1, l2] (vR (tp o 0) :: st) σ Q := q33 (show fnd (pgm m_X5_weather) 59 = some (62, 33, 117, 2, 0, []) from rfl) hk
set_option maxRecDepth 100000 in
theorem s_X5_weather_62 {d : Nat} {l0 l2 : AV} {st : List AV} {x : Int} {σ : Sg} {Q : AV → Sg → Prop}  : Rn d m_X5_weather 62 [l0, vI x, l2] st σ Q ↔ Rn d m_X5_weather 63 [l0, vI x, l2] (vI x :: st) σ Q := q3 (show fnd (pgm m_X5_weather) 62 = some (63, 3, 0, 1, 0, []) from rfl) rfl
set_option maxRecDepth 100000 in
theorem s_X5_weather_63 {d : Nat} {l0 l1 l2 : AV} {st : List AV} {i : Int} {o : Nat} {σ : Sg} {Q : AV → Sg → Prop} (hi : 0 ≤ w32 i ∧ w32 i < al σ 1 o) : Rn d m_X5_weather 63 [l0, l1, l2] (vI i :: vR o :: st) σ Q ↔ Rn d m_X5_weather 64 [l0, l1, l2] (vI (σ o (w32 i)) :: st) σ Q := q25 (show fnd (pgm m_X5_weather) 63 = some (64, 25, 0, 0, 0, []) from rfl) hi
set_option maxRecDepth 100000 in
theorem s_X5_weather_64 {d : Nat} {l0 l1 l2 : AV} {x : Int} {σ : Sg} {Q : AV → Sg → Prop}  : Rn d m_X5_weather 64 [l0, l1, l2] [vI x] σ Q ↔ Q (vI x) σ := q37_1 (st := []) (show fnd (pgm m_X5_weather) 64 = some (65, 37, 0, 1, 0, []) from rfl)
set_option maxRecDepth 100000 in
theorem s_X5_weather_65 {d : Nat} {l1 l2 : AV} {st : List AV} {o : Nat} {σ : Sg} {Q : AV → Sg → Prop} (ho : o ≠ 0) : Rn d m_X5_weather 65 [vR o, l1, l2] st σ Q ↔ Rn d m_X5_weather 66 [vR o, l1, l2] (vR o :: st) σ Q := q5 (show fnd (pgm m_X5_weather) 65 = some (66, 5, 0, 0, 0, []) from rfl) rfl ho
set_option maxRecDepth 100000 in
theorem s_X5_weather_66 {d : Nat} {l0 l1 l2 : AV} {st : List AV} {o : Nat} {σ : Sg} {Q : AV → Sg → Prop} (hk : kn σ o = (0, 5)) : Rn d m_X5_weather 66 [l0, l1, l2] (vR o :: st) σ Q ↔ Rn d m_X5_weather 69 [l0, l1, l2] (vR (tp o 0) :: st) σ Q := q33 (show fnd (pgm m_X5_weather) 66 = some (69, 33, 12, 5, 0, []) from rfl) hk
set_option maxRecDepth 100000 in
theorem s_X5_weather_69 {d : Nat} {l0 l1 l2 : AV} {st : List AV} {o : Nat} {σ : Sg} {Q : AV → Sg → Prop} (hk : kn σ o = (0, 0)) : Rn d m_X5_weather 69 [l0, l1, l2] (vR o :: st) σ Q ↔ Rn d m_X5_weather 72 [l0, l1, l2] (vR (tp o 7) :: st) σ Q := q33 (show fnd (pgm m_X5_weather) 69 = some (72, 33, 105, 0, 7, []) from rfl) hk
set_option maxRecDepth 100000 in
theorem s_X5_weather_72 {d : Nat} {l0 l1 l2 : AV} {st : List AV} {o : Nat} {σ : Sg} {Q : AV → Sg → Prop} (hk : kn σ o = (0, 2)) : Rn d m_X5_weather 72 [l0, l1, l2] (vR o :: st) σ Q ↔ Rn d m_X5_weather 75 [l0, l1, l2] (vR (tp o 1) :: st) σ Q := q33 (show fnd (pgm m_X5_weather) 72 = some (75, 33, 120, 2, 1, []) from rfl) hk
set_option maxRecDepth 100000 in
theorem s_X5_weather_75 {d : Nat} {l0 l2 : AV} {st : List AV} {x : Int} {σ : Sg} {Q : AV → Sg → Prop}  : Rn d m_X5_weather 75 [l0, vI x, l2] st σ Q ↔ Rn d m_X5_weather 76 [l0, vI x, l2] (vI x :: st) σ Q := q3 (show fnd (pgm m_X5_weather) 75 = some (76, 3, 0, 1, 0, []) from rfl) rfl
set_option maxRecDepth 100000 in
theorem s_X5_weather_76 {d : Nat} {l0 l1 l2 : AV} {st : List AV} {i : Int} {o : Nat} {σ : Sg} {Q : AV → Sg → Prop} (hi : 0 ≤ w32 i ∧ w32 i < al σ 1 o) : Rn d m_X5_weather 76 [l0, l1, l2] (vI i :: vR o :: st) σ Q ↔ Rn d m_X5_weather 77 [l0, l1, l2] (vI (σ o (w32 i)) :: st) σ Q := q25 (show fnd (pgm m_X5_weather) 76 = some (77, 25, 0, 0, 0, []) from rfl) hi
set_option maxRecDepth 100000 in
theorem s_X5_weather_77 {d : Nat} {l0 l1 l2 : AV} {x : Int} {σ : Sg} {Q : AV → Sg → Prop}  : Rn d m_X5_weather 77 [l0, l1, l2] [vI x] σ Q ↔ Q (vI x) σ := q37_1 (st := []) (show fnd (pgm m_X5_weather) 77 = some (78, 37, 0, 1, 0, []) from rfl)
set_option maxRecDepth 100000 in
theorem s_X5_weather_78 {d : Nat} {l1 l2 : AV} {st : List AV} {o : Nat} {σ : Sg} {Q : AV → Sg → Prop} (ho : o ≠ 0) : Rn d m_X5_weather 78 [vR o, l1, l2] st σ Q ↔ Rn d m_X5_weather 79 [vR o, l1, l2] (vR o :: st) σ Q := q5 (show fnd (pgm m_X5_weather) 78 = some (79, 5, 0, 0, 0, []) from rfl) rfl ho
set_option maxRecDepth 100000 in
theorem s_X5_weather_79 {d : Nat} {l0 l1 l2 : AV} {st : List AV} {o : Nat} {σ : Sg} {Q : AV → Sg → Prop} (hk : kn σ o = (0, 5)) : Rn d m_X5_weather 79 [l0, l1, l2] (vR o :: st) σ Q ↔ Rn d m_X5_weather 82 [l0, l1, l2] (vR (tp o 0) :: st) σ Q := q33 (show fnd (pgm m_X5_weather) 79 = some (82, 33, 12, 5, 0, []) from rfl) hk
set_option maxRecDepth 100000 in
theorem s_X5_weather_82 {d : Nat} {l0 l1 l2 : AV} {st : List AV} {o : Nat} {σ : Sg} {Q : AV → Sg → Prop} (hk : kn σ o = (0, 0)) : Rn d m_X5_weather 82 [l0, l1, l2] (vR o :: st) σ Q ↔ Rn d m_X5_weather 85 [l0, l1, l2] (vR (tp o 7) :: st) σ Q := q33 (show fnd (pgm m_X5_weather) 82 = some (85, 33, 105, 0, 7, []) from rfl) hk
set_option maxRecDepth 100000 in
theorem s_X5_weather_85 {d : Nat} {l0 l1 l2 : AV} {st : List AV} {o : Nat} {σ : Sg} {Q : AV → Sg → Prop} (hk : kn σ o = (0, 2)) : Rn d m_X5_weather 85 [l0, l1, l2] (vR o :: st) σ Q ↔ Rn d m_X5_weather 88 [l0, l1, l2] (vR (tp o 2) :: st) σ Q := q33 (show fnd (pgm m_X5_weather) 85 = some (88, 33, 123, 2, 2, []) from rfl) hk
set_option maxRecDepth 100000 in
theorem s_X5_weather_88 {d : Nat} {l0 l2 : AV} {st : List AV} {x : Int} {σ : Sg} {Q : AV → Sg → Prop}  : Rn d m_X5_weather 88 [l0, vI x, l2] st σ Q ↔ Rn d m_X5_weather 89 [l0, vI x, l2] (vI x :: st) σ Q := q3 (show fnd (pgm m_X5_weather) 88 = some (89, 3, 0, 1, 0, []) from rfl) rfl
set_option maxRecDepth 100000 in
theorem s_X5_weather_89 {d : Nat} {l0 l1 l2 : AV} {st : List AV} {i : Int} {o : Nat} {σ : Sg} {Q : AV → Sg → Prop} (hi : 0 ≤ w32 i ∧ w32 i < al σ 1 o) : Rn d m_X5_weather 89 [l0, l1, l2] (vI i :: vR o :: st) σ Q ↔ Rn d m_X5_weather 90 [l0, l1, l2] (vI (σ o (w32 i)) :: st) σ Q := q25 (show fnd (pgm m_X5_weather) 89 = some (90, 25, 0, 0, 0, []) from rfl) hi
set_option maxRecDepth 100000 in
theorem s_X5_weather_90 {d : Nat} {l0 l1 l2 : AV} {x : Int} {σ : Sg} {Q : AV → Sg → Prop}  : Rn d m_X5_weather 90 [l0, l1, l2] [vI x] σ Q ↔ Q (vI x) σ := q37_1 (st := []) (show fnd (pgm m_X5_weather) 90 = some (91, 37, 0, 1, 0, []) from rfl)
set_option maxRecDepth 100000 in
theorem s_X5_weather_91 {d : Nat} {l1 l2 : AV} {st : List AV} {o : Nat} {σ : Sg} {Q : AV → Sg → Prop} (ho : o ≠ 0) : Rn d m_X5_weather 91 [vR o, l1, l2] st σ Q ↔ Rn d m_X5_weather 92 [vR o, l1, l2] (vR o :: st) σ Q := q5 (show fnd (pgm m_X5_weather) 91 = some (92, 5, 0, 0, 0, []) from rfl) rfl ho
set_option maxRecDepth 100000 in
theorem s_X5_weather_92 {d : Nat} {l0 l1 l2 : AV} {st : List AV} {o : Nat} {σ : Sg} {Q : AV → Sg → Prop} (hk : kn σ o = (0, 5)) : Rn d m_X5_weather 92 [l0, l1, l2] (vR o :: st) σ Q ↔ Rn d m_X5_weather 95 [l0, l1, l2] (vR (tp o 0) :: st) σ Q := q33 (show fnd (pgm m_X5_weather) 92 = some (95, 33, 12, 5, 0, []) from rfl) hk
set_option maxRecDepth 100000 in
theorem s_X5_weather_95 {d : Nat} {l0 l1 l2 : AV} {st : List AV} {o : Nat} {σ : Sg} {Q : AV → Sg → Prop} (hk : kn σ o = (0, 0)) : Rn d m_X5_weather 95 [l0, l1, l2] (vR o :: st) σ Q ↔ Rn d m_X5_weather 98 [l0, l1, l2] (vR (tp o 7) :: st) σ Q := q33 (show fnd (pgm m_X5_weather) 95 = some (98, 33, 105, 0, 7, []) from rfl) hk
set_option maxRecDepth 100000 in
theorem s_X5_weather_98 {d : Nat} {l0 l1 l2 : AV} {st : List AV} {o : Nat} {σ : Sg} {Q : AV → Sg → Prop} (hk : kn σ o = (0, 2)) : Rn d m_X5_weather 98 [l0, l1, l2] (vR o :: st) σ Q ↔ Rn d m_X5_weather 101 [l0, l1, l2] (vR (tp o 3) :: st) σ Q := q33 (show fnd (pgm m_X5_weather) 98 = some (101, 33, 126, 2, 3, []) from rfl) hk
set_option maxRecDepth 100000 in
theorem s_X5_weather_101 {d : Nat} {l0 l2 : AV} {st : List AV} {x : Int} {σ : Sg} {Q : AV → Sg → Prop}  : Rn d m_X5_weather 101 [l0, vI x, l2] st σ Q ↔ Rn d m_X5_weather 102 [l0, vI x, l2] (vI x :: st) σ Q := q3 (show fnd (pgm m_X5_weather) 101 = some (102, 3, 0, 1, 0, []) from rfl) rfl
set_option maxRecDepth 100000 in
theorem s_X5_weather_102 {d : Nat} {l0 l1 l2 : AV} {st : List AV} {i : Int} {o : Nat} {σ : Sg} {Q : AV → Sg → Prop} (hi : 0 ≤ w32 i ∧ w32 i < al σ 1 o) : Rn d m_X5_weather 102 [l0, l1, l2] (vI i :: vR o :: st) σ Q ↔ Rn d m_X5_weather 103 [l0, l1, l2] (vI (σ o (w32 i)) :: st) σ Q := q25 (show fnd (pgm m_X5_weather) 102 = some (103, 25, 0, 0, 0, []) from rfl) hi
set_option maxRecDepth 100000 in
theorem s_X5_weather_103 {d : Nat} {l0 l1 l2 : AV} {x : Int} {σ : Sg} {Q : AV → Sg → Prop}  : Rn d m_X5_weather 103 [l0, l1, l2] [vI x] σ Q ↔ Q (vI x) σ := q37_1 (st := []) (show fnd (pgm m_X5_weather) 103 = some (104, 37, 0, 1, 0, []) from rfl)
set_option maxRecDepth 100000 in
theorem en_X5_need {d : Nat} {o : Nat} {a0 : Int} {a1 : Int} {σ σ0 : Sg} {r0 : AV} (h : Rn d m_X5_need 0 [vR o, vI a0, vI a1] [] σ (fun r σ1 => r = r0 ∧ σ1 = σ0)) : Ev (d + 1) m_X5_need [vR o, vI a0, vI a1] σ r0 σ0 := Ev_is (Nat.le_of_ble_eq_true rfl) h
set_option maxRecDepth 100000 in
theorem eo_X5_need {d : Nat} {o : Nat} {a0 : Int} {a1 : Int} {σ : Sg} {Q : AV → Sg → Prop} (h : Rn d m_X5_need 0 [vR o, vI a0, vI a1] [] σ Q) : ∃ r σ1, Ev (d + 1) m_X5_need [vR o, vI a0, vI a1] σ r σ1 ∧ Q r σ1 := Ev_of (Nat.le_of_ble_eq_true rfl) h
set_option maxRecDepth 100000 in
theorem s_X5_need_0 {d : Nat} {l1 l2 : AV} {st : List AV} {o : Nat} {σ : Sg} {Q : AV → Sg → Prop} (ho : o ≠ 0) : Rn d m_X5_need 0 [vR o, l1, l2] st σ Q ↔ Rn d m_X5_need 1 [vR o, l1, l2] (vR o :: st) σ Q := q5 (show fnd (pgm m_X5_need) 0 = some (1, 5, 0, 0, 0, []) from rfl) rfl ho
set_option maxRecDepth 100000 in
theorem s_X5_need_1 {d : Nat} {l0 l2 : AV} {st : List AV} {x : Int} {σ : Sg} {Q : AV → Sg → Prop}  : Rn d m_X5_need 1 [l0, vI x, l2] st σ Q ↔ Rn d m_X5_need 2 [l0, vI x, l2] (vI x :: st) σ Q := q3 (show fnd (pgm m_X5_need) 1 = some (2, 3, 0, 1, 0, []) from rfl) rfl
set_option maxRecDepth 100000 in
theorem s_X5_need_2 {d : Nat} {l0 l1 l2 : AV} {st : List AV} {o : Nat} {a0 : Int} {σ : Sg} {Q : AV → Sg → Prop} (h4 : st.length ≤ 4) (hk : kn σ o = (0, 5)) : Rn d m_X5_need 2 [l0, l1, l2] (vI a0 :: vR o :: st) σ Q ↔ ∃ r σ1, Ev d m_X5_isStone [vR o, vI a0] σ r σ1 ∧ Rn d m_X5_need 5 [l0, l1, l2] (psh r st) σ1 Q := q35 (show fnd (pgm m_X5_need) 2 = some (5, 35, 129, 90, 2, []) from rfl) ⟨⟨by simp, by simpa using h4⟩, (by simp only [List.take, List.reverse, List.reverseAux, rcv]; rw [if_neg (by decide +kernel)]; exact decide_eq_true hk)⟩
set_option maxRecDepth 100000 in
theorem s_X5_need_5 {d : Nat} {l0 l1 l2 : AV} {st : List AV} {a : Int} {σ : Sg} {Q : AV → Sg → Prop}  : Rn d m_X5_need 5 [l0, l1, l2] (vI a :: st) σ Q ↔ if w32 a = 0 then Rn d m_X5_need 16 [l0, l1, l2] st σ Q else Rn d m_X5_need 8 [l0, l1, l2] st σ Q := q19_0 (show fnd (pgm m_X5_need) 5 = some (8, 19, 0, 0, 16, []) from rfl)
set_option maxRecDepth 100000 in
theorem s_X5_need_8 {d : Nat} {l0 l1 : AV} {st : List AV} {x : Int} {σ : Sg} {Q : AV → Sg → Prop}  : Rn d m_X5_need 8 [l0, l1, vI x] st σ Q ↔ Rn d m_X5_need 9 [l0, l1, vI x] (vI x :: st) σ Q := q3 (show fnd (pgm m_X5_need) 8 = some (9, 3, 0, 2, 0, []) from rfl) rfl
set_option maxRecDepth 100000 in
theorem s_X5_need_9 {d : Nat} {l0 l1 l2 : AV} {st : List AV} {σ : Sg} {Q : AV → Sg → Prop}  : Rn d m_X5_need 9 [l0, l1, l2] st σ Q ↔ Rn d m_X5_need 10 [l0, l1, l2] (vI 4 :: st) σ Q := q0 (show fnd (pgm m_X5_need) 9 = some (10, 0, 4, 0, 0, []) from rfl)
set_option maxRecDepth 100000 in
theorem s_X5_need_10 {d : Nat} {l0 l1 l2 : AV} {st : List AV}  {a0 : Int} {a1 : Int} {σ : Sg} {Q : AV → Sg → Prop} (h4 : st.length ≤ 4) : Rn d m_X5_need 10 [l0, l1, l2] (vI a1 :: vI a0 :: st) σ Q ↔ ∃ r σ1, Ev d m_X5_within [vI a0, vI a1] σ r σ1 ∧ Rn d m_X5_need 13 [l0, l1, l2] (psh r st) σ1 Q := q35 (show fnd (pgm m_X5_need) 10 = some (13, 35, 80, 89, 2, []) from rfl) ⟨⟨by simp, by simpa using h4⟩, rfl⟩
set_option maxRecDepth 100000 in
theorem s_X5_need_13 {d : Nat} {l0 l1 l2 : AV} {st : List AV} {a : Int} {σ : Sg} {Q : AV → Sg → Prop}  : Rn d m_X5_need 13 [l0, l1, l2] (vI a :: st) σ Q ↔ if ¬ w32 a = 0 then Rn d m_X5_need 25 [l0, l1, l2] st σ Q else Rn d m_X5_need 16 [l0, l1, l2] st σ Q := q19_1 (show fnd (pgm m_X5_need) 13 = some (16, 19, 0, 1, 25, []) from rfl)
set_option maxRecDepth 100000 in
theorem s_X5_need_16 {d : Nat} {l1 l2 : AV} {st : List AV} {o : Nat} {σ : Sg} {Q : AV → Sg → Prop} (ho : o ≠ 0) : Rn d m_X5_need 16 [vR o, l1, l2] st σ Q ↔ Rn d m_X5_need 17 [vR o, l1, l2] (vR o :: st) σ Q := q5 (show fnd (pgm m_X5_need) 16 = some (17, 5, 0, 0, 0, []) from rfl) rfl ho
set_option maxRecDepth 100000 in
theorem s_X5_need_17 {d : Nat} {l0 l1 l2 : AV} {st : List AV} {σ : Sg} {Q : AV → Sg → Prop}  : Rn d m_X5_need 17 [l0, l1, l2] st σ Q ↔ Rn d m_X5_need 19 [l0, l1, l2] (vI (-2) :: st) σ Q := q0 (show fnd (pgm m_X5_need) 17 = some (19, 0, (-2), 1, 0, []) from rfl)
set_option maxRecDepth 100000 in
theorem s_X5_need_19 {d : Nat} {l0 l1 l2 : AV} {st : List AV} {σ : Sg} {Q : AV → Sg → Prop}  : Rn d m_X5_need 19 [l0, l1, l2] st σ Q ↔ Rn d m_X5_need 21 [l0, l1, l2] (vI (-2) :: st) σ Q := q0 (show fnd (pgm m_X5_need) 19 = some (21, 0, (-2), 1, 0, []) from rfl)
set_option maxRecDepth 100000 in
theorem s_X5_need_21 {d : Nat} {l0 l1 l2 : AV} {st : List AV} {o : Nat} {a0 : Int} {a1 : Int} {σ : Sg} {Q : AV → Sg → Prop} (h4 : st.length ≤ 4) (hk : kn σ o = (0, 5)) : Rn d m_X5_need 21 [l0, l1, l2] (vI a1 :: vI a0 :: vR o :: st) σ Q ↔ ∃ r σ1, Ev d m_X5_refuse [vR o, vI a0, vI a1] σ r σ1 ∧ Rn d m_X5_need 24 [l0, l1, l2] (psh r st) σ1 Q := q35 (show fnd (pgm m_X5_need) 21 = some (24, 35, 84, 92, 3, []) from rfl) ⟨⟨by simp, by simpa using h4⟩, (by simp only [List.take, List.reverse, List.reverseAux, rcv]; rw [if_neg (by decide +kernel)]; exact decide_eq_true hk)⟩
set_option maxRecDepth 100000 in
theorem s_X5_need_24 {d : Nat} {l0 l1 l2 : AV} {x : Int} {σ : Sg} {Q : AV → Sg → Prop}  : Rn d m_X5_need 24 [l0, l1, l2] [vI x] σ Q ↔ Q (vI x) σ := q37_1 (st := []) (show fnd (pgm m_X5_need) 24 = some (25, 37, 0, 1, 0, []) from rfl)
set_option maxRecDepth 100000 in
theorem s_X5_need_25 {d : Nat} {l1 l2 : AV} {st : List AV} {o : Nat} {σ : Sg} {Q : AV → Sg → Prop} (ho : o ≠ 0) : Rn d m_X5_need 25 [vR o, l1, l2] st σ Q ↔ Rn d m_X5_need 26 [vR o, l1, l2] (vR o :: st) σ Q := q5 (show fnd (pgm m_X5_need) 25 = some (26, 5, 0, 0, 0, []) from rfl) rfl ho
set_option maxRecDepth 100000 in
theorem s_X5_need_26 {d : Nat} {l0 l1 l2 : AV} {st : List AV} {o : Nat} {σ : Sg} {Q : AV → Sg → Prop} (hk : kn σ o = (0, 5)) : Rn d m_X5_need 26 [l0, l1, l2] (vR o :: st) σ Q ↔ Rn d m_X5_need 29 [l0, l1, l2] (vR (tp o 0) :: st) σ Q := q33 (show fnd (pgm m_X5_need) 26 = some (29, 33, 12, 5, 0, []) from rfl) hk
set_option maxRecDepth 100000 in
theorem s_X5_need_29 {d : Nat} {l0 l1 l2 : AV} {st : List AV} {o : Nat} {σ : Sg} {Q : AV → Sg → Prop} (hk : kn σ o = (0, 0)) : Rn d m_X5_need 29 [l0, l1, l2] (vR o :: st) σ Q ↔ Rn d m_X5_need 32 [l0, l1, l2] (vR (tp o 4) :: st) σ Q := q33 (show fnd (pgm m_X5_need) 29 = some (32, 33, 132, 0, 4, []) from rfl) hk
set_option maxRecDepth 100000 in
theorem s_X5_need_32 {d : Nat} {l0 l1 l2 : AV} {st : List AV} {σ : Sg} {Q : AV → Sg → Prop}  : Rn d m_X5_need 32 [l0, l1, l2] st σ Q ↔ Rn d m_X5_need 33 [l0, l1, l2] (vI 4 :: st) σ Q := q0 (show fnd (pgm m_X5_need) 32 = some (33, 0, 4, 0, 0, []) from rfl)
set_option maxRecDepth 100000 in
theorem s_X5_need_33 {d : Nat} {l0 l2 : AV} {st : List AV} {x : Int} {σ : Sg} {Q : AV → Sg → Prop}  : Rn d m_X5_need 33 [l0, vI x, l2] st σ Q ↔ Rn d m_X5_need 34 [l0, vI x, l2] (vI x :: st) σ Q := q3 (show fnd (pgm m_X5_need) 33 = some (34, 3, 0, 1, 0, []) from rfl) rfl
set_option maxRecDepth 100000 in
theorem s_X5_need_34 {d : Nat} {l0 l1 l2 : AV} {st : List AV} {a b : Int} {σ : Sg} {Q : AV → Sg → Prop}  : Rn d m_X5_need 34 [l0, l1, l2] (vI b :: vI a :: st) σ Q ↔ Rn d m_X5_need 35 [l0, l1, l2] (vI (a * b) :: st) σ Q := q10_2 (show fnd (pgm m_X5_need) 34 = some (35, 10, 0, 2, 0, []) from rfl)
set_option maxRecDepth 100000 in
theorem s_X5_need_35 {d : Nat} {l0 l1 : AV} {st : List AV} {x : Int} {σ : Sg} {Q : AV → Sg → Prop}  : Rn d m_X5_need 35 [l0, l1, vI x] st σ Q ↔ Rn d m_X5_need 36 [l0, l1, vI x] (vI x :: st) σ Q := q3 (show fnd (pgm m_X5_need) 35 = some (36, 3, 0, 2, 0, []) from rfl) rfl
set_option maxRecDepth 100000 in
theorem s_X5_need_36 {d : Nat} {l0 l1 l2 : AV} {st : List AV} {a b : Int} {σ : Sg} {Q : AV → Sg → Prop}  : Rn d m_X5_need 36 [l0, l1, l2] (vI b :: vI a :: st) σ Q ↔ Rn d m_X5_need 37 [l0, l1, l2] (vI (a + b) :: st) σ Q := q10_0 (show fnd (pgm m_X5_need) 36 = some (37, 10, 0, 0, 0, []) from rfl)
set_option maxRecDepth 100000 in
theorem s_X5_need_37 {d : Nat} {l0 l1 l2 : AV} {st : List AV} {i : Int} {o : Nat} {σ : Sg} {Q : AV → Sg → Prop} (hi : 0 ≤ w32 i ∧ w32 i < al σ 1 o) : Rn d m_X5_need 37 [l0, l1, l2] (vI i :: vR o :: st) σ Q ↔ Rn d m_X5_need 38 [l0, l1, l2] (vI (σ o (w32 i)) :: st) σ Q := q25 (show fnd (pgm m_X5_need) 37 = some (38, 25, 0, 0, 0, []) from rfl) hi
set_option maxRecDepth 100000 in
theorem s_X5_need_38 {d : Nat} {l0 l1 l2 : AV} {x : Int} {σ : Sg} {Q : AV → Sg → Prop}  : Rn d m_X5_need 38 [l0, l1, l2] [vI x] σ Q ↔ Q (vI x) σ := q37_1 (st := []) (show fnd (pgm m_X5_need) 38 = some (39, 37, 0, 1, 0, []) from rfl)
set_option maxRecDepth 100000 in
theorem en_X5_lies {d : Nat} {o : Nat} {a0 : Int} {a1 : Int} {σ σ0 : Sg} {r0 : AV} (h : Rn d m_X5_lies 0 [vR o, vI a0, vI a1] [] σ (fun r σ1 => r = r0 ∧ σ1 = σ0)) : Ev (d + 1) m_X5_lies [vR o, vI a0, vI a1] σ r0 σ0 := Ev_is (Nat.le_of_ble_eq_true rfl) h
set_option maxRecDepth 100000 in
theorem eo_X5_lies {d : Nat} {o : Nat} {a0 : Int} {a1 : Int} {σ : Sg} {Q : AV → Sg → Prop} (h : Rn d m_X5_lies 0 [vR o, vI a0, vI a1] [] σ Q) : ∃ r σ1, Ev (d + 1) m_X5_lies [vR o, vI a0, vI a1] σ r σ1 ∧ Q r σ1 := Ev_of (Nat.le_of_ble_eq_true rfl) h
set_option maxRecDepth 100000 in
theorem s_X5_lies_0 {d : Nat} {l1 l2 : AV} {st : List AV} {o : Nat} {σ : Sg} {Q : AV → Sg → Prop} (ho : o ≠ 0) : Rn d m_X5_lies 0 [vR o, l1, l2] st σ Q ↔ Rn d m_X5_lies 1 [vR o, l1, l2] (vR o :: st) σ Q := q5 (show fnd (pgm m_X5_lies) 0 = some (1, 5, 0, 0, 0, []) from rfl) rfl ho
set_option maxRecDepth 100000 in
theorem s_X5_lies_1 {d : Nat} {l0 l2 : AV} {st : List AV} {x : Int} {σ : Sg} {Q : AV → Sg → Prop}  : Rn d m_X5_lies 1 [l0, vI x, l2] st σ Q ↔ Rn d m_X5_lies 2 [l0, vI x, l2] (vI x :: st) σ Q := q3 (show fnd (pgm m_X5_lies) 1 = some (2, 3, 0, 1, 0, []) from rfl) rfl
set_option maxRecDepth 100000 in
theorem s_X5_lies_2 {d : Nat} {l0 l1 l2 : AV} {st : List AV} {o : Nat} {a0 : Int} {σ : Sg} {Q : AV → Sg → Prop} (h4 : st.length ≤ 4) (hk : kn σ o = (0, 5)) : Rn d m_X5_lies 2 [l0, l1, l2] (vI a0 :: vR o :: st) σ Q ↔ ∃ r σ1, Ev d m_X5_isStone [vR o, vI a0] σ r σ1 ∧ Rn d m_X5_lies 5 [l0, l1, l2] (psh r st) σ1 Q := q35 (show fnd (pgm m_X5_lies) 2 = some (5, 35, 129, 90, 2, []) from rfl) ⟨⟨by simp, by simpa using h4⟩, (by simp only [List.take, List.reverse, List.reverseAux, rcv]; rw [if_neg (by decide +kernel)]; exact decide_eq_true hk)⟩
set_option maxRecDepth 100000 in
theorem s_X5_lies_5 {d : Nat} {l0 l1 l2 : AV} {st : List AV} {a : Int} {σ : Sg} {Q : AV → Sg → Prop}  : Rn d m_X5_lies 5 [l0, l1, l2] (vI a :: st) σ Q ↔ if w32 a = 0 then Rn d m_X5_lies 15 [l0, l1, l2] st σ Q else Rn d m_X5_lies 8 [l0, l1, l2] st σ Q := q19_0 (show fnd (pgm m_X5_lies) 5 = some (8, 19, 0, 0, 15, []) from rfl)
set_option maxRecDepth 100000 in
theorem s_X5_lies_8 {d : Nat} {l0 l1 : AV} {st : List AV} {x : Int} {σ : Sg} {Q : AV → Sg → Prop}  : Rn d m_X5_lies 8 [l0, l1, vI x] st σ Q ↔ Rn d m_X5_lies 9 [l0, l1, vI x] (vI x :: st) σ Q := q3 (show fnd (pgm m_X5_lies) 8 = some (9, 3, 0, 2, 0, []) from rfl) rfl
set_option maxRecDepth 100000 in
theorem s_X5_lies_9 {d : Nat} {l0 l1 l2 : AV} {st : List AV}  {a0 : Int} {σ : Sg} {Q : AV → Sg → Prop} (h4 : st.length ≤ 4) : Rn d m_X5_lies 9 [l0, l1, l2] (vI a0 :: st) σ Q ↔ ∃ r σ1, Ev d m_X5_isBehind [vI a0] σ r σ1 ∧ Rn d m_X5_lies 12 [l0, l1, l2] (psh r st) σ1 Q := q35 (show fnd (pgm m_X5_lies) 9 = some (12, 35, 135, 91, 1, []) from rfl) ⟨⟨by simp, by simpa using h4⟩, rfl⟩
set_option maxRecDepth 100000 in
theorem s_X5_lies_12 {d : Nat} {l0 l1 l2 : AV} {st : List AV} {a : Int} {σ : Sg} {Q : AV → Sg → Prop}  : Rn d m_X5_lies 12 [l0, l1, l2] (vI a :: st) σ Q ↔ if ¬ w32 a = 0 then Rn d m_X5_lies 24 [l0, l1, l2] st σ Q else Rn d m_X5_lies 15 [l0, l1, l2] st σ Q := q19_1 (show fnd (pgm m_X5_lies) 12 = some (15, 19, 0, 1, 24, []) from rfl)
set_option maxRecDepth 100000 in
theorem s_X5_lies_15 {d : Nat} {l1 l2 : AV} {st : List AV} {o : Nat} {σ : Sg} {Q : AV → Sg → Prop} (ho : o ≠ 0) : Rn d m_X5_lies 15 [vR o, l1, l2] st σ Q ↔ Rn d m_X5_lies 16 [vR o, l1, l2] (vR o :: st) σ Q := q5 (show fnd (pgm m_X5_lies) 15 = some (16, 5, 0, 0, 0, []) from rfl) rfl ho
set_option maxRecDepth 100000 in
theorem s_X5_lies_16 {d : Nat} {l0 l1 l2 : AV} {st : List AV} {σ : Sg} {Q : AV → Sg → Prop}  : Rn d m_X5_lies 16 [l0, l1, l2] st σ Q ↔ Rn d m_X5_lies 18 [l0, l1, l2] (vI (-2) :: st) σ Q := q0 (show fnd (pgm m_X5_lies) 16 = some (18, 0, (-2), 1, 0, []) from rfl)
set_option maxRecDepth 100000 in
theorem s_X5_lies_18 {d : Nat} {l0 l1 l2 : AV} {st : List AV} {σ : Sg} {Q : AV → Sg → Prop}  : Rn d m_X5_lies 18 [l0, l1, l2] st σ Q ↔ Rn d m_X5_lies 20 [l0, l1, l2] (vI (-2) :: st) σ Q := q0 (show fnd (pgm m_X5_lies) 18 = some (20, 0, (-2), 1, 0, []) from rfl)
set_option maxRecDepth 100000 in
theorem s_X5_lies_20 {d : Nat} {l0 l1 l2 : AV} {st : List AV} {o : Nat} {a0 : Int} {a1 : Int} {σ : Sg} {Q : AV → Sg → Prop} (h4 : st.length ≤ 4) (hk : kn σ o = (0, 5)) : Rn d m_X5_lies 20 [l0, l1, l2] (vI a1 :: vI a0 :: vR o :: st) σ Q ↔ ∃ r σ1, Ev d m_X5_refuse [vR o, vI a0, vI a1] σ r σ1 ∧ Rn d m_X5_lies 23 [l0, l1, l2] (psh r st) σ1 Q := q35 (show fnd (pgm m_X5_lies) 20 = some (23, 35, 84, 92, 3, []) from rfl) ⟨⟨by simp, by simpa using h4⟩, (by simp only [List.take, List.reverse, List.reverseAux, rcv]; rw [if_neg (by decide +kernel)]; exact decide_eq_true hk)⟩
set_option maxRecDepth 100000 in
theorem s_X5_lies_23 {d : Nat} {l0 l1 l2 : AV} {x : Int} {σ : Sg} {Q : AV → Sg → Prop}  : Rn d m_X5_lies 23 [l0, l1, l2] [vI x] σ Q ↔ Q (vI x) σ := q37_1 (st := []) (show fnd (pgm m_X5_lies) 23 = some (24, 37, 0, 1, 0, []) from rfl)
set_option maxRecDepth 100000 in
theorem s_X5_lies_24 {d : Nat} {l1 l2 : AV} {st : List AV} {o : Nat} {σ : Sg} {Q : AV → Sg → Prop} (ho : o ≠ 0) : Rn d m_X5_lies 24 [vR o, l1, l2] st σ Q ↔ Rn d m_X5_lies 25 [vR o, l1, l2] (vR o :: st) σ Q := q5 (show fnd (pgm m_X5_lies) 24 = some (25, 5, 0, 0, 0, []) from rfl) rfl ho
set_option maxRecDepth 100000 in
theorem s_X5_lies_25 {d : Nat} {l0 l1 : AV} {st : List AV} {x : Int} {σ : Sg} {Q : AV → Sg → Prop}  : Rn d m_X5_lies 25 [l0, l1, vI x] st σ Q ↔ Rn d m_X5_lies 26 [l0, l1, vI x] (vI x :: st) σ Q := q3 (show fnd (pgm m_X5_lies) 25 = some (26, 3, 0, 2, 0, []) from rfl) rfl
set_option maxRecDepth 100000 in
theorem s_X5_lies_26 {d : Nat} {l0 l1 l2 : AV} {st : List AV} {o : Nat} {a0 : Int} {σ : Sg} {Q : AV → Sg → Prop} (h4 : st.length ≤ 4) (hk : kn σ o = (0, 5)) : Rn d m_X5_lies 26 [l0, l1, l2] (vI a0 :: vR o :: st) σ Q ↔ ∃ r σ1, Ev d m_X5_walkAll [vR o, vI a0] σ r σ1 ∧ Rn d m_X5_lies 29 [l0, l1, l2] (psh r st) σ1 Q := q35 (show fnd (pgm m_X5_lies) 26 = some (29, 35, 138, 93, 2, []) from rfl) ⟨⟨by simp, by simpa using h4⟩, (by simp only [List.take, List.reverse, List.reverseAux, rcv]; rw [if_neg (by decide +kernel)]; exact decide_eq_true hk)⟩
set_option maxRecDepth 100000 in
theorem s_X5_lies_29 {d : Nat} {l1 l2 : AV} {st : List AV} {o : Nat} {σ : Sg} {Q : AV → Sg → Prop} (ho : o ≠ 0) : Rn d m_X5_lies 29 [vR o, l1, l2] st σ Q ↔ Rn d m_X5_lies 30 [vR o, l1, l2] (vR o :: st) σ Q := q5 (show fnd (pgm m_X5_lies) 29 = some (30, 5, 0, 0, 0, []) from rfl) rfl ho
set_option maxRecDepth 100000 in
theorem s_X5_lies_30 {d : Nat} {l0 l1 l2 : AV} {st : List AV} {o : Nat} {σ : Sg} {Q : AV → Sg → Prop} (hk : kn σ o = (0, 5)) : Rn d m_X5_lies 30 [l0, l1, l2] (vR o :: st) σ Q ↔ Rn d m_X5_lies 33 [l0, l1, l2] (vR (tp o 3) :: st) σ Q := q33 (show fnd (pgm m_X5_lies) 30 = some (33, 33, 27, 5, 3, []) from rfl) hk
set_option maxRecDepth 100000 in
theorem s_X5_lies_33 {d : Nat} {l0 l1 l2 : AV} {st : List AV} {o : Nat} {σ : Sg} {Q : AV → Sg → Prop} (hk : kn σ o = (0, 4)) : Rn d m_X5_lies 33 [l0, l1, l2] (vR o :: st) σ Q ↔ Rn d m_X5_lies 36 [l0, l1, l2] (vR (tp o 0) :: st) σ Q := q33 (show fnd (pgm m_X5_lies) 33 = some (36, 33, 141, 4, 0, []) from rfl) hk
set_option maxRecDepth 100000 in
theorem s_X5_lies_36 {d : Nat} {l0 l2 : AV} {st : List AV} {x : Int} {σ : Sg} {Q : AV → Sg → Prop}  : Rn d m_X5_lies 36 [l0, vI x, l2] st σ Q ↔ Rn d m_X5_lies 37 [l0, vI x, l2] (vI x :: st) σ Q := q3 (show fnd (pgm m_X5_lies) 36 = some (37, 3, 0, 1, 0, []) from rfl) rfl
set_option maxRecDepth 100000 in
theorem s_X5_lies_37 {d : Nat} {l0 l1 l2 : AV} {st : List AV} {i : Int} {o : Nat} {σ : Sg} {Q : AV → Sg → Prop} (hi : 0 ≤ w32 i ∧ w32 i < al σ 1 o) : Rn d m_X5_lies 37 [l0, l1, l2] (vI i :: vR o :: st) σ Q ↔ Rn d m_X5_lies 38 [l0, l1, l2] (vI (σ o (w32 i)) :: st) σ Q := q25 (show fnd (pgm m_X5_lies) 37 = some (38, 25, 0, 0, 0, []) from rfl) hi
set_option maxRecDepth 100000 in
theorem s_X5_lies_38 {d : Nat} {l0 l1 l2 : AV} {x : Int} {σ : Sg} {Q : AV → Sg → Prop}  : Rn d m_X5_lies 38 [l0, l1, l2] [vI x] σ Q ↔ Q (vI x) σ := q37_1 (st := []) (show fnd (pgm m_X5_lies) 38 = some (39, 37, 0, 1, 0, []) from rfl)
set_option maxRecDepth 100000 in
theorem en_X5_moved {d : Nat} {o : Nat} {a0 : Int} {σ σ0 : Sg} {r0 : AV} (h : Rn d m_X5_moved 0 [vR o, vI a0] [] σ (fun r σ1 => r = r0 ∧ σ1 = σ0)) : Ev (d + 1) m_X5_moved [vR o, vI a0] σ r0 σ0 := Ev_is (Nat.le_of_ble_eq_true rfl) h
set_option maxRecDepth 100000 in
theorem eo_X5_moved {d : Nat} {o : Nat} {a0 : Int} {σ : Sg} {Q : AV → Sg → Prop} (h : Rn d m_X5_moved 0 [vR o, vI a0] [] σ Q) : ∃ r σ1, Ev (d + 1) m_X5_moved [vR o, vI a0] σ r σ1 ∧ Q r σ1 := Ev_of (Nat.le_of_ble_eq_true rfl) h
set_option maxRecDepth 100000 in
theorem s_X5_moved_0 {d : Nat} {l0 : AV} {st : List AV} {x : Int} {σ : Sg} {Q : AV → Sg → Prop}  : Rn d m_X5_moved 0 [l0, vI x] st σ Q ↔ Rn d m_X5_moved 1 [l0, vI x] (vI x :: st) σ Q := q3 (show fnd (pgm m_X5_moved) 0 = some (1, 3, 0, 1, 0, []) from rfl) rfl
set_option maxRecDepth 100000 in
theorem s_X5_moved_1 {d : Nat} {l0 l1 : AV} {st : List AV} {σ : Sg} {Q : AV → Sg → Prop}  : Rn d m_X5_moved 1 [l0, l1] st σ Q ↔ Rn d m_X5_moved 3 [l0, l1] (vI 20 :: st) σ Q := q0 (show fnd (pgm m_X5_moved) 1 = some (3, 0, 20, 1, 0, []) from rfl)
set_option maxRecDepth 100000 in
theorem s_X5_moved_3 {d : Nat} {l0 l1 : AV} {st : List AV}  {a0 : Int} {a1 : Int} {σ : Sg} {Q : AV → Sg → Prop} (h4 : st.length ≤ 4) : Rn d m_X5_moved 3 [l0, l1] (vI a1 :: vI a0 :: st) σ Q ↔ ∃ r σ1, Ev d m_X5_within [vI a0, vI a1] σ r σ1 ∧ Rn d m_X5_moved 6 [l0, l1] (psh r st) σ1 Q := q35 (show fnd (pgm m_X5_moved) 3 = some (6, 35, 80, 89, 2, []) from rfl) ⟨⟨by simp, by simpa using h4⟩, rfl⟩
set_option maxRecDepth 100000 in
theorem s_X5_moved_6 {d : Nat} {l0 l1 : AV} {st : List AV} {a : Int} {σ : Sg} {Q : AV → Sg → Prop}  : Rn d m_X5_moved 6 [l0, l1] (vI a :: st) σ Q ↔ if ¬ w32 a = 0 then Rn d m_X5_moved 18 [l0, l1] st σ Q else Rn d m_X5_moved 9 [l0, l1] st σ Q := q19_1 (show fnd (pgm m_X5_moved) 6 = some (9, 19, 0, 1, 18, []) from rfl)
set_option maxRecDepth 100000 in
theorem s_X5_moved_9 {d : Nat} {l1 : AV} {st : List AV} {o : Nat} {σ : Sg} {Q : AV → Sg → Prop} (ho : o ≠ 0) : Rn d m_X5_moved 9 [vR o, l1] st σ Q ↔ Rn d m_X5_moved 10 [vR o, l1] (vR o :: st) σ Q := q5 (show fnd (pgm m_X5_moved) 9 = some (10, 5, 0, 0, 0, []) from rfl) rfl ho
set_option maxRecDepth 100000 in
theorem s_X5_moved_10 {d : Nat} {l0 l1 : AV} {st : List AV} {σ : Sg} {Q : AV → Sg → Prop}  : Rn d m_X5_moved 10 [l0, l1] st σ Q ↔ Rn d m_X5_moved 12 [l0, l1] (vI (-2) :: st) σ Q := q0 (show fnd (pgm m_X5_moved) 10 = some (12, 0, (-2), 1, 0, []) from rfl)
set_option maxRecDepth 100000 in
theorem s_X5_moved_12 {d : Nat} {l0 l1 : AV} {st : List AV} {σ : Sg} {Q : AV → Sg → Prop}  : Rn d m_X5_moved 12 [l0, l1] st σ Q ↔ Rn d m_X5_moved 14 [l0, l1] (vI (-2) :: st) σ Q := q0 (show fnd (pgm m_X5_moved) 12 = some (14, 0, (-2), 1, 0, []) from rfl)
set_option maxRecDepth 100000 in
theorem s_X5_moved_14 {d : Nat} {l0 l1 : AV} {st : List AV} {o : Nat} {a0 : Int} {a1 : Int} {σ : Sg} {Q : AV → Sg → Prop} (h4 : st.length ≤ 4) (hk : kn σ o = (0, 5)) : Rn d m_X5_moved 14 [l0, l1] (vI a1 :: vI a0 :: vR o :: st) σ Q ↔ ∃ r σ1, Ev d m_X5_refuse [vR o, vI a0, vI a1] σ r σ1 ∧ Rn d m_X5_moved 17 [l0, l1] (psh r st) σ1 Q := q35 (show fnd (pgm m_X5_moved) 14 = some (17, 35, 84, 92, 3, []) from rfl) ⟨⟨by simp, by simpa using h4⟩, (by simp only [List.take, List.reverse, List.reverseAux, rcv]; rw [if_neg (by decide +kernel)]; exact decide_eq_true hk)⟩
set_option maxRecDepth 100000 in
theorem s_X5_moved_17 {d : Nat} {l0 l1 : AV} {x : Int} {σ : Sg} {Q : AV → Sg → Prop}  : Rn d m_X5_moved 17 [l0, l1] [vI x] σ Q ↔ Q (vI x) σ := q37_1 (st := []) (show fnd (pgm m_X5_moved) 17 = some (18, 37, 0, 1, 0, []) from rfl)
set_option maxRecDepth 100000 in
theorem s_X5_moved_18 {d : Nat} {l1 : AV} {st : List AV} {o : Nat} {σ : Sg} {Q : AV → Sg → Prop} (ho : o ≠ 0) : Rn d m_X5_moved 18 [vR o, l1] st σ Q ↔ Rn d m_X5_moved 19 [vR o, l1] (vR o :: st) σ Q := q5 (show fnd (pgm m_X5_moved) 18 = some (19, 5, 0, 0, 0, []) from rfl) rfl ho
set_option maxRecDepth 100000 in
theorem s_X5_moved_19 {d : Nat} {l0 : AV} {st : List AV} {x : Int} {σ : Sg} {Q : AV → Sg → Prop}  : Rn d m_X5_moved 19 [l0, vI x] st σ Q ↔ Rn d m_X5_moved 20 [l0, vI x] (vI x :: st) σ Q := q3 (show fnd (pgm m_X5_moved) 19 = some (20, 3, 0, 1, 0, []) from rfl) rfl
set_option maxRecDepth 100000 in
theorem s_X5_moved_20 {d : Nat} {l0 l1 : AV} {st : List AV} {o : Nat} {a0 : Int} {σ : Sg} {Q : AV → Sg → Prop} (h4 : st.length ≤ 4) (hk : kn σ o = (0, 5)) : Rn d m_X5_moved 20 [l0, l1] (vI a0 :: vR o :: st) σ Q ↔ ∃ r σ1, Ev d m_X5_walkAll [vR o, vI a0] σ r σ1 ∧ Rn d m_X5_moved 23 [l0, l1] (psh r st) σ1 Q := q35 (show fnd (pgm m_X5_moved) 20 = some (23, 35, 138, 93, 2, []) from rfl) ⟨⟨by simp, by simpa using h4⟩, (by simp only [List.take, List.reverse, List.reverseAux, rcv]; rw [if_neg (by decide +kernel)]; exact decide_eq_true hk)⟩
set_option maxRecDepth 100000 in
theorem s_X5_moved_23 {d : Nat} {l1 : AV} {st : List AV} {o : Nat} {σ : Sg} {Q : AV → Sg → Prop} (ho : o ≠ 0) : Rn d m_X5_moved 23 [vR o, l1] st σ Q ↔ Rn d m_X5_moved 24 [vR o, l1] (vR o :: st) σ Q := q5 (show fnd (pgm m_X5_moved) 23 = some (24, 5, 0, 0, 0, []) from rfl) rfl ho
set_option maxRecDepth 100000 in
theorem s_X5_moved_24 {d : Nat} {l0 l1 : AV} {st : List AV} {o : Nat} {σ : Sg} {Q : AV → Sg → Prop} (hk : kn σ o = (0, 5)) : Rn d m_X5_moved 24 [l0, l1] (vR o :: st) σ Q ↔ Rn d m_X5_moved 27 [l0, l1] (vR (tp o 3) :: st) σ Q := q33 (show fnd (pgm m_X5_moved) 24 = some (27, 33, 27, 5, 3, []) from rfl) hk
set_option maxRecDepth 100000 in
theorem s_X5_moved_27 {d : Nat} {l0 l1 : AV} {st : List AV} {o : Nat} {σ : Sg} {Q : AV → Sg → Prop} (hk : kn σ o = (0, 4)) : Rn d m_X5_moved 27 [l0, l1] (vR o :: st) σ Q ↔ Rn d m_X5_moved 30 [l0, l1] (vR (tp o 1) :: st) σ Q := q33 (show fnd (pgm m_X5_moved) 27 = some (30, 33, 144, 4, 1, []) from rfl) hk
set_option maxRecDepth 100000 in
theorem s_X5_moved_30 {d : Nat} {l0 : AV} {st : List AV} {x : Int} {σ : Sg} {Q : AV → Sg → Prop}  : Rn d m_X5_moved 30 [l0, vI x] st σ Q ↔ Rn d m_X5_moved 31 [l0, vI x] (vI x :: st) σ Q := q3 (show fnd (pgm m_X5_moved) 30 = some (31, 3, 0, 1, 0, []) from rfl) rfl
set_option maxRecDepth 100000 in
theorem s_X5_moved_31 {d : Nat} {l0 l1 : AV} {st : List AV} {i : Int} {o : Nat} {σ : Sg} {Q : AV → Sg → Prop} (hi : 0 ≤ w32 i ∧ w32 i < al σ 1 o) : Rn d m_X5_moved 31 [l0, l1] (vI i :: vR o :: st) σ Q ↔ Rn d m_X5_moved 32 [l0, l1] (vI (σ o (w32 i)) :: st) σ Q := q25 (show fnd (pgm m_X5_moved) 31 = some (32, 25, 0, 0, 0, []) from rfl) hi
set_option maxRecDepth 100000 in
theorem s_X5_moved_32 {d : Nat} {l0 l1 : AV} {x : Int} {σ : Sg} {Q : AV → Sg → Prop}  : Rn d m_X5_moved 32 [l0, l1] [vI x] σ Q ↔ Q (vI x) σ := q37_1 (st := []) (show fnd (pgm m_X5_moved) 32 = some (33, 37, 0, 1, 0, []) from rfl)
set_option maxRecDepth 100000 in
theorem en_X5_work {d : Nat} {o : Nat} {a0 : Int} {a1 : Int} {σ σ0 : Sg} {r0 : AV} (h : Rn d m_X5_work 0 [vR o, vI a0, vI a1] [] σ (fun r σ1 => r = r0 ∧ σ1 = σ0)) : Ev (d + 1) m_X5_work [vR o, vI a0, vI a1] σ r0 σ0 := Ev_is (Nat.le_of_ble_eq_true rfl) h
set_option maxRecDepth 100000 in
theorem eo_X5_work {d : Nat} {o : Nat} {a0 : Int} {a1 : Int} {σ : Sg} {Q : AV → Sg → Prop} (h : Rn d m_X5_work 0 [vR o, vI a0, vI a1] [] σ Q) : ∃ r σ1, Ev (d + 1) m_X5_work [vR o, vI a0, vI a1] σ r σ1 ∧ Q r σ1 := Ev_of (Nat.le_of_ble_eq_true rfl) h
set_option maxRecDepth 100000 in
theorem s_X5_work_0 {d : Nat} {l1 l2 : AV} {st : List AV} {o : Nat} {σ : Sg} {Q : AV → Sg → Prop} (ho : o ≠ 0) : Rn d m_X5_work 0 [vR o, l1, l2] st σ Q ↔ Rn d m_X5_work 1 [vR o, l1, l2] (vR o :: st) σ Q := q5 (show fnd (pgm m_X5_work) 0 = some (1, 5, 0, 0, 0, []) from rfl) rfl ho
set_option maxRecDepth 100000 in
theorem s_X5_work_1 {d : Nat} {l0 l2 : AV} {st : List AV} {x : Int} {σ : Sg} {Q : AV → Sg → Prop}  : Rn d m_X5_work 1 [l0, vI x, l2] st σ Q ↔ Rn d m_X5_work 2 [l0, vI x, l2] (vI x :: st) σ Q := q3 (show fnd (pgm m_X5_work) 1 = some (2, 3, 0, 1, 0, []) from rfl) rfl
set_option maxRecDepth 100000 in
theorem s_X5_work_2 {d : Nat} {l0 l1 l2 : AV} {st : List AV} {o : Nat} {a0 : Int} {σ : Sg} {Q : AV → Sg → Prop} (h4 : st.length ≤ 4) (hk : kn σ o = (0, 5)) : Rn d m_X5_work 2 [l0, l1, l2] (vI a0 :: vR o :: st) σ Q ↔ ∃ r σ1, Ev d m_X5_isStone [vR o, vI a0] σ r σ1 ∧ Rn d m_X5_work 5 [l0, l1, l2] (psh r st) σ1 Q := q35 (show fnd (pgm m_X5_work) 2 = some (5, 35, 129, 90, 2, []) from rfl) ⟨⟨by simp, by simpa using h4⟩, (by simp only [List.take, List.reverse, List.reverseAux, rcv]; rw [if_neg (by decide +kernel)]; exact decide_eq_true hk)⟩
set_option maxRecDepth 100000 in
theorem s_X5_work_5 {d : Nat} {l0 l1 l2 : AV} {st : List AV} {a : Int} {σ : Sg} {Q : AV → Sg → Prop}  : Rn d m_X5_work 5 [l0, l1, l2] (vI a :: st) σ Q ↔ if w32 a = 0 then Rn d m_X5_work 15 [l0, l1, l2] st σ Q else Rn d m_X5_work 8 [l0, l1, l2] st σ Q := q19_0 (show fnd (pgm m_X5_work) 5 = some (8, 19, 0, 0, 15, []) from rfl)
set_option maxRecDepth 100000 in
theorem s_X5_work_8 {d : Nat} {l0 l1 : AV} {st : List AV} {x : Int} {σ : Sg} {Q : AV → Sg → Prop}  : Rn d m_X5_work 8 [l0, l1, vI x] st σ Q ↔ Rn d m_X5_work 9 [l0, l1, vI x] (vI x :: st) σ Q := q3 (show fnd (pgm m_X5_work) 8 = some (9, 3, 0, 2, 0, []) from rfl) rfl
set_option maxRecDepth 100000 in
theorem s_X5_work_9 {d : Nat} {l0 l1 l2 : AV} {st : List AV}  {a0 : Int} {σ : Sg} {Q : AV → Sg → Prop} (h4 : st.length ≤ 4) : Rn d m_X5_work 9 [l0, l1, l2] (vI a0 :: st) σ Q ↔ ∃ r σ1, Ev d m_X5_isBehind [vI a0] σ r σ1 ∧ Rn d m_X5_work 12 [l0, l1, l2] (psh r st) σ1 Q := q35 (show fnd (pgm m_X5_work) 9 = some (12, 35, 135, 91, 1, []) from rfl) ⟨⟨by simp, by simpa using h4⟩, rfl⟩
set_option maxRecDepth 100000 in
theorem s_X5_work_12 {d : Nat} {l0 l1 l2 : AV} {st : List AV} {a : Int} {σ : Sg} {Q : AV → Sg → Prop}  : Rn d m_X5_work 12 [l0, l1, l2] (vI a :: st) σ Q ↔ if ¬ w32 a = 0 then Rn d m_X5_work 24 [l0, l1, l2] st σ Q else Rn d m_X5_work 15 [l0, l1, l2] st σ Q := q19_1 (show fnd (pgm m_X5_work) 12 = some (15, 19, 0, 1, 24, []) from rfl)
set_option maxRecDepth 100000 in
theorem s_X5_work_15 {d : Nat} {l1 l2 : AV} {st : List AV} {o : Nat} {σ : Sg} {Q : AV → Sg → Prop} (ho : o ≠ 0) : Rn d m_X5_work 15 [vR o, l1, l2] st σ Q ↔ Rn d m_X5_work 16 [vR o, l1, l2] (vR o :: st) σ Q := q5 (show fnd (pgm m_X5_work) 15 = some (16, 5, 0, 0, 0, []) from rfl) rfl ho
set_option maxRecDepth 100000 in
theorem s_X5_work_16 {d : Nat} {l0 l1 l2 : AV} {st : List AV} {σ : Sg} {Q : AV → Sg → Prop}  : Rn d m_X5_work 16 [l0, l1, l2] st σ Q ↔ Rn d m_X5_work 18 [l0, l1, l2] (vI (-2) :: st) σ Q := q0 (show fnd (pgm m_X5_work) 16 = some (18, 0, (-2), 1, 0, []) from rfl)
set_option maxRecDepth 100000 in
theorem s_X5_work_18 {d : Nat} {l0 l1 l2 : AV} {st : List AV} {σ : Sg} {Q : AV → Sg → Prop}  : Rn d m_X5_work 18 [l0, l1, l2] st σ Q ↔ Rn d m_X5_work 20 [l0, l1, l2] (vI (-2) :: st) σ Q := q0 (show fnd (pgm m_X5_work) 18 = some (20, 0, (-2), 1, 0, []) from rfl)
set_option maxRecDepth 100000 in
theorem s_X5_work_20 {d : Nat} {l0 l1 l2 : AV} {st : List AV} {o : Nat} {a0 : Int} {a1 : Int} {σ : Sg} {Q : AV → Sg → Prop} (h4 : st.length ≤ 4) (hk : kn σ o = (0, 5)) : Rn d m_X5_work 20 [l0, l1, l2] (vI a1 :: vI a0 :: vR o :: st) σ Q ↔ ∃ r σ1, Ev d m_X5_refuse [vR o, vI a0, vI a1] σ r σ1 ∧ Rn d m_X5_work 23 [l0, l1, l2] (psh r st) σ1 Q := q35 (show fnd (pgm m_X5_work) 20 = some (23, 35, 84, 92, 3, []) from rfl) ⟨⟨by simp, by simpa using h4⟩, (by simp only [List.take, List.reverse, List.reverseAux, rcv]; rw [if_neg (by decide +kernel)]; exact decide_eq_true hk)⟩
set_option maxRecDepth 100000 in
theorem s_X5_work_23 {d : Nat} {l0 l1 l2 : AV} {x : Int} {σ : Sg} {Q : AV → Sg → Prop}  : Rn d m_X5_work 23 [l0, l1, l2] [vI x] σ Q ↔ Q (vI x) σ := q37_1 (st := []) (show fnd (pgm m_X5_work) 23 = some (24, 37, 0, 1, 0, []) from rfl)
set_option maxRecDepth 100000 in
theorem s_X5_work_24 {d : Nat} {l1 l2 : AV} {st : List AV} {o : Nat} {σ : Sg} {Q : AV → Sg → Prop} (ho : o ≠ 0) : Rn d m_X5_work 24 [vR o, l1, l2] st σ Q ↔ Rn d m_X5_work 25 [vR o, l1, l2] (vR o :: st) σ Q := q5 (show fnd (pgm m_X5_work) 24 = some (25, 5, 0, 0, 0, []) from rfl) rfl ho
set_option maxRecDepth 100000 in
theorem s_X5_work_25 {d : Nat} {l0 l1 : AV} {st : List AV} {x : Int} {σ : Sg} {Q : AV → Sg → Prop}  : Rn d m_X5_work 25 [l0, l1, vI x] st σ Q ↔ Rn d m_X5_work 26 [l0, l1, vI x] (vI x :: st) σ Q := q3 (show fnd (pgm m_X5_work) 25 = some (26, 3, 0, 2, 0, []) from rfl) rfl
set_option maxRecDepth 100000 in
theorem s_X5_work_26 {d : Nat} {l0 l1 l2 : AV} {st : List AV} {o : Nat} {a0 : Int} {σ : Sg} {Q : AV → Sg → Prop} (h4 : st.length ≤ 4) (hk : kn σ o = (0, 5)) : Rn d m_X5_work 26 [l0, l1, l2] (vI a0 :: vR o :: st) σ Q ↔ ∃ r σ1, Ev d m_X5_walkAll [vR o, vI a0] σ r σ1 ∧ Rn d m_X5_work 29 [l0, l1, l2] (psh r st) σ1 Q := q35 (show fnd (pgm m_X5_work) 26 = some (29, 35, 138, 93, 2, []) from rfl) ⟨⟨by simp, by simpa using h4⟩, (by simp only [List.take, List.reverse, List.reverseAux, rcv]; rw [if_neg (by decide +kernel)]; exact decide_eq_true hk)⟩
set_option maxRecDepth 100000 in
theorem s_X5_work_29 {d : Nat} {l1 l2 : AV} {st : List AV} {o : Nat} {σ : Sg} {Q : AV → Sg → Prop} (ho : o ≠ 0) : Rn d m_X5_work 29 [vR o, l1, l2] st σ Q ↔ Rn d m_X5_work 30 [vR o, l1, l2] (vR o :: st) σ Q := q5 (show fnd (pgm m_X5_work) 29 = some (30, 5, 0, 0, 0, []) from rfl) rfl ho
set_option maxRecDepth 100000 in
theorem s_X5_work_30 {d : Nat} {l0 l1 l2 : AV} {st : List AV} {o : Nat} {σ : Sg} {Q : AV → Sg → Prop} (hk : kn σ o = (0, 5)) : Rn d m_X5_work 30 [l0, l1, l2] (vR o :: st) σ Q ↔ Rn d m_X5_work 33 [l0, l1, l2] (vR (tp o 3) :: st) σ Q := q33 (show fnd (pgm m_X5_work) 30 = some (33, 33, 27, 5, 3, []) from rfl) hk
set_option maxRecDepth 100000 in
theorem s_X5_work_33 {d : Nat} {l0 l2 : AV} {st : List AV} {x : Int} {σ : Sg} {Q : AV → Sg → Prop}  : Rn d m_X5_work 33 [l0, vI x, l2] st σ Q ↔ Rn d m_X5_work 34 [l0, vI x, l2] (vI x :: st) σ Q := q3 (show fnd (pgm m_X5_work) 33 = some (34, 3, 0, 1, 0, []) from rfl) rfl
set_option maxRecDepth 100000 in
theorem s_X5_work_34 {d : Nat} {l0 l1 l2 : AV} {st : List AV} {o : Nat} {a0 : Int} {σ : Sg} {Q : AV → Sg → Prop} (h4 : st.length ≤ 4) (hk : kn σ o = (0, 4)) : Rn d m_X5_work 34 [l0, l1, l2] (vI a0 :: vR o :: st) σ Q ↔ ∃ r σ1, Ev d m_X4_stepsOf [vR o, vI a0] σ r σ1 ∧ Rn d m_X5_work 37 [l0, l1, l2] (psh r st) σ1 Q := q35 (show fnd (pgm m_X5_work) 34 = some (37, 35, 147, 47, 2, []) from rfl) ⟨⟨by simp, by simpa using h4⟩, (by simp only [List.take, List.reverse, List.reverseAux, rcv]; rw [if_neg (by decide +kernel)]; exact decide_eq_true hk)⟩
set_option maxRecDepth 100000 in
theorem s_X5_work_37 {d : Nat} {l0 l1 l2 : AV} {x : Int} {σ : Sg} {Q : AV → Sg → Prop}  : Rn d m_X5_work 37 [l0, l1, l2] [vI x] σ Q ↔ Q (vI x) σ := q37_1 (st := []) (show fnd (pgm m_X5_work) 37 = some (38, 37, 0, 1, 0, []) from rfl)
set_option maxRecDepth 100000 in
theorem en_X5_tracks {d : Nat} {o : Nat} {a0 : Int} {a1 : Int} {a2 : Int} {σ σ0 : Sg} {r0 : AV} (h : Rn d m_X5_tracks 0 [vR o, vI a0, vI a1, vI a2, none] [] σ (fun r σ1 => r = r0 ∧ σ1 = σ0)) : Ev (d + 1) m_X5_tracks [vR o, vI a0, vI a1, vI a2] σ r0 σ0 := Ev_is (Nat.le_of_ble_eq_true rfl) h
set_option maxRecDepth 100000 in
theorem eo_X5_tracks {d : Nat} {o : Nat} {a0 : Int} {a1 : Int} {a2 : Int} {σ : Sg} {Q : AV → Sg → Prop} (h : Rn d m_X5_tracks 0 [vR o, vI a0, vI a1, vI a2, none] [] σ Q) : ∃ r σ1, Ev (d + 1) m_X5_tracks [vR o, vI a0, vI a1, vI a2] σ r σ1 ∧ Q r σ1 := Ev_of (Nat.le_of_ble_eq_true rfl) h
set_option maxRecDepth 100000 in
theorem s_X5_tracks_0 {d : Nat} {l0 l2 l3 l4 : AV} {st : List AV} {x : Int} {σ : Sg} {Q : AV → Sg → Prop}  : Rn d m_X5_tracks 0 [l0, vI x, l2, l3, l4] st σ Q ↔ Rn d m_X5_tracks 1 [l0, vI x, l2, l3, l4] (vI x :: st) σ Q := q3 (show fnd (pgm m_X5_tracks) 0 = some (1, 3, 0, 1, 0, []) from rfl) rfl
set_option maxRecDepth 100000 in
theorem s_X5_tracks_1 {d : Nat} {l0 l1 l2 l3 l4 : AV} {st : List AV} {σ : Sg} {Q : AV → Sg → Prop}  : Rn d m_X5_tracks 1 [l0, l1, l2, l3, l4] st σ Q ↔ Rn d m_X5_tracks 4 [l0, l1, l2, l3, l4] (vI 144 :: st) σ Q := q0 (show fnd (pgm m_X5_tracks) 1 = some (4, 0, 144, 2, 0, []) from rfl)
set_option maxRecDepth 100000 in
theorem s_X5_tracks_4 {d : Nat} {l0 l1 l2 l3 l4 : AV} {st : List AV}  {a0 : Int} {a1 : Int} {σ : Sg} {Q : AV → Sg → Prop} (h4 : st.length ≤ 4) : Rn d m_X5_tracks 4 [l0, l1, l2, l3, l4] (vI a1 :: vI a0 :: st) σ Q ↔ ∃ r σ1, Ev d m_X5_within [vI a0, vI a1] σ r σ1 ∧ Rn d m_X5_tracks 7 [l0, l1, l2, l3, l4] (psh r st) σ1 Q := q35 (show fnd (pgm m_X5_tracks) 4 = some (7, 35, 80, 89, 2, []) from rfl) ⟨⟨by simp, by simpa using h4⟩, rfl⟩
set_option maxRecDepth 100000 in
theorem s_X5_tracks_7 {d : Nat} {l0 l1 l2 l3 l4 : AV} {st : List AV} {a : Int} {σ : Sg} {Q : AV → Sg → Prop}  : Rn d m_X5_tracks 7 [l0, l1, l2, l3, l4] (vI a :: st) σ Q ↔ if w32 a = 0 then Rn d m_X5_tracks 22 [l0, l1, l2, l3, l4] st σ Q else Rn d m_X5_tracks 10 [l0, l1, l2, l3, l4] st σ Q := q19_0 (show fnd (pgm m_X5_tracks) 7 = some (10, 19, 0, 0, 22, []) from rfl)
set_option maxRecDepth 100000 in
theorem s_X5_tracks_10 {d : Nat} {l0 l1 l3 l4 : AV} {st : List AV} {x : Int} {σ : Sg} {Q : AV → Sg → Prop}  : Rn d m_X5_tracks 10 [l0, l1, vI x, l3, l4] st σ Q ↔ Rn d m_X5_tracks 11 [l0, l1, vI x, l3, l4] (vI x :: st) σ Q := q3 (show fnd (pgm m_X5_tracks) 10 = some (11, 3, 0, 2, 0, []) from rfl) rfl
set_option maxRecDepth 100000 in
theorem s_X5_tracks_11 {d : Nat} {l0 l1 l2 l3 l4 : AV} {st : List AV}  {a0 : Int} {σ : Sg} {Q : AV → Sg → Prop} (h4 : st.length ≤ 4) : Rn d m_X5_tracks 11 [l0, l1, l2, l3, l4] (vI a0 :: st) σ Q ↔ ∃ r σ1, Ev d m_X5_isBehind [vI a0] σ r σ1 ∧ Rn d m_X5_tracks 14 [l0, l1, l2, l3, l4] (psh r st) σ1 Q := q35 (show fnd (pgm m_X5_tracks) 11 = some (14, 35, 135, 91, 1, []) from rfl) ⟨⟨by simp, by simpa using h4⟩, rfl⟩
set_option maxRecDepth 100000 in
theorem s_X5_tracks_14 {d : Nat} {l0 l1 l2 l3 l4 : AV} {st : List AV} {a : Int} {σ : Sg} {Q : AV → Sg → Prop}  : Rn d m_X5_tracks 14 [l0, l1, l2, l3, l4] (vI a :: st) σ Q ↔ if w32 a = 0 then Rn d m_X5_tracks 22 [l0, l1, l2, l3, l4] st σ Q else Rn d m_X5_tracks 17 [l0, l1, l2, l3, l4] st σ Q := q19_0 (show fnd (pgm m_X5_tracks) 14 = some (17, 19, 0, 0, 22, []) from rfl)
set_option maxRecDepth 100000 in
theorem s_X5_tracks_17 {d : Nat} {l0 l1 l2 l4 : AV} {st : List AV} {x : Int} {σ : Sg} {Q : AV → Sg → Prop}  : Rn d m_X5_tracks 17 [l0, l1, l2, vI x, l4] st σ Q ↔ Rn d m_X5_tracks 18 [l0, l1, l2, vI x, l4] (vI x :: st) σ Q := q3 (show fnd (pgm m_X5_tracks) 17 = some (18, 3, 0, 3, 0, []) from rfl) rfl
set_option maxRecDepth 100000 in
theorem s_X5_tracks_18 {d : Nat} {l0 l1 l2 l3 l4 : AV} {st : List AV} {σ : Sg} {Q : AV → Sg → Prop}  : Rn d m_X5_tracks 18 [l0, l1, l2, l3, l4] st σ Q ↔ Rn d m_X5_tracks 19 [l0, l1, l2, l3, l4] (vI (-1) :: st) σ Q := q0 (show fnd (pgm m_X5_tracks) 18 = some (19, 0, (-1), 0, 0, []) from rfl)
set_option maxRecDepth 100000 in
theorem s_X5_tracks_19 {d : Nat} {l0 l1 l2 l3 l4 : AV} {st : List AV} {a b : Int} {σ : Sg} {Q : AV → Sg → Prop}  : Rn d m_X5_tracks 19 [l0, l1, l2, l3, l4] (vI b :: vI a :: st) σ Q ↔ if w32 b ≤ w32 a then Rn d m_X5_tracks 31 [l0, l1, l2, l3, l4] st σ Q else Rn d m_X5_tracks 22 [l0, l1, l2, l3, l4] st σ Q := q20_3 (show fnd (pgm m_X5_tracks) 19 = some (22, 20, 0, 3, 31, []) from rfl)
set_option maxRecDepth 100000 in
theorem s_X5_tracks_22 {d : Nat} {l1 l2 l3 l4 : AV} {st : List AV} {o : Nat} {σ : Sg} {Q : AV → Sg → Prop} (ho : o ≠ 0) : Rn d m_X5_tracks 22 [vR o, l1, l2, l3, l4] st σ Q ↔ Rn d m_X5_tracks 23 [vR o, l1, l2, l3, l4] (vR o :: st) σ Q := q5 (show fnd (pgm m_X5_tracks) 22 = some (23, 5, 0, 0, 0, []) from rfl) rfl ho
set_option maxRecDepth 100000 in
theorem s_X5_tracks_23 {d : Nat} {l0 l1 l2 l3 l4 : AV} {st : List AV} {σ : Sg} {Q : AV → Sg → Prop}  : Rn d m_X5_tracks 23 [l0, l1, l2, l3, l4] st σ Q ↔ Rn d m_X5_tracks 25 [l0, l1, l2, l3, l4] (vI (-2) :: st) σ Q := q0 (show fnd (pgm m_X5_tracks) 23 = some (25, 0, (-2), 1, 0, []) from rfl)
set_option maxRecDepth 100000 in
theorem s_X5_tracks_25 {d : Nat} {l0 l1 l2 l3 l4 : AV} {st : List AV} {σ : Sg} {Q : AV → Sg → Prop}  : Rn d m_X5_tracks 25 [l0, l1, l2, l3, l4] st σ Q ↔ Rn d m_X5_tracks 27 [l0, l1, l2, l3, l4] (vI (-10) :: st) σ Q := q0 (show fnd (pgm m_X5_tracks) 25 = some (27, 0, (-10), 1, 0, []) from rfl)
set_option maxRecDepth 100000 in
theorem s_X5_tracks_27 {d : Nat} {l0 l1 l2 l3 l4 : AV} {st : List AV} {o : Nat} {a0 : Int} {a1 : Int} {σ : Sg} {Q : AV → Sg → Prop} (h4 : st.length ≤ 4) (hk : kn σ o = (0, 5)) : Rn d m_X5_tracks 27 [l0, l1, l2, l3, l4] (vI a1 :: vI a0 :: vR o :: st) σ Q ↔ ∃ r σ1, Ev d m_X5_refuse [vR o, vI a0, vI a1] σ r σ1 ∧ Rn d m_X5_tracks 30 [l0, l1, l2, l3, l4] (psh r st) σ1 Q := q35 (show fnd (pgm m_X5_tracks) 27 = some (30, 35, 84, 92, 3, []) from rfl) ⟨⟨by simp, by simpa using h4⟩, (by simp only [List.take, List.reverse, List.reverseAux, rcv]; rw [if_neg (by decide +kernel)]; exact decide_eq_true hk)⟩
set_option maxRecDepth 100000 in
theorem s_X5_tracks_30 {d : Nat} {l0 l1 l2 l3 l4 : AV} {x : Int} {σ : Sg} {Q : AV → Sg → Prop}  : Rn d m_X5_tracks 30 [l0, l1, l2, l3, l4] [vI x] σ Q ↔ Q (vI x) σ := q37_1 (st := []) (show fnd (pgm m_X5_tracks) 30 = some (31, 37, 0, 1, 0, []) from rfl)
set_option maxRecDepth 100000 in
theorem s_X5_tracks_31 {d : Nat} {l1 l2 l3 l4 : AV} {st : List AV} {o : Nat} {σ : Sg} {Q : AV → Sg → Prop} (ho : o ≠ 0) : Rn d m_X5_tracks 31 [vR o, l1, l2, l3, l4] st σ Q ↔ Rn d m_X5_tracks 32 [vR o, l1, l2, l3, l4] (vR o :: st) σ Q := q5 (show fnd (pgm m_X5_tracks) 31 = some (32, 5, 0, 0, 0, []) from rfl) rfl ho
set_option maxRecDepth 100000 in
theorem s_X5_tracks_32 {d : Nat} {l0 l1 l3 l4 : AV} {st : List AV} {x : Int} {σ : Sg} {Q : AV → Sg → Prop}  : Rn d m_X5_tracks 32 [l0, l1, vI x, l3, l4] st σ Q ↔ Rn d m_X5_tracks 33 [l0, l1, vI x, l3, l4] (vI x :: st) σ Q := q3 (show fnd (pgm m_X5_tracks) 32 = some (33, 3, 0, 2, 0, []) from rfl) rfl
set_option maxRecDepth 100000 in
theorem s_X5_tracks_33 {d : Nat} {l0 l1 l2 l3 l4 : AV} {st : List AV} {o : Nat} {a0 : Int} {σ : Sg} {Q : AV → Sg → Prop} (h4 : st.length ≤ 4) (hk : kn σ o = (0, 5)) : Rn d m_X5_tracks 33 [l0, l1, l2, l3, l4] (vI a0 :: vR o :: st) σ Q ↔ ∃ r σ1, Ev d m_X5_walkAll [vR o, vI a0] σ r σ1 ∧ Rn d m_X5_tracks 36 [l0, l1, l2, l3, l4] (psh r st) σ1 Q := q35 (show fnd (pgm m_X5_tracks) 33 = some (36, 35, 138, 93, 2, []) from rfl) ⟨⟨by simp, by simpa using h4⟩, (by simp only [List.take, List.reverse, List.reverseAux, rcv]; rw [if_neg (by decide +kernel)]; exact decide_eq_true hk)⟩
set_option maxRecDepth 100000 in
theorem s_X5_tracks_36 {d : Nat} {l0 l1 l2 l4 : AV} {st : List AV} {x : Int} {σ : Sg} {Q : AV → Sg → Prop}  : Rn d m_X5_tracks 36 [l0, l1, l2, vI x, l4] st σ Q ↔ Rn d m_X5_tracks 37 [l0, l1, l2, vI x, l4] (vI x :: st) σ Q := q3 (show fnd (pgm m_X5_tracks) 36 = some (37, 3, 0, 3, 0, []) from rfl) rfl
set_option maxRecDepth 100000 in
theorem s_X5_tracks_37 {d : Nat} {l0 l1 l2 l3 l4 : AV} {st : List AV} {σ : Sg} {Q : AV → Sg → Prop}  : Rn d m_X5_tracks 37 [l0, l1, l2, l3, l4] st σ Q ↔ Rn d m_X5_tracks 38 [l0, l1, l2, l3, l4] (vI (-1) :: st) σ Q := q0 (show fnd (pgm m_X5_tracks) 37 = some (38, 0, (-1), 0, 0, []) from rfl)
set_option maxRecDepth 100000 in
theorem s_X5_tracks_38 {d : Nat} {l0 l1 l2 l3 l4 : AV} {st : List AV} {a b : Int} {σ : Sg} {Q : AV → Sg → Prop}  : Rn d m_X5_tracks 38 [l0, l1, l2, l3, l4] (vI b :: vI a :: st) σ Q ↔ if ¬ w32 a = w32 b then Rn d m_X5_tracks 57 [l0, l1, l2, l3, l4] st σ Q else Rn d m_X5_tracks 41 [l0, l1, l2, l3, l4] st σ Q := q20_1 (show fnd (pgm m_X5_tracks) 38 = some (41, 20, 0, 1, 57, []) from rfl)
set_option maxRecDepth 100000 in
theorem s_X5_tracks_41 {d : Nat} {l1 l2 l3 l4 : AV} {st : List AV} {o : Nat} {σ : Sg} {Q : AV → Sg → Prop} (ho : o ≠ 0) : Rn d m_X5_tracks 41 [vR o, l1, l2, l3, l4] st σ Q ↔ Rn d m_X5_tracks 42 [vR o, l1, l2, l3, l4] (vR o :: st) σ Q := q5 (show fnd (pgm m_X5_tracks) 41 = some (42, 5, 0, 0, 0, []) from rfl) rfl ho
set_option maxRecDepth 100000 in
theorem s_X5_tracks_42 {d : Nat} {l0 l1 l2 l3 l4 : AV} {st : List AV} {o : Nat} {σ : Sg} {Q : AV → Sg → Prop} (hk : kn σ o = (0, 5)) : Rn d m_X5_tracks 42 [l0, l1, l2, l3, l4] (vR o :: st) σ Q ↔ Rn d m_X5_tracks 45 [l0, l1, l2, l3, l4] (vR (tp o 3) :: st) σ Q := q33 (show fnd (pgm m_X5_tracks) 42 = some (45, 33, 27, 5, 3, []) from rfl) hk
set_option maxRecDepth 100000 in
theorem s_X5_tracks_45 {d : Nat} {l0 l2 l3 l4 : AV} {st : List AV} {x : Int} {σ : Sg} {Q : AV → Sg → Prop}  : Rn d m_X5_tracks 45 [l0, vI x, l2, l3, l4] st σ Q ↔ Rn d m_X5_tracks 46 [l0, vI x, l2, l3, l4] (vI x :: st) σ Q := q3 (show fnd (pgm m_X5_tracks) 45 = some (46, 3, 0, 1, 0, []) from rfl) rfl
set_option maxRecDepth 100000 in
theorem s_X5_tracks_46 {d : Nat} {l1 l2 l3 l4 : AV} {st : List AV} {o : Nat} {σ : Sg} {Q : AV → Sg → Prop} (ho : o ≠ 0) : Rn d m_X5_tracks 46 [vR o, l1, l2, l3, l4] st σ Q ↔ Rn d m_X5_tracks 47 [vR o, l1, l2, l3, l4] (vR o :: st) σ Q := q5 (show fnd (pgm m_X5_tracks) 46 = some (47, 5, 0, 0, 0, []) from rfl) rfl ho
set_option maxRecDepth 100000 in
theorem s_X5_tracks_47 {d : Nat} {l0 l1 l2 l3 l4 : AV} {st : List AV} {o : Nat} {σ : Sg} {Q : AV → Sg → Prop} (hk : kn σ o = (0, 5)) : Rn d m_X5_tracks 47 [l0, l1, l2, l3, l4] (vR o :: st) σ Q ↔ Rn d m_X5_tracks 50 [l0, l1, l2, l3, l4] (vR (tp o 0) :: st) σ Q := q33 (show fnd (pgm m_X5_tracks) 47 = some (50, 33, 12, 5, 0, []) from rfl) hk
set_option maxRecDepth 100000 in
theorem s_X5_tracks_50 {d : Nat} {l0 l1 l2 l3 l4 : AV} {st : List AV} {o : Nat} {σ : Sg} {Q : AV → Sg → Prop} (hk : kn σ o = (0, 0)) : Rn d m_X5_tracks 50 [l0, l1, l2, l3, l4] (vR o :: st) σ Q ↔ Rn d m_X5_tracks 53 [l0, l1, l2, l3, l4] (vR (tp o 7) :: st) σ Q := q33 (show fnd (pgm m_X5_tracks) 50 = some (53, 33, 105, 0, 7, []) from rfl) hk
set_option maxRecDepth 100000 in
theorem s_X5_tracks_53 {d : Nat} {l0 l1 l2 l3 l4 : AV} {st : List AV} {o : Nat} {a0 : Int} {a1 : Nat} {σ : Sg} {Q : AV → Sg → Prop} (h4 : st.length ≤ 4) (hk : kn σ o = (0, 4)) : Rn d m_X5_tracks 53 [l0, l1, l2, l3, l4] (vR a1 :: vI a0 :: vR o :: st) σ Q ↔ ∃ r σ1, Ev d m_X4_furrowsFrom [vR o, vI a0, vR a1] σ r σ1 ∧ Rn d m_X5_tracks 56 [l0, l1, l2, l3, l4] (psh r st) σ1 Q := q35 (show fnd (pgm m_X5_tracks) 53 = some (56, 35, 151, 49, 3, []) from rfl) ⟨⟨by simp, by simpa using h4⟩, (by simp only [List.take, List.reverse, List.reverseAux, rcv]; rw [if_neg (by decide +kernel)]; exact decide_eq_true hk)⟩
set_option maxRecDepth 100000 in
theorem s_X5_tracks_56 {d : Nat} {l0 l1 l2 l3 l4 : AV} {x : Int} {σ : Sg} {Q : AV → Sg → Prop}  : Rn d m_X5_tracks 56 [l0, l1, l2, l3, l4] [vI x] σ Q ↔ Q (vI x) σ := q37_1 (st := []) (show fnd (pgm m_X5_tracks) 56 = some (57, 37, 0, 1, 0, []) from rfl)
set_option maxRecDepth 100000 in
theorem s_X5_tracks_57 {d : Nat} {l1 l2 l3 l4 : AV} {st : List AV} {o : Nat} {σ : Sg} {Q : AV → Sg → Prop} (ho : o ≠ 0) : Rn d m_X5_tracks 57 [vR o, l1, l2, l3, l4] st σ Q ↔ Rn d m_X5_tracks 58 [vR o, l1, l2, l3, l4] (vR o :: st) σ Q := q5 (show fnd (pgm m_X5_tracks) 57 = some (58, 5, 0, 0, 0, []) from rfl) rfl ho
set_option maxRecDepth 100000 in
theorem s_X5_tracks_58 {d : Nat} {l0 l1 l2 l3 l4 : AV} {st : List AV} {o : Nat} {σ : Sg} {Q : AV → Sg → Prop} (hk : kn σ o = (0, 5)) : Rn d m_X5_tracks 58 [l0, l1, l2, l3, l4] (vR o :: st) σ Q ↔ Rn d m_X5_tracks 61 [l0, l1, l2, l3, l4] (vR (tp o 3) :: st) σ Q := q33 (show fnd (pgm m_X5_tracks) 58 = some (61, 33, 27, 5, 3, []) from rfl) hk
set_option maxRecDepth 100000 in
theorem s_X5_tracks_61 {d : Nat} {l0 l2 l3 l4 : AV} {st : List AV} {x : Int} {σ : Sg} {Q : AV → Sg → Prop}  : Rn d m_X5_tracks 61 [l0, vI x, l2, l3, l4] st σ Q ↔ Rn d m_X5_tracks 62 [l0, vI x, l2, l3, l4] (vI x :: st) σ Q := q3 (show fnd (pgm m_X5_tracks) 61 = some (62, 3, 0, 1, 0, []) from rfl) rfl
set_option maxRecDepth 100000 in
theorem s_X5_tracks_62 {d : Nat} {l1 l2 l3 l4 : AV} {st : List AV} {o : Nat} {σ : Sg} {Q : AV → Sg → Prop} (ho : o ≠ 0) : Rn d m_X5_tracks 62 [vR o, l1, l2, l3, l4] st σ Q ↔ Rn d m_X5_tracks 63 [vR o, l1, l2, l3, l4] (vR o :: st) σ Q := q5 (show fnd (pgm m_X5_tracks) 62 = some (63, 5, 0, 0, 0, []) from rfl) rfl ho
set_option maxRecDepth 100000 in
theorem s_X5_tracks_63 {d : Nat} {l0 l1 l2 l3 l4 : AV} {st : List AV} {o : Nat} {σ : Sg} {Q : AV → Sg → Prop} (hk : kn σ o = (0, 5)) : Rn d m_X5_tracks 63 [l0, l1, l2, l3, l4] (vR o :: st) σ Q ↔ Rn d m_X5_tracks 66 [l0, l1, l2, l3, l4] (vR (tp o 0) :: st) σ Q := q33 (show fnd (pgm m_X5_tracks) 63 = some (66, 33, 12, 5, 0, []) from rfl) hk
set_option maxRecDepth 100000 in
theorem s_X5_tracks_66 {d : Nat} {l0 l1 l2 l3 l4 : AV} {st : List AV} {o : Nat} {σ : Sg} {Q : AV → Sg → Prop} (hk : kn σ o = (0, 0)) : Rn d m_X5_tracks 66 [l0, l1, l2, l3, l4] (vR o :: st) σ Q ↔ Rn d m_X5_tracks 69 [l0, l1, l2, l3, l4] (vR (tp o 7) :: st) σ Q := q33 (show fnd (pgm m_X5_tracks) 66 = some (69, 33, 105, 0, 7, []) from rfl) hk
set_option maxRecDepth 100000 in
theorem s_X5_tracks_69 {d : Nat} {l0 l1 l2 l4 : AV} {st : List AV} {x : Int} {σ : Sg} {Q : AV → Sg → Prop}  : Rn d m_X5_tracks 69 [l0, l1, l2, vI x, l4] st σ Q ↔ Rn d m_X5_tracks 70 [l0, l1, l2, vI x, l4] (vI x :: st) σ Q := q3 (show fnd (pgm m_X5_tracks) 69 = some (70, 3, 0, 3, 0, []) from rfl) rfl
set_option maxRecDepth 100000 in
theorem s_X5_tracks_70 {d : Nat} {l0 l1 l2 l3 l4 : AV} {st : List AV} {o : Nat} {a0 : Int} {a1 : Nat} {a2 : Int} {σ : Sg} {Q : AV → Sg → Prop} (h4 : st.length ≤ 4) (hk : kn σ o = (0, 4)) : Rn d m_X5_tracks 70 [l0, l1, l2, l3, l4] (vI a2 :: vR a1 :: vI a0 :: vR o :: st) σ Q ↔ ∃ r σ1, Ev d m_X4_furrowFrom [vR o, vI a0, vR a1, vI a2] σ r σ1 ∧ Rn d m_X5_tracks 73 [l0, l1, l2, l3, l4] (psh r st) σ1 Q := q35 (show fnd (pgm m_X5_tracks) 70 = some (73, 35, 155, 50, 4, []) from rfl) ⟨⟨by simp, by simpa using h4⟩, (by simp only [List.take, List.reverse, List.reverseAux, rcv]; rw [if_neg (by decide +kernel)]; exact decide_eq_true hk)⟩
set_option maxRecDepth 100000 in
theorem s_X5_tracks_73 {d : Nat} {l0 l1 l2 l3 l4 : AV} {st : List AV} {x : Int} {σ : Sg} {Q : AV → Sg → Prop}  : Rn d m_X5_tracks 73 [l0, l1, l2, l3, l4] (vI x :: st) σ Q ↔ Rn d m_X5_tracks 75 [l0, l1, l2, l3, vI x] st σ Q := q6 (show fnd (pgm m_X5_tracks) 73 = some (75, 6, 0, 4, 1, []) from rfl) (by decide : 4 < 5)
set_option maxRecDepth 100000 in
theorem s_X5_tracks_75 {d : Nat} {l0 l1 l2 l3 : AV} {st : List AV} {x : Int} {σ : Sg} {Q : AV → Sg → Prop}  : Rn d m_X5_tracks 75 [l0, l1, l2, l3, vI x] st σ Q ↔ Rn d m_X5_tracks 77 [l0, l1, l2, l3, vI x] (vI x :: st) σ Q := q3 (show fnd (pgm m_X5_tracks) 75 = some (77, 3, 0, 4, 1, []) from rfl) rfl
set_option maxRecDepth 100000 in
theorem s_X5_tracks_77 {d : Nat} {l0 l1 l2 l3 l4 : AV} {st : List AV} {σ : Sg} {Q : AV → Sg → Prop}  : Rn d m_X5_tracks 77 [l0, l1, l2, l3, l4] st σ Q ↔ Rn d m_X5_tracks 78 [l0, l1, l2, l3, l4] (vI (-1) :: st) σ Q := q0 (show fnd (pgm m_X5_tracks) 77 = some (78, 0, (-1), 0, 0, []) from rfl)
set_option maxRecDepth 100000 in
theorem s_X5_tracks_78 {d : Nat} {l0 l1 l2 l3 l4 : AV} {st : List AV} {a b : Int} {σ : Sg} {Q : AV → Sg → Prop}  : Rn d m_X5_tracks 78 [l0, l1, l2, l3, l4] (vI b :: vI a :: st) σ Q ↔ if ¬ w32 a = w32 b then Rn d m_X5_tracks 86 [l0, l1, l2, l3, l4] st σ Q else Rn d m_X5_tracks 81 [l0, l1, l2, l3, l4] st σ Q := q20_1 (show fnd (pgm m_X5_tracks) 78 = some (81, 20, 0, 1, 86, []) from rfl)
set_option maxRecDepth 100000 in
theorem s_X5_tracks_81 {d : Nat} {l0 l1 l2 l3 l4 : AV} {st : List AV} {σ : Sg} {Q : AV → Sg → Prop}  : Rn d m_X5_tracks 81 [l0, l1, l2, l3, l4] st σ Q ↔ Rn d m_X5_tracks 83 [l0, l1, l2, l3, l4] (vI (-5) :: st) σ Q := q0 (show fnd (pgm m_X5_tracks) 81 = some (83, 0, (-5), 1, 0, []) from rfl)
set_option maxRecDepth 100000 in
theorem s_X5_tracks_83 {d : Nat} {l0 l1 l2 l3 l4 : AV} {st : List AV} {σ : Sg} {Q : AV → Sg → Prop}  : Rn d m_X5_tracks 83 [l0, l1, l2, l3, l4] st σ Q ↔ Rn d m_X5_tracks 88 [l0, l1, l2, l3, l4] st σ Q := q21 (show fnd (pgm m_X5_tracks) 83 = some (86, 21, 0, 0, 88, []) from rfl)
set_option maxRecDepth 100000 in
theorem s_X5_tracks_86 {d : Nat} {l0 l1 l2 l3 : AV} {st : List AV} {x : Int} {σ : Sg} {Q : AV → Sg → Prop}  : Rn d m_X5_tracks 86 [l0, l1, l2, l3, vI x] st σ Q ↔ Rn d m_X5_tracks 88 [l0, l1, l2, l3, vI x] (vI x :: st) σ Q := q3 (show fnd (pgm m_X5_tracks) 86 = some (88, 3, 0, 4, 1, []) from rfl) rfl
set_option maxRecDepth 100000 in
theorem s_X5_tracks_88 {d : Nat} {l0 l1 l2 l3 l4 : AV} {x : Int} {σ : Sg} {Q : AV → Sg → Prop}  : Rn d m_X5_tracks 88 [l0, l1, l2, l3, l4] [vI x] σ Q ↔ Q (vI x) σ := q37_1 (st := []) (show fnd (pgm m_X5_tracks) 88 = some (89, 37, 0, 1, 0, []) from rfl)
set_option maxRecDepth 100000 in
theorem en_X5_which {d : Nat} {o : Nat} {a0 : Int} {a1 : Int} {a2 : Int} {a3 : Int} {σ σ0 : Sg} {r0 : AV} (h : Rn d m_X5_which 0 [vR o, vI a0, vI a1, vI a2, vI a3] [] σ (fun r σ1 => r = r0 ∧ σ1 = σ0)) : Ev (d + 1) m_X5_which [vR o, vI a0, vI a1, vI a2, vI a3] σ r0 σ0 := Ev_is (Nat.le_of_ble_eq_true rfl) h
set_option maxRecDepth 100000 in
theorem eo_X5_which {d : Nat} {o : Nat} {a0 : Int} {a1 : Int} {a2 : Int} {a3 : Int} {σ : Sg} {Q : AV → Sg → Prop} (h : Rn d m_X5_which 0 [vR o, vI a0, vI a1, vI a2, vI a3] [] σ Q) : ∃ r σ1, Ev (d + 1) m_X5_which [vR o, vI a0, vI a1, vI a2, vI a3] σ r σ1 ∧ Q r σ1 := Ev_of (Nat.le_of_ble_eq_true rfl) h
set_option maxRecDepth 100000 in
theorem s_X5_which_0 {d : Nat} {l1 l2 l3 l4 : AV} {st : List AV} {o : Nat} {σ : Sg} {Q : AV → Sg → Prop} (ho : o ≠ 0) : Rn d m_X5_which 0 [vR o, l1, l2, l3, l4] st σ Q ↔ Rn d m_X5_which 1 [vR o, l1, l2, l3, l4] (vR o :: st) σ Q := q5 (show fnd (pgm m_X5_which) 0 = some (1, 5, 0, 0, 0, []) from rfl) rfl ho
set_option maxRecDepth 100000 in
theorem s_X5_which_1 {d : Nat} {l0 l2 l3 l4 : AV} {st : List AV} {x : Int} {σ : Sg} {Q : AV → Sg → Prop}  : Rn d m_X5_which 1 [l0, vI x, l2, l3, l4] st σ Q ↔ Rn d m_X5_which 2 [l0, vI x, l2, l3, l4] (vI x :: st) σ Q := q3 (show fnd (pgm m_X5_which) 1 = some (2, 3, 0, 1, 0, []) from rfl) rfl
set_option maxRecDepth 100000 in
theorem s_X5_which_2 {d : Nat} {l0 l1 l2 l3 l4 : AV} {st : List AV} {o : Nat} {a0 : Int} {σ : Sg} {Q : AV → Sg → Prop} (h4 : st.length ≤ 4) (hk : kn σ o = (0, 5)) : Rn d m_X5_which 2 [l0, l1, l2, l3, l4] (vI a0 :: vR o :: st) σ Q ↔ ∃ r σ1, Ev d m_X5_isStone [vR o, vI a0] σ r σ1 ∧ Rn d m_X5_which 5 [l0, l1, l2, l3, l4] (psh r st) σ1 Q := q35 (show fnd (pgm m_X5_which) 2 = some (5, 35, 129, 90, 2, []) from rfl) ⟨⟨by simp, by simpa using h4⟩, (by simp only [List.take, List.reverse, List.reverseAux, rcv]; rw [if_neg (by decide +kernel)]; exact decide_eq_true hk)⟩
set_option maxRecDepth 100000 in
theorem s_X5_which_5 {d : Nat} {l0 l1 l2 l3 l4 : AV} {st : List AV} {a : Int} {σ : Sg} {Q : AV → Sg → Prop}  : Rn d m_X5_which 5 [l0, l1, l2, l3, l4] (vI a :: st) σ Q ↔ if w32 a = 0 then Rn d m_X5_which 34 [l0, l1, l2, l3, l4] st σ Q else Rn d m_X5_which 8 [l0, l1, l2, l3, l4] st σ Q := q19_0 (show fnd (pgm m_X5_which) 5 = some (8, 19, 0, 0, 34, []) from rfl)
set_option maxRecDepth 100000 in
theorem s_X5_which_8 {d : Nat} {l0 l1 l3 l4 : AV} {st : List AV} {x : Int} {σ : Sg} {Q : AV → Sg → Prop}  : Rn d m_X5_which 8 [l0, l1, vI x, l3, l4] st σ Q ↔ Rn d m_X5_which 9 [l0, l1, vI x, l3, l4] (vI x :: st) σ Q := q3 (show fnd (pgm m_X5_which) 8 = some (9, 3, 0, 2, 0, []) from rfl) rfl
set_option maxRecDepth 100000 in
theorem s_X5_which_9 {d : Nat} {l0 l1 l2 l3 l4 : AV} {st : List AV} {σ : Sg} {Q : AV → Sg → Prop}  : Rn d m_X5_which 9 [l0, l1, l2, l3, l4] st σ Q ↔ Rn d m_X5_which 12 [l0, l1, l2, l3, l4] (vI 144 :: st) σ Q := q0 (show fnd (pgm m_X5_which) 9 = some (12, 0, 144, 2, 0, []) from rfl)
set_option maxRecDepth 100000 in
theorem s_X5_which_12 {d : Nat} {l0 l1 l2 l3 l4 : AV} {st : List AV}  {a0 : Int} {a1 : Int} {σ : Sg} {Q : AV → Sg → Prop} (h4 : st.length ≤ 4) : Rn d m_X5_which 12 [l0, l1, l2, l3, l4] (vI a1 :: vI a0 :: st) σ Q ↔ ∃ r σ1, Ev d m_X5_within [vI a0, vI a1] σ r σ1 ∧ Rn d m_X5_which 15 [l0, l1, l2, l3, l4] (psh r st) σ1 Q := q35 (show fnd (pgm m_X5_which) 12 = some (15, 35, 80, 89, 2, []) from rfl) ⟨⟨by simp, by simpa using h4⟩, rfl⟩
set_option maxRecDepth 100000 in
theorem s_X5_which_15 {d : Nat} {l0 l1 l2 l3 l4 : AV} {st : List AV} {a : Int} {σ : Sg} {Q : AV → Sg → Prop}  : Rn d m_X5_which 15 [l0, l1, l2, l3, l4] (vI a :: st) σ Q ↔ if w32 a = 0 then Rn d m_X5_which 34 [l0, l1, l2, l3, l4] st σ Q else Rn d m_X5_which 18 [l0, l1, l2, l3, l4] st σ Q := q19_0 (show fnd (pgm m_X5_which) 15 = some (18, 19, 0, 0, 34, []) from rfl)
set_option maxRecDepth 100000 in
theorem s_X5_which_18 {d : Nat} {l0 l1 l2 l4 : AV} {st : List AV} {x : Int} {σ : Sg} {Q : AV → Sg → Prop}  : Rn d m_X5_which 18 [l0, l1, l2, vI x, l4] st σ Q ↔ Rn d m_X5_which 19 [l0, l1, l2, vI x, l4] (vI x :: st) σ Q := q3 (show fnd (pgm m_X5_which) 18 = some (19, 3, 0, 3, 0, []) from rfl) rfl
set_option maxRecDepth 100000 in
theorem s_X5_which_19 {d : Nat} {l0 l1 l2 l3 l4 : AV} {st : List AV} {σ : Sg} {Q : AV → Sg → Prop}  : Rn d m_X5_which 19 [l0, l1, l2, l3, l4] st σ Q ↔ Rn d m_X5_which 20 [l0, l1, l2, l3, l4] (vI 4 :: st) σ Q := q0 (show fnd (pgm m_X5_which) 19 = some (20, 0, 4, 0, 0, []) from rfl)
set_option maxRecDepth 100000 in
theorem s_X5_which_20 {d : Nat} {l0 l1 l2 l3 l4 : AV} {st : List AV}  {a0 : Int} {a1 : Int} {σ : Sg} {Q : AV → Sg → Prop} (h4 : st.length ≤ 4) : Rn d m_X5_which 20 [l0, l1, l2, l3, l4] (vI a1 :: vI a0 :: st) σ Q ↔ ∃ r σ1, Ev d m_X5_within [vI a0, vI a1] σ r σ1 ∧ Rn d m_X5_which 23 [l0, l1, l2, l3, l4] (psh r st) σ1 Q := q35 (show fnd (pgm m_X5_which) 20 = some (23, 35, 80, 89, 2, []) from rfl) ⟨⟨by simp, by simpa using h4⟩, rfl⟩
set_option maxRecDepth 100000 in
theorem s_X5_which_23 {d : Nat} {l0 l1 l2 l3 l4 : AV} {st : List AV} {a : Int} {σ : Sg} {Q : AV → Sg → Prop}  : Rn d m_X5_which 23 [l0, l1, l2, l3, l4] (vI a :: st) σ Q ↔ if w32 a = 0 then Rn d m_X5_which 34 [l0, l1, l2, l3, l4] st σ Q else Rn d m_X5_which 26 [l0, l1, l2, l3, l4] st σ Q := q19_0 (show fnd (pgm m_X5_which) 23 = some (26, 19, 0, 0, 34, []) from rfl)
set_option maxRecDepth 100000 in
theorem s_X5_which_26 {d : Nat} {l0 l1 l2 l3 : AV} {st : List AV} {x : Int} {σ : Sg} {Q : AV → Sg → Prop}  : Rn d m_X5_which 26 [l0, l1, l2, l3, vI x] st σ Q ↔ Rn d m_X5_which 28 [l0, l1, l2, l3, vI x] (vI x :: st) σ Q := q3 (show fnd (pgm m_X5_which) 26 = some (28, 3, 0, 4, 1, []) from rfl) rfl
set_option maxRecDepth 100000 in
theorem s_X5_which_28 {d : Nat} {l0 l1 l2 l3 l4 : AV} {st : List AV}  {a0 : Int} {σ : Sg} {Q : AV → Sg → Prop} (h4 : st.length ≤ 4) : Rn d m_X5_which 28 [l0, l1, l2, l3, l4] (vI a0 :: st) σ Q ↔ ∃ r σ1, Ev d m_X5_isBehind [vI a0] σ r σ1 ∧ Rn d m_X5_which 31 [l0, l1, l2, l3, l4] (psh r st) σ1 Q := q35 (show fnd (pgm m_X5_which) 28 = some (31, 35, 135, 91, 1, []) from rfl) ⟨⟨by simp, by simpa using h4⟩, rfl⟩
set_option maxRecDepth 100000 in
theorem s_X5_which_31 {d : Nat} {l0 l1 l2 l3 l4 : AV} {st : List AV} {a : Int} {σ : Sg} {Q : AV → Sg → Prop}  : Rn d m_X5_which 31 [l0, l1, l2, l3, l4] (vI a :: st) σ Q ↔ if ¬ w32 a = 0 then Rn d m_X5_which 43 [l0, l1, l2, l3, l4] st σ Q else Rn d m_X5_which 34 [l0, l1, l2, l3, l4] st σ Q := q19_1 (show fnd (pgm m_X5_which) 31 = some (34, 19, 0, 1, 43, []) from rfl)
set_option maxRecDepth 100000 in
theorem s_X5_which_34 {d : Nat} {l1 l2 l3 l4 : AV} {st : List AV} {o : Nat} {σ : Sg} {Q : AV → Sg → Prop} (ho : o ≠ 0) : Rn d m_X5_which 34 [vR o, l1, l2, l3, l4] st σ Q ↔ Rn d m_X5_which 35 [vR o, l1, l2, l3, l4] (vR o :: st) σ Q := q5 (show fnd (pgm m_X5_which) 34 = some (35, 5, 0, 0, 0, []) from rfl) rfl ho
set_option maxRecDepth 100000 in
theorem s_X5_which_35 {d : Nat} {l0 l1 l2 l3 l4 : AV} {st : List AV} {σ : Sg} {Q : AV → Sg → Prop}  : Rn d m_X5_which 35 [l0, l1, l2, l3, l4] st σ Q ↔ Rn d m_X5_which 37 [l0, l1, l2, l3, l4] (vI (-2) :: st) σ Q := q0 (show fnd (pgm m_X5_which) 35 = some (37, 0, (-2), 1, 0, []) from rfl)
set_option maxRecDepth 100000 in
theorem s_X5_which_37 {d : Nat} {l0 l1 l2 l3 l4 : AV} {st : List AV} {σ : Sg} {Q : AV → Sg → Prop}  : Rn d m_X5_which 37 [l0, l1, l2, l3, l4] st σ Q ↔ Rn d m_X5_which 39 [l0, l1, l2, l3, l4] (vI (-2) :: st) σ Q := q0 (show fnd (pgm m_X5_which) 37 = some (39, 0, (-2), 1, 0, []) from rfl)
set_option maxRecDepth 100000 in
theorem s_X5_which_39 {d : Nat} {l0 l1 l2 l3 l4 : AV} {st : List AV} {o : Nat} {a0 : Int} {a1 : Int} {σ : Sg} {Q : AV → Sg → Prop} (h4 : st.length ≤ 4) (hk : kn σ o = (0, 5)) : Rn d m_X5_which 39 [l0, l1, l2, l3, l4] (vI a1 :: vI a0 :: vR o :: st) σ Q ↔ ∃ r σ1, Ev d m_X5_refuse [vR o, vI a0, vI a1] σ r σ1 ∧ Rn d m_X5_which 42 [l0, l1, l2, l3, l4] (psh r st) σ1 Q := q35 (show fnd (pgm m_X5_which) 39 = some (42, 35, 84, 92, 3, []) from rfl) ⟨⟨by simp, by simpa using h4⟩, (by simp only [List.take, List.reverse, List.reverseAux, rcv]; rw [if_neg (by decide +kernel)]; exact decide_eq_true hk)⟩
set_option maxRecDepth 100000 in
theorem s_X5_which_42 {d : Nat} {l0 l1 l2 l3 l4 : AV} {x : Int} {σ : Sg} {Q : AV → Sg → Prop}  : Rn d m_X5_which 42 [l0, l1, l2, l3, l4] [vI x] σ Q ↔ Q (vI x) σ := q37_1 (st := []) (show fnd (pgm m_X5_which) 42 = some (43, 37, 0, 1, 0, []) from rfl)
set_option maxRecDepth 100000 in
theorem s_X5_which_43 {d : Nat} {l1 l2 l3 l4 : AV} {st : List AV} {o : Nat} {σ : Sg} {Q : AV → Sg → Prop} (ho : o ≠ 0) : Rn d m_X5_which 43 [vR o, l1, l2, l3, l4] st σ Q ↔ Rn d m_X5_which 44 [vR o, l1, l2, l3, l4] (vR o :: st) σ Q := q5 (show fnd (pgm m_X5_which) 43 = some (44, 5, 0, 0, 0, []) from rfl) rfl ho
set_option maxRecDepth 100000 in
theorem s_X5_which_44 {d : Nat} {l0 l1 l2 l3 : AV} {st : List AV} {x : Int} {σ : Sg} {Q : AV → Sg → Prop}  : Rn d m_X5_which 44 [l0, l1, l2, l3, vI x] st σ Q ↔ Rn d m_X5_which 46 [l0, l1, l2, l3, vI x] (vI x :: st) σ Q := q3 (show fnd (pgm m_X5_which) 44 = some (46, 3, 0, 4, 1, []) from rfl) rfl
set_option maxRecDepth 100000 in
theorem s_X5_which_46 {d : Nat} {l0 l1 l2 l3 l4 : AV} {st : List AV} {o : Nat} {a0 : Int} {σ : Sg} {Q : AV → Sg → Prop} (h4 : st.length ≤ 4) (hk : kn σ o = (0, 5)) : Rn d m_X5_which 46 [l0, l1, l2, l3, l4] (vI a0 :: vR o :: st) σ Q ↔ ∃ r σ1, Ev d m_X5_walkAll [vR o, vI a0] σ r σ1 ∧ Rn d m_X5_which 49 [l0, l1, l2, l3, l4] (psh r st) σ1 Q := q35 (show fnd (pgm m_X5_which) 46 = some (49, 35, 138, 93, 2, []) from rfl) ⟨⟨by simp, by simpa using h4⟩, (by simp only [List.take, List.reverse, List.reverseAux, rcv]; rw [if_neg (by decide +kernel)]; exact decide_eq_true hk)⟩
set_option maxRecDepth 100000 in
theorem s_X5_which_49 {d : Nat} {l1 l2 l3 l4 : AV} {st : List AV} {o : Nat} {σ : Sg} {Q : AV → Sg → Prop} (ho : o ≠ 0) : Rn d m_X5_which 49 [vR o, l1, l2, l3, l4] st σ Q ↔ Rn d m_X5_which 50 [vR o, l1, l2, l3, l4] (vR o :: st) σ Q := q5 (show fnd (pgm m_X5_which) 49 = some (50, 5, 0, 0, 0, []) from rfl) rfl ho
set_option maxRecDepth 100000 in
theorem s_X5_which_50 {d : Nat} {l0 l1 l2 l3 l4 : AV} {st : List AV} {o : Nat} {σ : Sg} {Q : AV → Sg → Prop} (hk : kn σ o = (0, 5)) : Rn d m_X5_which 50 [l0, l1, l2, l3, l4] (vR o :: st) σ Q ↔ Rn d m_X5_which 53 [l0, l1, l2, l3, l4] (vR (tp o 3) :: st) σ Q := q33 (show fnd (pgm m_X5_which) 50 = some (53, 33, 27, 5, 3, []) from rfl) hk
set_option maxRecDepth 100000 in
theorem s_X5_which_53 {d : Nat} {l0 l2 l3 l4 : AV} {st : List AV} {x : Int} {σ : Sg} {Q : AV → Sg → Prop}  : Rn d m_X5_which 53 [l0, vI x, l2, l3, l4] st σ Q ↔ Rn d m_X5_which 54 [l0, vI x, l2, l3, l4] (vI x :: st) σ Q := q3 (show fnd (pgm m_X5_which) 53 = some (54, 3, 0, 1, 0, []) from rfl) rfl
set_option maxRecDepth 100000 in
theorem s_X5_which_54 {d : Nat} {l0 l1 l3 l4 : AV} {st : List AV} {x : Int} {σ : Sg} {Q : AV → Sg → Prop}  : Rn d m_X5_which 54 [l0, l1, vI x, l3, l4] st σ Q ↔ Rn d m_X5_which 55 [l0, l1, vI x, l3, l4] (vI x :: st) σ Q := q3 (show fnd (pgm m_X5_which) 54 = some (55, 3, 0, 2, 0, []) from rfl) rfl
set_option maxRecDepth 100000 in
theorem s_X5_which_55 {d : Nat} {l0 l1 l2 l4 : AV} {st : List AV} {x : Int} {σ : Sg} {Q : AV → Sg → Prop}  : Rn d m_X5_which 55 [l0, l1, l2, vI x, l4] st σ Q ↔ Rn d m_X5_which 56 [l0, l1, l2, vI x, l4] (vI x :: st) σ Q := q3 (show fnd (pgm m_X5_which) 55 = some (56, 3, 0, 3, 0, []) from rfl) rfl
set_option maxRecDepth 100000 in
theorem s_X5_which_56 {d : Nat} {l0 l1 l2 l3 l4 : AV} {st : List AV} {o : Nat} {a0 : Int} {a1 : Int} {a2 : Int} {σ : Sg} {Q : AV → Sg → Prop} (h4 : st.length ≤ 4) (hk : kn σ o = (0, 4)) : Rn d m_X5_which 56 [l0, l1, l2, l3, l4] (vI a2 :: vI a1 :: vI a0 :: vR o :: st) σ Q ↔ ∃ r σ1, Ev d m_X4_nightsOfStep [vR o, vI a0, vI a1, vI a2] σ r σ1 ∧ Rn d m_X5_which 59 [l0, l1, l2, l3, l4] (psh r st) σ1 Q := q35 (show fnd (pgm m_X5_which) 56 = some (59, 35, 159, 48, 4, []) from rfl) ⟨⟨by simp, by simpa using h4⟩, (by simp only [List.take, List.reverse, List.reverseAux, rcv]; rw [if_neg (by decide +kernel)]; exact decide_eq_true hk)⟩
set_option maxRecDepth 100000 in
theorem s_X5_which_59 {d : Nat} {l0 l1 l2 l3 l4 : AV} {x : Int} {σ : Sg} {Q : AV → Sg → Prop}  : Rn d m_X5_which 59 [l0, l1, l2, l3, l4] [vI x] σ Q ↔ Q (vI x) σ := q37_1 (st := []) (show fnd (pgm m_X5_which) 59 = some (60, 37, 0, 1, 0, []) from rfl)
set_option maxRecDepth 100000 in
theorem en_X5_found {d : Nat} {o : Nat} {a0 : Int} {a1 : Int} {a2 : Int} {σ σ0 : Sg} {r0 : AV} (h : Rn d m_X5_found 0 [vR o, vI a0, vI a1, vI a2] [] σ (fun r σ1 => r = r0 ∧ σ1 = σ0)) : Ev (d + 1) m_X5_found [vR o, vI a0, vI a1, vI a2] σ r0 σ0 := Ev_is (Nat.le_of_ble_eq_true rfl) h
set_option maxRecDepth 100000 in
theorem eo_X5_found {d : Nat} {o : Nat} {a0 : Int} {a1 : Int} {a2 : Int} {σ : Sg} {Q : AV → Sg → Prop} (h : Rn d m_X5_found 0 [vR o, vI a0, vI a1, vI a2] [] σ Q) : ∃ r σ1, Ev (d + 1) m_X5_found [vR o, vI a0, vI a1, vI a2] σ r σ1 ∧ Q r σ1 := Ev_of (Nat.le_of_ble_eq_true rfl) h
set_option maxRecDepth 100000 in
theorem s_X5_found_0 {d : Nat} {l0 l2 l3 : AV} {st : List AV} {x : Int} {σ : Sg} {Q : AV → Sg → Prop}  : Rn d m_X5_found 0 [l0, vI x, l2, l3] st σ Q ↔ Rn d m_X5_found 1 [l0, vI x, l2, l3] (vI x :: st) σ Q := q3 (show fnd (pgm m_X5_found) 0 = some (1, 3, 0, 1, 0, []) from rfl) rfl
set_option maxRecDepth 100000 in
theorem s_X5_found_1 {d : Nat} {l0 l1 l2 l3 : AV} {st : List AV} {σ : Sg} {Q : AV → Sg → Prop}  : Rn d m_X5_found 1 [l0, l1, l2, l3] st σ Q ↔ Rn d m_X5_found 3 [l0, l1, l2, l3] (vI 20 :: st) σ Q := q0 (show fnd (pgm m_X5_found) 1 = some (3, 0, 20, 1, 0, []) from rfl)
set_option maxRecDepth 100000 in
theorem s_X5_found_3 {d : Nat} {l0 l1 l2 l3 : AV} {st : List AV}  {a0 : Int} {a1 : Int} {σ : Sg} {Q : AV → Sg → Prop} (h4 : st.length ≤ 4) : Rn d m_X5_found 3 [l0, l1, l2, l3] (vI a1 :: vI a0 :: st) σ Q ↔ ∃ r σ1, Ev d m_X5_within [vI a0, vI a1] σ r σ1 ∧ Rn d m_X5_found 6 [l0, l1, l2, l3] (psh r st) σ1 Q := q35 (show fnd (pgm m_X5_found) 3 = some (6, 35, 80, 89, 2, []) from rfl) ⟨⟨by simp, by simpa using h4⟩, rfl⟩
set_option maxRecDepth 100000 in
theorem s_X5_found_6 {d : Nat} {l0 l1 l2 l3 : AV} {st : List AV} {a : Int} {σ : Sg} {Q : AV → Sg → Prop}  : Rn d m_X5_found 6 [l0, l1, l2, l3] (vI a :: st) σ Q ↔ if w32 a = 0 then Rn d m_X5_found 27 [l0, l1, l2, l3] st σ Q else Rn d m_X5_found 9 [l0, l1, l2, l3] st σ Q := q19_0 (show fnd (pgm m_X5_found) 6 = some (9, 19, 0, 0, 27, []) from rfl)
set_option maxRecDepth 100000 in
theorem s_X5_found_9 {d : Nat} {l1 l2 l3 : AV} {st : List AV} {o : Nat} {σ : Sg} {Q : AV → Sg → Prop} (ho : o ≠ 0) : Rn d m_X5_found 9 [vR o, l1, l2, l3] st σ Q ↔ Rn d m_X5_found 10 [vR o, l1, l2, l3] (vR o :: st) σ Q := q5 (show fnd (pgm m_X5_found) 9 = some (10, 5, 0, 0, 0, []) from rfl) rfl ho
set_option maxRecDepth 100000 in
theorem s_X5_found_10 {d : Nat} {l0 l1 l3 : AV} {st : List AV} {x : Int} {σ : Sg} {Q : AV → Sg → Prop}  : Rn d m_X5_found 10 [l0, l1, vI x, l3] st σ Q ↔ Rn d m_X5_found 11 [l0, l1, vI x, l3] (vI x :: st) σ Q := q3 (show fnd (pgm m_X5_found) 10 = some (11, 3, 0, 2, 0, []) from rfl) rfl
set_option maxRecDepth 100000 in
theorem s_X5_found_11 {d : Nat} {l0 l1 l2 l3 : AV} {st : List AV} {o : Nat} {a0 : Int} {σ : Sg} {Q : AV → Sg → Prop} (h4 : st.length ≤ 4) (hk : kn σ o = (0, 5)) : Rn d m_X5_found 11 [l0, l1, l2, l3] (vI a0 :: vR o :: st) σ Q ↔ ∃ r σ1, Ev d m_X5_isStone [vR o, vI a0] σ r σ1 ∧ Rn d m_X5_found 14 [l0, l1, l2, l3] (psh r st) σ1 Q := q35 (show fnd (pgm m_X5_found) 11 = some (14, 35, 129, 90, 2, []) from rfl) ⟨⟨by simp, by simpa using h4⟩, (by simp only [List.take, List.reverse, List.reverseAux, rcv]; rw [if_neg (by decide +kernel)]; exact decide_eq_true hk)⟩
set_option maxRecDepth 100000 in
theorem s_X5_found_14 {d : Nat} {l0 l1 l2 l3 : AV} {st : List AV} {a : Int} {σ : Sg} {Q : AV → Sg → Prop}  : Rn d m_X5_found 14 [l0, l1, l2, l3] (vI a :: st) σ Q ↔ if w32 a = 0 then Rn d m_X5_found 27 [l0, l1, l2, l3] st σ Q else Rn d m_X5_found 17 [l0, l1, l2, l3] st σ Q := q19_0 (show fnd (pgm m_X5_found) 14 = some (17, 19, 0, 0, 27, []) from rfl)
set_option maxRecDepth 100000 in
theorem s_X5_found_17 {d : Nat} {l0 l1 l2 : AV} {st : List AV} {x : Int} {σ : Sg} {Q : AV → Sg → Prop}  : Rn d m_X5_found 17 [l0, l1, l2, vI x] st σ Q ↔ Rn d m_X5_found 18 [l0, l1, l2, vI x] (vI x :: st) σ Q := q3 (show fnd (pgm m_X5_found) 17 = some (18, 3, 0, 3, 0, []) from rfl) rfl
set_option maxRecDepth 100000 in
theorem s_X5_found_18 {d : Nat} {l0 l1 l2 l3 : AV} {st : List AV} {σ : Sg} {Q : AV → Sg → Prop}  : Rn d m_X5_found 18 [l0, l1, l2, l3] st σ Q ↔ Rn d m_X5_found 21 [l0, l1, l2, l3] (vI 144 :: st) σ Q := q0 (show fnd (pgm m_X5_found) 18 = some (21, 0, 144, 2, 0, []) from rfl)
set_option maxRecDepth 100000 in
theorem s_X5_found_21 {d : Nat} {l0 l1 l2 l3 : AV} {st : List AV}  {a0 : Int} {a1 : Int} {σ : Sg} {Q : AV → Sg → Prop} (h4 : st.length ≤ 4) : Rn d m_X5_found 21 [l0, l1, l2, l3] (vI a1 :: vI a0 :: st) σ Q ↔ ∃ r σ1, Ev d m_X5_within [vI a0, vI a1] σ r σ1 ∧ Rn d m_X5_found 24 [l0, l1, l2, l3] (psh r st) σ1 Q := q35 (show fnd (pgm m_X5_found) 21 = some (24, 35, 80, 89, 2, []) from rfl) ⟨⟨by simp, by simpa using h4⟩, rfl⟩
set_option maxRecDepth 100000 in
theorem s_X5_found_24 {d : Nat} {l0 l1 l2 l3 : AV} {st : List AV} {a : Int} {σ : Sg} {Q : AV → Sg → Prop}  : Rn d m_X5_found 24 [l0, l1, l2, l3] (vI a :: st) σ Q ↔ if ¬ w32 a = 0 then Rn d m_X5_found 36 [l0, l1, l2, l3] st σ Q else Rn d m_X5_found 27 [l0, l1, l2, l3] st σ Q := q19_1 (show fnd (pgm m_X5_found) 24 = some (27, 19, 0, 1, 36, []) from rfl)
set_option maxRecDepth 100000 in
theorem s_X5_found_27 {d : Nat} {l1 l2 l3 : AV} {st : List AV} {o : Nat} {σ : Sg} {Q : AV → Sg → Prop} (ho : o ≠ 0) : Rn d m_X5_found 27 [vR o, l1, l2, l3] st σ Q ↔ Rn d m_X5_found 28 [vR o, l1, l2, l3] (vR o :: st) σ Q := q5 (show fnd (pgm m_X5_found) 27 = some (28, 5, 0, 0, 0, []) from rfl) rfl ho
set_option maxRecDepth 100000 in
theorem s_X5_found_28 {d : Nat} {l0 l1 l2 l3 : AV} {st : List AV} {σ : Sg} {Q : AV → Sg → Prop}  : Rn d m_X5_found 28 [l0, l1, l2, l3] st σ Q ↔ Rn d m_X5_found 30 [l0, l1, l2, l3] (vI (-2) :: st) σ Q := q0 (show fnd (pgm m_X5_found) 28 = some (30, 0, (-2), 1, 0, []) from rfl)
set_option maxRecDepth 100000 in
theorem s_X5_found_30 {d : Nat} {l0 l1 l2 l3 : AV} {st : List AV} {σ : Sg} {Q : AV → Sg → Prop}  : Rn d m_X5_found 30 [l0, l1, l2, l3] st σ Q ↔ Rn d m_X5_found 32 [l0, l1, l2, l3] (vI (-2) :: st) σ Q := q0 (show fnd (pgm m_X5_found) 30 = some (32, 0, (-2), 1, 0, []) from rfl)
set_option maxRecDepth 100000 in
theorem s_X5_found_32 {d : Nat} {l0 l1 l2 l3 : AV} {st : List AV} {o : Nat} {a0 : Int} {a1 : Int} {σ : Sg} {Q : AV → Sg → Prop} (h4 : st.length ≤ 4) (hk : kn σ o = (0, 5)) : Rn d m_X5_found 32 [l0, l1, l2, l3] (vI a1 :: vI a0 :: vR o :: st) σ Q ↔ ∃ r σ1, Ev d m_X5_refuse [vR o, vI a0, vI a1] σ r σ1 ∧ Rn d m_X5_found 35 [l0, l1, l2, l3] (psh r st) σ1 Q := q35 (show fnd (pgm m_X5_found) 32 = some (35, 35, 84, 92, 3, []) from rfl) ⟨⟨by simp, by simpa using h4⟩, (by simp only [List.take, List.reverse, List.reverseAux, rcv]; rw [if_neg (by decide +kernel)]; exact decide_eq_true hk)⟩
set_option maxRecDepth 100000 in
theorem s_X5_found_35 {d : Nat} {l0 l1 l2 l3 : AV} {x : Int} {σ : Sg} {Q : AV → Sg → Prop}  : Rn d m_X5_found 35 [l0, l1, l2, l3] [vI x] σ Q ↔ Q (vI x) σ := q37_1 (st := []) (show fnd (pgm m_X5_found) 35 = some (36, 37, 0, 1, 0, []) from rfl)
set_option maxRecDepth 100000 in
theorem s_X5_found_36 {d : Nat} {l1 l2 l3 : AV} {st : List AV} {o : Nat} {σ : Sg} {Q : AV → Sg → Prop} (ho : o ≠ 0) : Rn d m_X5_found 36 [vR o, l1, l2, l3] st σ Q ↔ Rn d m_X5_found 37 [vR o, l1, l2, l3] (vR o :: st) σ Q := q5 (show fnd (pgm m_X5_found) 36 = some (37, 5, 0, 0, 0, []) from rfl) rfl ho
set_option maxRecDepth 100000 in
theorem s_X5_found_37 {d : Nat} {l0 l1 l2 l3 : AV} {st : List AV} {o : Nat} {σ : Sg} {Q : AV → Sg → Prop} (hk : kn σ o = (0, 5)) : Rn d m_X5_found 37 [l0, l1, l2, l3] (vR o :: st) σ Q ↔ Rn d m_X5_found 40 [l0, l1, l2, l3] (vR (tp o 0) :: st) σ Q := q33 (show fnd (pgm m_X5_found) 37 = some (40, 33, 12, 5, 0, []) from rfl) hk
set_option maxRecDepth 100000 in
theorem s_X5_found_40 {d : Nat} {l0 l2 l3 : AV} {st : List AV} {x : Int} {σ : Sg} {Q : AV → Sg → Prop}  : Rn d m_X5_found 40 [l0, vI x, l2, l3] st σ Q ↔ Rn d m_X5_found 41 [l0, vI x, l2, l3] (vI x :: st) σ Q := q3 (show fnd (pgm m_X5_found) 40 = some (41, 3, 0, 1, 0, []) from rfl) rfl
set_option maxRecDepth 100000 in
theorem s_X5_found_41 {d : Nat} {l0 l1 l3 : AV} {st : List AV} {x : Int} {σ : Sg} {Q : AV → Sg → Prop}  : Rn d m_X5_found 41 [l0, l1, vI x, l3] st σ Q ↔ Rn d m_X5_found 42 [l0, l1, vI x, l3] (vI x :: st) σ Q := q3 (show fnd (pgm m_X5_found) 41 = some (42, 3, 0, 2, 0, []) from rfl) rfl
set_option maxRecDepth 100000 in
theorem s_X5_found_42 {d : Nat} {l0 l1 l2 : AV} {st : List AV} {x : Int} {σ : Sg} {Q : AV → Sg → Prop}  : Rn d m_X5_found 42 [l0, l1, l2, vI x] st σ Q ↔ Rn d m_X5_found 43 [l0, l1, l2, vI x] (vI x :: st) σ Q := q3 (show fnd (pgm m_X5_found) 42 = some (43, 3, 0, 3, 0, []) from rfl) rfl
set_option maxRecDepth 100000 in
theorem s_X5_found_43 {d : Nat} {l0 l1 l2 l3 : AV} {st : List AV} {o : Nat} {a0 : Int} {a1 : Int} {a2 : Int} {σ : Sg} {Q : AV → Sg → Prop} (h4 : st.length ≤ 4) (hk : kn σ o = (0, 0)) : Rn d m_X5_found 43 [l0, l1, l2, l3] (vI a2 :: vI a1 :: vI a0 :: vR o :: st) σ Q ↔ ∃ r σ1, Ev d m_X0_tellFound [vR o, vI a0, vI a1, vI a2] σ r σ1 ∧ Rn d m_X5_found 46 [l0, l1, l2, l3] (psh r st) σ1 Q := q35 (show fnd (pgm m_X5_found) 43 = some (46, 35, 162, 5, 4, []) from rfl) ⟨⟨by simp, by simpa using h4⟩, (by simp only [List.take, List.reverse, List.reverseAux, rcv]; rw [if_neg (by decide +kernel)]; exact decide_eq_true hk)⟩
set_option maxRecDepth 100000 in
theorem s_X5_found_46 {d : Nat} {l0 l1 l2 l3 : AV} {st : List AV} {σ : Sg} {Q : AV → Sg → Prop}  : Rn d m_X5_found 46 [l0, l1, l2, l3] st σ Q ↔ Rn d m_X5_found 47 [l0, l1, l2, l3] (vI 1 :: st) σ Q := q0 (show fnd (pgm m_X5_found) 46 = some (47, 0, 1, 0, 0, []) from rfl)
set_option maxRecDepth 100000 in
theorem s_X5_found_47 {d : Nat} {l0 l1 l2 l3 : AV} {x : Int} {σ : Sg} {Q : AV → Sg → Prop}  : Rn d m_X5_found 47 [l0, l1, l2, l3] [vI x] σ Q ↔ Q (vI x) σ := q37_1 (st := []) (show fnd (pgm m_X5_found) 47 = some (48, 37, 0, 1, 0, []) from rfl)
set_option maxRecDepth 100000 in
theorem en_X5_proof {d : Nat} {o : Nat} {σ σ0 : Sg} {r0 : AV} (h : Rn d m_X5_proof 0 [vR o] [] σ (fun r σ1 => r = r0 ∧ σ1 = σ0)) : Ev (d + 1) m_X5_proof [vR o] σ r0 σ0 := Ev_is (Nat.le_of_ble_eq_true rfl) h
set_option maxRecDepth 100000 in
theorem eo_X5_proof {d : Nat} {o : Nat} {σ : Sg} {Q : AV → Sg → Prop} (h : Rn d m_X5_proof 0 [vR o] [] σ Q) : ∃ r σ1, Ev (d + 1) m_X5_proof [vR o] σ r σ1 ∧ Q r σ1 := Ev_of (Nat.le_of_ble_eq_true rfl) h
set_option maxRecDepth 100000 in
theorem s_X5_proof_0 {d : Nat} {st : List AV} {o : Nat} {σ : Sg} {Q : AV → Sg → Prop} (ho : o ≠ 0) : Rn d m_X5_proof 0 [vR o] st σ Q ↔ Rn d m_X5_proof 1 [vR o] (vR o :: st) σ Q := q5 (show fnd (pgm m_X5_proof) 0 = some (1, 5, 0, 0, 0, []) from rfl) rfl ho
set_option maxRecDepth 100000 in
theorem s_X5_proof_1 {d : Nat} {st : List AV} {o : Nat} {σ : Sg} {Q : AV → Sg → Prop} (ho : o ≠ 0) : Rn d m_X5_proof 1 [vR o] st σ Q ↔ Rn d m_X5_proof 2 [vR o] (vR o :: st) σ Q := q5 (show fnd (pgm m_X5_proof) 1 = some (2, 5, 0, 0, 0, []) from rfl) rfl ho
set_option maxRecDepth 100000 in
theorem s_X5_proof_2 {d : Nat} {l0 : AV} {st : List AV} {o : Nat} {σ : Sg} {Q : AV → Sg → Prop} (hk : kn σ o = (0, 5)) : Rn d m_X5_proof 2 [l0] (vR o :: st) σ Q ↔ Rn d m_X5_proof 5 [l0] (vR (tp o 0) :: st) σ Q := q33 (show fnd (pgm m_X5_proof) 2 = some (5, 33, 12, 5, 0, []) from rfl) hk
set_option maxRecDepth 100000 in
theorem s_X5_proof_5 {d : Nat} {l0 : AV} {st : List AV} {o : Nat} {σ : Sg} {Q : AV → Sg → Prop} (hk : kn σ o = (0, 0)) : Rn d m_X5_proof 5 [l0] (vR o :: st) σ Q ↔ Rn d m_X5_proof 8 [l0] (vI (σ o 10) :: st) σ Q := q33 (show fnd (pgm m_X5_proof) 5 = some (8, 33, 166, 0, 10, []) from rfl) hk
set_option maxRecDepth 100000 in
theorem s_X5_proof_8 {d : Nat} {l0 : AV} {st : List AV} {o : Nat} {a0 : Int} {σ : Sg} {Q : AV → Sg → Prop} (h4 : st.length ≤ 4) (hk : kn σ o = (0, 5)) : Rn d m_X5_proof 8 [l0] (vI a0 :: vR o :: st) σ Q ↔ ∃ r σ1, Ev d m_X5_walkAll [vR o, vI a0] σ r σ1 ∧ Rn d m_X5_proof 11 [l0] (psh r st) σ1 Q := q35 (show fnd (pgm m_X5_proof) 8 = some (11, 35, 138, 93, 2, []) from rfl) ⟨⟨by simp, by simpa using h4⟩, (by simp only [List.take, List.reverse, List.reverseAux, rcv]; rw [if_neg (by decide +kernel)]; exact decide_eq_true hk)⟩
set_option maxRecDepth 100000 in
theorem s_X5_proof_11 {d : Nat} {st : List AV} {o : Nat} {σ : Sg} {Q : AV → Sg → Prop} (ho : o ≠ 0) : Rn d m_X5_proof 11 [vR o] st σ Q ↔ Rn d m_X5_proof 12 [vR o] (vR o :: st) σ Q := q5 (show fnd (pgm m_X5_proof) 11 = some (12, 5, 0, 0, 0, []) from rfl) rfl ho
set_option maxRecDepth 100000 in
theorem s_X5_proof_12 {d : Nat} {l0 : AV} {st : List AV} {o : Nat} {σ : Sg} {Q : AV → Sg → Prop} (hk : kn σ o = (0, 5)) : Rn d m_X5_proof 12 [l0] (vR o :: st) σ Q ↔ Rn d m_X5_proof 15 [l0] (vR (tp o 0) :: st) σ Q := q33 (show fnd (pgm m_X5_proof) 12 = some (15, 33, 12, 5, 0, []) from rfl) hk
set_option maxRecDepth 100000 in
theorem s_X5_proof_15 {d : Nat} {st : List AV} {o : Nat} {σ : Sg} {Q : AV → Sg → Prop} (ho : o ≠ 0) : Rn d m_X5_proof 15 [vR o] st σ Q ↔ Rn d m_X5_proof 16 [vR o] (vR o :: st) σ Q := q5 (show fnd (pgm m_X5_proof) 15 = some (16, 5, 0, 0, 0, []) from rfl) rfl ho
set_option maxRecDepth 100000 in
theorem s_X5_proof_16 {d : Nat} {l0 : AV} {st : List AV} {o : Nat} {σ : Sg} {Q : AV → Sg → Prop} (hk : kn σ o = (0, 5)) : Rn d m_X5_proof 16 [l0] (vR o :: st) σ Q ↔ Rn d m_X5_proof 19 [l0] (vR (tp o 3) :: st) σ Q := q33 (show fnd (pgm m_X5_proof) 16 = some (19, 33, 27, 5, 3, []) from rfl) hk
set_option maxRecDepth 100000 in
theorem s_X5_proof_19 {d : Nat} {l0 : AV} {st : List AV} {o : Nat} {σ : Sg} {Q : AV → Sg → Prop} (hk : kn σ o = (0, 4)) : Rn d m_X5_proof 19 [l0] (vR o :: st) σ Q ↔ Rn d m_X5_proof 22 [l0] (vR (tp o 0) :: st) σ Q := q33 (show fnd (pgm m_X5_proof) 19 = some (22, 33, 141, 4, 0, []) from rfl) hk
set_option maxRecDepth 100000 in
theorem s_X5_proof_22 {d : Nat} {l0 : AV} {st : List AV} {o : Nat} {a0 : Nat} {σ : Sg} {Q : AV → Sg → Prop} (h4 : st.length ≤ 4) (hk : kn σ o = (0, 0)) : Rn d m_X5_proof 22 [l0] (vR a0 :: vR o :: st) σ Q ↔ ∃ r σ1, Ev d m_X0_foundElsewhere [vR o, vR a0] σ r σ1 ∧ Rn d m_X5_proof 25 [l0] (psh r st) σ1 Q := q35 (show fnd (pgm m_X5_proof) 22 = some (25, 35, 169, 6, 2, []) from rfl) ⟨⟨by simp, by simpa using h4⟩, (by simp only [List.take, List.reverse, List.reverseAux, rcv]; rw [if_neg (by decide +kernel)]; exact decide_eq_true hk)⟩
set_option maxRecDepth 100000 in
theorem s_X5_proof_25 {d : Nat} {l0 : AV} {x : Int} {σ : Sg} {Q : AV → Sg → Prop}  : Rn d m_X5_proof 25 [l0] [vI x] σ Q ↔ Q (vI x) σ := q37_1 (st := []) (show fnd (pgm m_X5_proof) 25 = some (26, 37, 0, 1, 0, []) from rfl)
set_option maxRecDepth 100000 in
theorem en_X5_watch {d : Nat} {o : Nat} {a0 : Int} {σ σ0 : Sg} {r0 : AV} (h : Rn d m_X5_watch 0 [vR o, vI a0, none, none, none, none] [] σ (fun r σ1 => r = r0 ∧ σ1 = σ0)) : Ev (d + 1) m_X5_watch [vR o, vI a0] σ r0 σ0 := Ev_is (Nat.le_of_ble_eq_true rfl) h
set_option maxRecDepth 100000 in
theorem eo_X5_watch {d : Nat} {o : Nat} {a0 : Int} {σ : Sg} {Q : AV → Sg → Prop} (h : Rn d m_X5_watch 0 [vR o, vI a0, none, none, none, none] [] σ Q) : ∃ r σ1, Ev (d + 1) m_X5_watch [vR o, vI a0] σ r σ1 ∧ Q r σ1 := Ev_of (Nat.le_of_ble_eq_true rfl) h
set_option maxRecDepth 100000 in
theorem s_X5_watch_0 {d : Nat} {l0 l2 l3 l4 l5 : AV} {st : List AV} {x : Int} {σ : Sg} {Q : AV → Sg → Prop}  : Rn d m_X5_watch 0 [l0, vI x, l2, l3, l4, l5] st σ Q ↔ Rn d m_X5_watch 1 [l0, vI x, l2, l3, l4, l5] (vI x :: st) σ Q := q3 (show fnd (pgm m_X5_watch) 0 = some (1, 3, 0, 1, 0, []) from rfl) rfl
set_option maxRecDepth 100000 in
theorem s_X5_watch_1 {d : Nat} {l0 l1 l2 l3 l4 l5 : AV} {st : List AV} {σ : Sg} {Q : AV → Sg → Prop}  : Rn d m_X5_watch 1 [l0, l1, l2, l3, l4, l5] st σ Q ↔ Rn d m_X5_watch 3 [l0, l1, l2, l3, l4, l5] (vI 10 :: st) σ Q := q0 (show fnd (pgm m_X5_watch) 1 = some (3, 0, 10, 1, 0, []) from rfl)
set_option maxRecDepth 100000 in
theorem s_X5_watch_3 {d : Nat} {l0 l1 l2 l3 l4 l5 : AV} {st : List AV}  {a0 : Int} {a1 : Int} {σ : Sg} {Q : AV → Sg → Prop} (h4 : st.length ≤ 4) : Rn d m_X5_watch 3 [l0, l1, l2, l3, l4, l5] (vI a1 :: vI a0 :: st) σ Q ↔ ∃ r σ1, Ev d m_X5_within [vI a0, vI a1] σ r σ1 ∧ Rn d m_X5_watch 6 [l0, l1, l2, l3, l4, l5] (psh r st) σ1 Q := q35 (show fnd (pgm m_X5_watch) 3 = some (6, 35, 80, 89, 2, []) from rfl) ⟨⟨by simp, by simpa using h4⟩, rfl⟩
set_option maxRecDepth 100000 in
theorem s_X5_watch_6 {d : Nat} {l0 l1 l2 l3 l4 l5 : AV} {st : List AV} {a : Int} {σ : Sg} {Q : AV → Sg → Prop}  : Rn d m_X5_watch 6 [l0, l1, l2, l3, l4, l5] (vI a :: st) σ Q ↔ if ¬ w32 a = 0 then Rn d m_X5_watch 18 [l0, l1, l2, l3, l4, l5] st σ Q else Rn d m_X5_watch 9 [l0, l1, l2, l3, l4, l5] st σ Q := q19_1 (show fnd (pgm m_X5_watch) 6 = some (9, 19, 0, 1, 18, []) from rfl)
set_option maxRecDepth 100000 in
theorem s_X5_watch_9 {d : Nat} {l1 l2 l3 l4 l5 : AV} {st : List AV} {o : Nat} {σ : Sg} {Q : AV → Sg → Prop} (ho : o ≠ 0) : Rn d m_X5_watch 9 [vR o, l1, l2, l3, l4, l5] st σ Q ↔ Rn d m_X5_watch 10 [vR o, l1, l2, l3, l4, l5] (vR o :: st) σ Q := q5 (show fnd (pgm m_X5_watch) 9 = some (10, 5, 0, 0, 0, []) from rfl) rfl ho
set_option maxRecDepth 100000 in
theorem s_X5_watch_10 {d : Nat} {l0 l1 l2 l3 l4 l5 : AV} {st : List AV} {σ : Sg} {Q : AV → Sg → Prop}  : Rn d m_X5_watch 10 [l0, l1, l2, l3, l4, l5] st σ Q ↔ Rn d m_X5_watch 12 [l0, l1, l2, l3, l4, l5] (vI (-2) :: st) σ Q := q0 (show fnd (pgm m_X5_watch) 10 = some (12, 0, (-2), 1, 0, []) from rfl)
set_option maxRecDepth 100000 in
theorem s_X5_watch_12 {d : Nat} {l0 l1 l2 l3 l4 l5 : AV} {st : List AV} {σ : Sg} {Q : AV → Sg → Prop}  : Rn d m_X5_watch 12 [l0, l1, l2, l3, l4, l5] st σ Q ↔ Rn d m_X5_watch 14 [l0, l1, l2, l3, l4, l5] (vI (-2) :: st) σ Q := q0 (show fnd (pgm m_X5_watch) 12 = some (14, 0, (-2), 1, 0, []) from rfl)
set_option maxRecDepth 100000 in
theorem s_X5_watch_14 {d : Nat} {l0 l1 l2 l3 l4 l5 : AV} {st : List AV} {o : Nat} {a0 : Int} {a1 : Int} {σ : Sg} {Q : AV → Sg → Prop} (h4 : st.length ≤ 4) (hk : kn σ o = (0, 5)) : Rn d m_X5_watch 14 [l0, l1, l2, l3, l4, l5] (vI a1 :: vI a0 :: vR o :: st) σ Q ↔ ∃ r σ1, Ev d m_X5_refuse [vR o, vI a0, vI a1] σ r σ1 ∧ Rn d m_X5_watch 17 [l0, l1, l2, l3, l4, l5] (psh r st) σ1 Q := q35 (show fnd (pgm m_X5_watch) 14 = some (17, 35, 84, 92, 3, []) from rfl) ⟨⟨by simp, by simpa using h4⟩, (by simp only [List.take, List.reverse, List.reverseAux, rcv]; rw [if_neg (by decide +kernel)]; exact decide_eq_true hk)⟩
set_option maxRecDepth 100000 in
theorem s_X5_watch_17 {d : Nat} {l0 l1 l2 l3 l4 l5 : AV} {x : Int} {σ : Sg} {Q : AV → Sg → Prop}  : Rn d m_X5_watch 17 [l0, l1, l2, l3, l4, l5] [vI x] σ Q ↔ Q (vI x) σ := q37_1 (st := []) (show fnd (pgm m_X5_watch) 17 = some (18, 37, 0, 1, 0, []) from rfl)
set_option maxRecDepth 100000 in
theorem s_X5_watch_18 {d : Nat} {l1 l2 l3 l4 l5 : AV} {st : List AV} {o : Nat} {σ : Sg} {Q : AV → Sg → Prop} (ho : o ≠ 0) : Rn d m_X5_watch 18 [vR o, l1, l2, l3, l4, l5] st σ Q ↔ Rn d m_X5_watch 19 [vR o, l1, l2, l3, l4, l5] (vR o :: st) σ Q := q5 (show fnd (pgm m_X5_watch) 18 = some (19, 5, 0, 0, 0, []) from rfl) rfl ho
set_option maxRecDepth 100000 in
theorem s_X5_watch_19 {d : Nat} {l0 l2 l3 l4 l5 : AV} {st : List AV} {x : Int} {σ : Sg} {Q : AV → Sg → Prop}  : Rn d m_X5_watch 19 [l0, vI x, l2, l3, l4, l5] st σ Q ↔ Rn d m_X5_watch 20 [l0, vI x, l2, l3, l4, l5] (vI x :: st) σ Q := q3 (show fnd (pgm m_X5_watch) 19 = some (20, 3, 0, 1, 0, []) from rfl) rfl
set_option maxRecDepth 100000 in
theorem s_X5_watch_20 {d : Nat} {l0 l1 l2 l3 l4 l5 : AV} {st : List AV} {o : Nat} {a0 : Int} {σ : Sg} {Q : AV → Sg → Prop} (h4 : st.length ≤ 4) (hk : kn σ o = (0, 5)) : Rn d m_X5_watch 20 [l0, l1, l2, l3, l4, l5] (vI a0 :: vR o :: st) σ Q ↔ ∃ r σ1, Ev d m_X5_walkAll [vR o, vI a0] σ r σ1 ∧ Rn d m_X5_watch 23 [l0, l1, l2, l3, l4, l5] (psh r st) σ1 Q := q35 (show fnd (pgm m_X5_watch) 20 = some (23, 35, 138, 93, 2, []) from rfl) ⟨⟨by simp, by simpa using h4⟩, (by simp only [List.take, List.reverse, List.reverseAux, rcv]; rw [if_neg (by decide +kernel)]; exact decide_eq_true hk)⟩
set_option maxRecDepth 100000 in
theorem s_X5_watch_23 {d : Nat} {l1 l2 l3 l4 l5 : AV} {st : List AV} {o : Nat} {σ : Sg} {Q : AV → Sg → Prop} (ho : o ≠ 0) : Rn d m_X5_watch 23 [vR o, l1, l2, l3, l4, l5] st σ Q ↔ Rn d m_X5_watch 24 [vR o, l1, l2, l3, l4, l5] (vR o :: st) σ Q := q5 (show fnd (pgm m_X5_watch) 23 = some (24, 5, 0, 0, 0, []) from rfl) rfl ho
set_option maxRecDepth 100000 in
theorem s_X5_watch_24 {d : Nat} {l0 l1 l2 l3 l4 l5 : AV} {st : List AV} {o : Nat} {σ : Sg} {Q : AV → Sg → Prop} (hk : kn σ o = (0, 5)) : Rn d m_X5_watch 24 [l0, l1, l2, l3, l4, l5] (vR o :: st) σ Q ↔ Rn d m_X5_watch 27 [l0, l1, l2, l3, l4, l5] (vR (tp o 3) :: st) σ Q := q33 (show fnd (pgm m_X5_watch) 24 = some (27, 33, 27, 5, 3, []) from rfl) hk
set_option maxRecDepth 100000 in
theorem s_X5_watch_27 {d : Nat} {l0 l1 l2 l3 l4 l5 : AV} {st : List AV} {σ : Sg} {Q : AV → Sg → Prop}  : Rn d m_X5_watch 27 [l0, l1, l2, l3, l4, l5] st σ Q ↔ Rn d m_X5_watch 28 [l0, l1, l2, l3, l4, l5] (vI 1 :: st) σ Q := q0 (show fnd (pgm m_X5_watch) 27 = some (28, 0, 1, 0, 0, []) from rfl)
set_option maxRecDepth 100000 in
theorem s_X5_watch_28 {d : Nat} {l0 l2 l3 l4 l5 : AV} {st : List AV} {x : Int} {σ : Sg} {Q : AV → Sg → Prop}  : Rn d m_X5_watch 28 [l0, vI x, l2, l3, l4, l5] st σ Q ↔ Rn d m_X5_watch 29 [l0, vI x, l2, l3, l4, l5] (vI x :: st) σ Q := q3 (show fnd (pgm m_X5_watch) 28 = some (29, 3, 0, 1, 0, []) from rfl) rfl
set_option maxRecDepth 100000 in
theorem s_X5_watch_29 {d : Nat} {l0 l1 l2 l3 l4 l5 : AV} {st : List AV} {σ : Sg} {Q : AV → Sg → Prop}  : Rn d m_X5_watch 29 [l0, l1, l2, l3, l4, l5] st σ Q ↔ Rn d m_X5_watch 30 [l0, l1, l2, l3, l4, l5] (vI 1 :: st) σ Q := q0 (show fnd (pgm m_X5_watch) 29 = some (30, 0, 1, 0, 0, []) from rfl)
set_option maxRecDepth 100000 in
theorem s_X5_watch_30 {d : Nat} {l0 l1 l2 l3 l4 l5 : AV} {st : List AV} {a b : Int} {σ : Sg} {Q : AV → Sg → Prop}  : Rn d m_X5_watch 30 [l0, l1, l2, l3, l4, l5] (vI b :: vI a :: st) σ Q ↔ Rn d m_X5_watch 31 [l0, l1, l2, l3, l4, l5] (vI (a + b) :: st) σ Q := q10_0 (show fnd (pgm m_X5_watch) 30 = some (31, 10, 0, 0, 0, []) from rfl)
set_option maxRecDepth 100000 in
theorem s_X5_watch_31 {d : Nat} {l0 l1 l2 l3 l4 l5 : AV} {st : List AV} {a b : Int} {σ : Sg} {Q : AV → Sg → Prop}  : Rn d m_X5_watch 31 [l0, l1, l2, l3, l4, l5] (vI b :: vI a :: st) σ Q ↔ Rn d m_X5_watch 32 [l0, l1, l2, l3, l4, l5] (vI (shl32 a b) :: st) σ Q := q10_8 (show fnd (pgm m_X5_watch) 31 = some (32, 10, 0, 8, 0, []) from rfl)
set_option maxRecDepth 100000 in
theorem s_X5_watch_32 {d : Nat} {l0 l1 l2 l3 l4 l5 : AV} {st : List AV} {σ : Sg} {Q : AV → Sg → Prop}  : Rn d m_X5_watch 32 [l0, l1, l2, l3, l4, l5] st σ Q ↔ Rn d m_X5_watch 33 [l0, l1, l2, l3, l4, l5] (vI 1 :: st) σ Q := q0 (show fnd (pgm m_X5_watch) 32 = some (33, 0, 1, 0, 0, []) from rfl)
set_option maxRecDepth 100000 in
theorem s_X5_watch_33 {d : Nat} {l0 l1 l2 l3 l4 l5 : AV} {st : List AV} {a b : Int} {σ : Sg} {Q : AV → Sg → Prop}  : Rn d m_X5_watch 33 [l0, l1, l2, l3, l4, l5] (vI b :: vI a :: st) σ Q ↔ Rn d m_X5_watch 34 [l0, l1, l2, l3, l4, l5] (vI (a - b) :: st) σ Q := q10_1 (show fnd (pgm m_X5_watch) 33 = some (34, 10, 0, 1, 0, []) from rfl)
set_option maxRecDepth 100000 in
theorem s_X5_watch_34 {d : Nat} {l0 l1 l2 l3 l4 l5 : AV} {st : List AV} {o : Nat} {a0 : Int} {σ : Sg} {Q : AV → Sg → Prop} (h4 : st.length ≤ 4) (hk : kn σ o = (0, 4)) : Rn d m_X5_watch 34 [l0, l1, l2, l3, l4, l5] (vI a0 :: vR o :: st) σ Q ↔ ∃ r σ1, Ev d m_X4_movedAmong [vR o, vI a0] σ r σ1 ∧ Rn d m_X5_watch 37 [l0, l1, l2, l3, l4, l5] (psh r st) σ1 Q := q35 (show fnd (pgm m_X5_watch) 34 = some (37, 35, 173, 51, 2, []) from rfl) ⟨⟨by simp, by simpa using h4⟩, (by simp only [List.take, List.reverse, List.reverseAux, rcv]; rw [if_neg (by decide +kernel)]; exact decide_eq_true hk)⟩
set_option maxRecDepth 100000 in
theorem s_X5_watch_37 {d : Nat} {l0 l1 l2 l3 l4 l5 : AV} {st : List AV} {x : Int} {σ : Sg} {Q : AV → Sg → Prop}  : Rn d m_X5_watch 37 [l0, l1, l2, l3, l4, l5] (vI x :: st) σ Q ↔ Rn d m_X5_watch 38 [l0, l1, vI x, l3, l4, l5] st σ Q := q6 (show fnd (pgm m_X5_watch) 37 = some (38, 6, 0, 2, 0, []) from rfl) (by decide : 2 < 6)
set_option maxRecDepth 100000 in
theorem s_X5_watch_38 {d : Nat} {l0 l1 l2 l3 l4 l5 : AV} {st : List AV} {σ : Sg} {Q : AV → Sg → Prop}  : Rn d m_X5_watch 38 [l0, l1, l2, l3, l4, l5] st σ Q ↔ Rn d m_X5_watch 39 [l0, l1, l2, l3, l4, l5] (vI (-1) :: st) σ Q := q0 (show fnd (pgm m_X5_watch) 38 = some (39, 0, (-1), 0, 0, []) from rfl)
set_option maxRecDepth 100000 in
theorem s_X5_watch_39 {d : Nat} {l0 l1 l2 l3 l4 l5 : AV} {st : List AV} {x : Int} {σ : Sg} {Q : AV → Sg → Prop}  : Rn d m_X5_watch 39 [l0, l1, l2, l3, l4, l5] (vI x :: st) σ Q ↔ Rn d m_X5_watch 40 [l0, l1, l2, vI x, l4, l5] st σ Q := q6 (show fnd (pgm m_X5_watch) 39 = some (40, 6, 0, 3, 0, []) from rfl) (by decide : 3 < 6)
set_option maxRecDepth 100000 in
theorem s_X5_watch_40 {d : Nat} {l0 l1 l2 l3 l4 l5 : AV} {st : List AV} {σ : Sg} {Q : AV → Sg → Prop}  : Rn d m_X5_watch 40 [l0, l1, l2, l3, l4, l5] st σ Q ↔ Rn d m_X5_watch 41 [l0, l1, l2, l3, l4, l5] (vI 0 :: st) σ Q := q0 (show fnd (pgm m_X5_watch) 40 = some (41, 0, 0, 0, 0, []) from rfl)
set_option maxRecDepth 100000 in
theorem s_X5_watch_41 {d : Nat} {l0 l1 l2 l3 l4 l5 : AV} {st : List AV} {x : Int} {σ : Sg} {Q : AV → Sg → Prop}  : Rn d m_X5_watch 41 [l0, l1, l2, l3, l4, l5] (vI x :: st) σ Q ↔ Rn d m_X5_watch 43 [l0, l1, l2, l3, vI x, l5] st σ Q := q6 (show fnd (pgm m_X5_watch) 41 = some (43, 6, 0, 4, 1, []) from rfl) (by decide : 4 < 6)
set_option maxRecDepth 100000 in
theorem s_X5_watch_43 {d : Nat} {l0 l1 l2 l3 l5 : AV} {st : List AV} {x : Int} {σ : Sg} {Q : AV → Sg → Prop}  : Rn d m_X5_watch 43 [l0, l1, l2, l3, vI x, l5] st σ Q ↔ Rn d m_X5_watch 45 [l0, l1, l2, l3, vI x, l5] (vI x :: st) σ Q := q3 (show fnd (pgm m_X5_watch) 43 = some (45, 3, 0, 4, 1, []) from rfl) rfl
set_option maxRecDepth 100000 in
theorem s_X5_watch_45 {d : Nat} {l0 l1 l2 l3 l4 l5 : AV} {st : List AV} {σ : Sg} {Q : AV → Sg → Prop}  : Rn d m_X5_watch 45 [l0, l1, l2, l3, l4, l5] st σ Q ↔ Rn d m_X5_watch 46 [l0, l1, l2, l3, l4, l5] (vI 1 :: st) σ Q := q0 (show fnd (pgm m_X5_watch) 45 = some (46, 0, 1, 0, 0, []) from rfl)
set_option maxRecDepth 100000 in
theorem s_X5_watch_46 {d : Nat} {l0 l2 l3 l4 l5 : AV} {st : List AV} {x : Int} {σ : Sg} {Q : AV → Sg → Prop}  : Rn d m_X5_watch 46 [l0, vI x, l2, l3, l4, l5] st σ Q ↔ Rn d m_X5_watch 47 [l0, vI x, l2, l3, l4, l5] (vI x :: st) σ Q := q3 (show fnd (pgm m_X5_watch) 46 = some (47, 3, 0, 1, 0, []) from rfl) rfl
set_option maxRecDepth 100000 in
theorem s_X5_watch_47 {d : Nat} {l0 l1 l2 l3 l4 l5 : AV} {st : List AV} {σ : Sg} {Q : AV → Sg → Prop}  : Rn d m_X5_watch 47 [l0, l1, l2, l3, l4, l5] st σ Q ↔ Rn d m_X5_watch 48 [l0, l1, l2, l3, l4, l5] (vI 1 :: st) σ Q := q0 (show fnd (pgm m_X5_watch) 47 = some (48, 0, 1, 0, 0, []) from rfl)
set_option maxRecDepth 100000 in
theorem s_X5_watch_48 {d : Nat} {l0 l1 l2 l3 l4 l5 : AV} {st : List AV} {a b : Int} {σ : Sg} {Q : AV → Sg → Prop}  : Rn d m_X5_watch 48 [l0, l1, l2, l3, l4, l5] (vI b :: vI a :: st) σ Q ↔ Rn d m_X5_watch 49 [l0, l1, l2, l3, l4, l5] (vI (a + b) :: st) σ Q := q10_0 (show fnd (pgm m_X5_watch) 48 = some (49, 10, 0, 0, 0, []) from rfl)
set_option maxRecDepth 100000 in
theorem s_X5_watch_49 {d : Nat} {l0 l1 l2 l3 l4 l5 : AV} {st : List AV} {a b : Int} {σ : Sg} {Q : AV → Sg → Prop}  : Rn d m_X5_watch 49 [l0, l1, l2, l3, l4, l5] (vI b :: vI a :: st) σ Q ↔ Rn d m_X5_watch 50 [l0, l1, l2, l3, l4, l5] (vI (shl32 a b) :: st) σ Q := q10_8 (show fnd (pgm m_X5_watch) 49 = some (50, 10, 0, 8, 0, []) from rfl)
set_option maxRecDepth 100000 in
theorem s_X5_watch_50 {d : Nat} {l0 l1 l2 l3 l4 l5 : AV} {st : List AV} {a b : Int} {σ : Sg} {Q : AV → Sg → Prop}  : Rn d m_X5_watch 50 [l0, l1, l2, l3, l4, l5] (vI b :: vI a :: st) σ Q ↔ if w32 b ≤ w32 a then Rn d m_X5_watch 104 [l0, l1, l2, l3, l4, l5] st σ Q else Rn d m_X5_watch 53 [l0, l1, l2, l3, l4, l5] st σ Q := q20_3 (show fnd (pgm m_X5_watch) 50 = some (53, 20, 0, 3, 104, []) from rfl)
set_option maxRecDepth 100000 in
theorem s_X5_watch_53 {d : Nat} {l0 l1 l2 l4 l5 : AV} {st : List AV} {x : Int} {σ : Sg} {Q : AV → Sg → Prop}  : Rn d m_X5_watch 53 [l0, l1, l2, vI x, l4, l5] st σ Q ↔ Rn d m_X5_watch 54 [l0, l1, l2, vI x, l4, l5] (vI x :: st) σ Q := q3 (show fnd (pgm m_X5_watch) 53 = some (54, 3, 0, 3, 0, []) from rfl) rfl
set_option maxRecDepth 100000 in
theorem s_X5_watch_54 {d : Nat} {l0 l1 l2 l3 l4 l5 : AV} {st : List AV} {σ : Sg} {Q : AV → Sg → Prop}  : Rn d m_X5_watch 54 [l0, l1, l2, l3, l4, l5] st σ Q ↔ Rn d m_X5_watch 55 [l0, l1, l2, l3, l4, l5] (vI (-1) :: st) σ Q := q0 (show fnd (pgm m_X5_watch) 54 = some (55, 0, (-1), 0, 0, []) from rfl)
set_option maxRecDepth 100000 in
theorem s_X5_watch_55 {d : Nat} {l0 l1 l2 l3 l4 l5 : AV} {st : List AV} {a b : Int} {σ : Sg} {Q : AV → Sg → Prop}  : Rn d m_X5_watch 55 [l0, l1, l2, l3, l4, l5] (vI b :: vI a :: st) σ Q ↔ if w32 a = w32 b then Rn d m_X5_watch 70 [l0, l1, l2, l3, l4, l5] st σ Q else Rn d m_X5_watch 58 [l0, l1, l2, l3, l4, l5] st σ Q := q20_0 (show fnd (pgm m_X5_watch) 55 = some (58, 20, 0, 0, 70, []) from rfl)
set_option maxRecDepth 100000 in
theorem s_X5_watch_58 {d : Nat} {l0 l1 l2 l3 l5 : AV} {st : List AV} {x : Int} {σ : Sg} {Q : AV → Sg → Prop}  : Rn d m_X5_watch 58 [l0, l1, l2, l3, vI x, l5] st σ Q ↔ Rn d m_X5_watch 60 [l0, l1, l2, l3, vI x, l5] (vI x :: st) σ Q := q3 (show fnd (pgm m_X5_watch) 58 = some (60, 3, 0, 4, 1, []) from rfl) rfl
set_option maxRecDepth 100000 in
theorem s_X5_watch_60 {d : Nat} {l0 l1 l2 l3 l4 l5 : AV} {st : List AV}  {a0 : Int} {σ : Sg} {Q : AV → Sg → Prop} (h4 : st.length ≤ 4) : Rn d m_X5_watch 60 [l0, l1, l2, l3, l4, l5] (vI a0 :: st) σ Q ↔ ∃ r σ1, Ev d m_J6_bitCount_0f7a4 [vI a0] σ r σ1 ∧ Rn d m_X5_watch 63 [l0, l1, l2, l3, l4, l5] (psh r st) σ1 Q := q35 (show fnd (pgm m_X5_watch) 60 = some (63, 35, 176, 176, 1, []) from rfl) ⟨⟨by simp, by simpa using h4⟩, rfl⟩
set_option maxRecDepth 100000 in
theorem s_X5_watch_63 {d : Nat} {l0 l1 l2 l4 l5 : AV} {st : List AV} {x : Int} {σ : Sg} {Q : AV → Sg → Prop}  : Rn d m_X5_watch 63 [l0, l1, l2, vI x, l4, l5] st σ Q ↔ Rn d m_X5_watch 64 [l0, l1, l2, vI x, l4, l5] (vI x :: st) σ Q := q3 (show fnd (pgm m_X5_watch) 63 = some (64, 3, 0, 3, 0, []) from rfl) rfl
set_option maxRecDepth 100000 in
theorem s_X5_watch_64 {d : Nat} {l0 l1 l2 l3 l4 l5 : AV} {st : List AV}  {a0 : Int} {σ : Sg} {Q : AV → Sg → Prop} (h4 : st.length ≤ 4) : Rn d m_X5_watch 64 [l0, l1, l2, l3, l4, l5] (vI a0 :: st) σ Q ↔ ∃ r σ1, Ev d m_J6_bitCount_0f7a4 [vI a0] σ r σ1 ∧ Rn d m_X5_watch 67 [l0, l1, l2, l3, l4, l5] (psh r st) σ1 Q := q35 (show fnd (pgm m_X5_watch) 64 = some (67, 35, 176, 176, 1, []) from rfl) ⟨⟨by simp, by simpa using h4⟩, rfl⟩
set_option maxRecDepth 100000 in
theorem s_X5_watch_67 {d : Nat} {l0 l1 l2 l3 l4 l5 : AV} {st : List AV} {a b : Int} {σ : Sg} {Q : AV → Sg → Prop}  : Rn d m_X5_watch 67 [l0, l1, l2, l3, l4, l5] (vI b :: vI a :: st) σ Q ↔ if w32 b ≤ w32 a then Rn d m_X5_watch 74 [l0, l1, l2, l3, l4, l5] st σ Q else Rn d m_X5_watch 70 [l0, l1, l2, l3, l4, l5] st σ Q := q20_3 (show fnd (pgm m_X5_watch) 67 = some (70, 20, 0, 3, 74, []) from rfl)
set_option maxRecDepth 100000 in
theorem s_X5_watch_70 {d : Nat} {l0 l1 l2 l3 l4 l5 : AV} {st : List AV} {σ : Sg} {Q : AV → Sg → Prop}  : Rn d m_X5_watch 70 [l0, l1, l2, l3, l4, l5] st σ Q ↔ Rn d m_X5_watch 71 [l0, l1, l2, l3, l4, l5] (vI 1 :: st) σ Q := q0 (show fnd (pgm m_X5_watch) 70 = some (71, 0, 1, 0, 0, []) from rfl)
set_option maxRecDepth 100000 in
theorem s_X5_watch_71 {d : Nat} {l0 l1 l2 l3 l4 l5 : AV} {st : List AV} {σ : Sg} {Q : AV → Sg → Prop}  : Rn d m_X5_watch 71 [l0, l1, l2, l3, l4, l5] st σ Q ↔ Rn d m_X5_watch 75 [l0, l1, l2, l3, l4, l5] st σ Q := q21 (show fnd (pgm m_X5_watch) 71 = some (74, 21, 0, 0, 75, []) from rfl)
set_option maxRecDepth 100000 in
theorem s_X5_watch_74 {d : Nat} {l0 l1 l2 l3 l4 l5 : AV} {st : List AV} {σ : Sg} {Q : AV → Sg → Prop}  : Rn d m_X5_watch 74 [l0, l1, l2, l3, l4, l5] st σ Q ↔ Rn d m_X5_watch 75 [l0, l1, l2, l3, l4, l5] (vI 0 :: st) σ Q := q0 (show fnd (pgm m_X5_watch) 74 = some (75, 0, 0, 0, 0, []) from rfl)
set_option maxRecDepth 100000 in
theorem s_X5_watch_75 {d : Nat} {l0 l1 l2 l3 l4 l5 : AV} {st : List AV} {x : Int} {σ : Sg} {Q : AV → Sg → Prop}  : Rn d m_X5_watch 75 [l0, l1, l2, l3, l4, l5] (vI x :: st) σ Q ↔ Rn d m_X5_watch 77 [l0, l1, l2, l3, l4, vI x] st σ Q := q6 (show fnd (pgm m_X5_watch) 75 = some (77, 6, 0, 5, 1, []) from rfl) (by decide : 5 < 6)
set_option maxRecDepth 100000 in
theorem s_X5_watch_77 {d : Nat} {l0 l1 l2 l3 l4 : AV} {st : List AV} {x : Int} {σ : Sg} {Q : AV → Sg → Prop}  : Rn d m_X5_watch 77 [l0, l1, l2, l3, l4, vI x] st σ Q ↔ Rn d m_X5_watch 79 [l0, l1, l2, l3, l4, vI x] (vI x :: st) σ Q := q3 (show fnd (pgm m_X5_watch) 77 = some (79, 3, 0, 5, 1, []) from rfl) rfl
set_option maxRecDepth 100000 in
theorem s_X5_watch_79 {d : Nat} {l0 l1 l2 l3 l4 l5 : AV} {st : List AV} {a : Int} {σ : Sg} {Q : AV → Sg → Prop}  : Rn d m_X5_watch 79 [l0, l1, l2, l3, l4, l5] (vI a :: st) σ Q ↔ if w32 a = 0 then Rn d m_X5_watch 98 [l0, l1, l2, l3, l4, l5] st σ Q else Rn d m_X5_watch 82 [l0, l1, l2, l3, l4, l5] st σ Q := q19_0 (show fnd (pgm m_X5_watch) 79 = some (82, 19, 0, 0, 98, []) from rfl)
set_option maxRecDepth 100000 in
theorem s_X5_watch_82 {d : Nat} {l1 l2 l3 l4 l5 : AV} {st : List AV} {o : Nat} {σ : Sg} {Q : AV → Sg → Prop} (ho : o ≠ 0) : Rn d m_X5_watch 82 [vR o, l1, l2, l3, l4, l5] st σ Q ↔ Rn d m_X5_watch 83 [vR o, l1, l2, l3, l4, l5] (vR o :: st) σ Q := q5 (show fnd (pgm m_X5_watch) 82 = some (83, 5, 0, 0, 0, []) from rfl) rfl ho
set_option maxRecDepth 100000 in
theorem s_X5_watch_83 {d : Nat} {l0 l1 l2 l3 l4 l5 : AV} {st : List AV} {o : Nat} {σ : Sg} {Q : AV → Sg → Prop} (hk : kn σ o = (0, 5)) : Rn d m_X5_watch 83 [l0, l1, l2, l3, l4, l5] (vR o :: st) σ Q ↔ Rn d m_X5_watch 86 [l0, l1, l2, l3, l4, l5] (vR (tp o 3) :: st) σ Q := q33 (show fnd (pgm m_X5_watch) 83 = some (86, 33, 27, 5, 3, []) from rfl) hk
set_option maxRecDepth 100000 in
theorem s_X5_watch_86 {d : Nat} {l0 l1 l2 l3 l5 : AV} {st : List AV} {x : Int} {σ : Sg} {Q : AV → Sg → Prop}  : Rn d m_X5_watch 86 [l0, l1, l2, l3, vI x, l5] st σ Q ↔ Rn d m_X5_watch 88 [l0, l1, l2, l3, vI x, l5] (vI x :: st) σ Q := q3 (show fnd (pgm m_X5_watch) 86 = some (88, 3, 0, 4, 1, []) from rfl) rfl
set_option maxRecDepth 100000 in
theorem s_X5_watch_88 {d : Nat} {l0 l1 l2 l3 l4 l5 : AV} {st : List AV} {o : Nat} {a0 : Int} {σ : Sg} {Q : AV → Sg → Prop} (h4 : st.length ≤ 4) (hk : kn σ o = (0, 4)) : Rn d m_X5_watch 88 [l0, l1, l2, l3, l4, l5] (vI a0 :: vR o :: st) σ Q ↔ ∃ r σ1, Ev d m_X4_movedAmong [vR o, vI a0] σ r σ1 ∧ Rn d m_X5_watch 91 [l0, l1, l2, l3, l4, l5] (psh r st) σ1 Q := q35 (show fnd (pgm m_X5_watch) 88 = some (91, 35, 173, 51, 2, []) from rfl) ⟨⟨by simp, by simpa using h4⟩, (by simp only [List.take, List.reverse, List.reverseAux, rcv]; rw [if_neg (by decide +kernel)]; exact decide_eq_true hk)⟩
set_option maxRecDepth 100000 in
theorem s_X5_watch_91 {d : Nat} {l0 l1 l3 l4 l5 : AV} {st : List AV} {x : Int} {σ : Sg} {Q : AV → Sg → Prop}  : Rn d m_X5_watch 91 [l0, l1, vI x, l3, l4, l5] st σ Q ↔ Rn d m_X5_watch 92 [l0, l1, vI x, l3, l4, l5] (vI x :: st) σ Q := q3 (show fnd (pgm m_X5_watch) 91 = some (92, 3, 0, 2, 0, []) from rfl) rfl
set_option maxRecDepth 100000 in
theorem s_X5_watch_92 {d : Nat} {l0 l1 l2 l3 l4 l5 : AV} {st : List AV} {a b : Int} {σ : Sg} {Q : AV → Sg → Prop}  : Rn d m_X5_watch 92 [l0, l1, l2, l3, l4, l5] (vI b :: vI a :: st) σ Q ↔ if ¬ w32 a = w32 b then Rn d m_X5_watch 98 [l0, l1, l2, l3, l4, l5] st σ Q else Rn d m_X5_watch 95 [l0, l1, l2, l3, l4, l5] st σ Q := q20_1 (show fnd (pgm m_X5_watch) 92 = some (95, 20, 0, 1, 98, []) from rfl)
set_option maxRecDepth 100000 in
theorem s_X5_watch_95 {d : Nat} {l0 l1 l2 l3 l5 : AV} {st : List AV} {x : Int} {σ : Sg} {Q : AV → Sg → Prop}  : Rn d m_X5_watch 95 [l0, l1, l2, l3, vI x, l5] st σ Q ↔ Rn d m_X5_watch 97 [l0, l1, l2, l3, vI x, l5] (vI x :: st) σ Q := q3 (show fnd (pgm m_X5_watch) 95 = some (97, 3, 0, 4, 1, []) from rfl) rfl
set_option maxRecDepth 100000 in
theorem s_X5_watch_97 {d : Nat} {l0 l1 l2 l3 l4 l5 : AV} {st : List AV} {x : Int} {σ : Sg} {Q : AV → Sg → Prop}  : Rn d m_X5_watch 97 [l0, l1, l2, l3, l4, l5] (vI x :: st) σ Q ↔ Rn d m_X5_watch 98 [l0, l1, l2, vI x, l4, l5] st σ Q := q6 (show fnd (pgm m_X5_watch) 97 = some (98, 6, 0, 3, 0, []) from rfl) (by decide : 3 < 6)
set_option maxRecDepth 100000 in
theorem s_X5_watch_98 {d : Nat} {l0 l1 l2 l3 l5 : AV} {st : List AV} {x : Int} {σ : Sg} {Q : AV → Sg → Prop}  : Rn d m_X5_watch 98 [l0, l1, l2, l3, vI x, l5] st σ Q ↔ Rn d m_X5_watch 101 [l0, l1, l2, l3, vI (x + 1), l5] st σ Q := q9 (show fnd (pgm m_X5_watch) 98 = some (101, 9, 1, 4, 0, []) from rfl) rfl
set_option maxRecDepth 100000 in
theorem s_X5_watch_101 {d : Nat} {l0 l1 l2 l3 l4 l5 : AV} {st : List AV} {σ : Sg} {Q : AV → Sg → Prop}  : Rn d m_X5_watch 101 [l0, l1, l2, l3, l4, l5] st σ Q ↔ Rn d m_X5_watch 43 [l0, l1, l2, l3, l4, l5] st σ Q := q21 (show fnd (pgm m_X5_watch) 101 = some (104, 21, 0, 0, 43, []) from rfl)
set_option maxRecDepth 100000 in
theorem s_X5_watch_104 {d : Nat} {l0 l1 l2 l4 l5 : AV} {st : List AV} {x : Int} {σ : Sg} {Q : AV → Sg → Prop}  : Rn d m_X5_watch 104 [l0, l1, l2, vI x, l4, l5] st σ Q ↔ Rn d m_X5_watch 105 [l0, l1, l2, vI x, l4, l5] (vI x :: st) σ Q := q3 (show fnd (pgm m_X5_watch) 104 = some (105, 3, 0, 3, 0, []) from rfl) rfl
set_option maxRecDepth 100000 in
theorem s_X5_watch_105 {d : Nat} {l0 l1 l2 l3 l4 l5 : AV} {x : Int} {σ : Sg} {Q : AV → Sg → Prop}  : Rn d m_X5_watch 105 [l0, l1, l2, l3, l4, l5] [vI x] σ Q ↔ Q (vI x) σ := q37_1 (st := []) (show fnd (pgm m_X5_watch) 105 = some (106, 37, 0, 1, 0, []) from rfl)
set_option maxRecDepth 100000 in
theorem en_X5_hold {d : Nat} {o : Nat} {a0 : Int} {a1 : Int} {σ σ0 : Sg} {r0 : AV} (h : Rn d m_X5_hold 0 [vR o, vI a0, vI a1, none, none, none] [] σ (fun r σ1 => r = r0 ∧ σ1 = σ0)) : Ev (d + 1) m_X5_hold [vR o, vI a0, vI a1] σ r0 σ0 := Ev_is (Nat.le_of_ble_eq_true rfl) h
set_option maxRecDepth 100000 in
theorem eo_X5_hold {d : Nat} {o : Nat} {a0 : Int} {a1 : Int} {σ : Sg} {Q : AV → Sg → Prop} (h : Rn d m_X5_hold 0 [vR o, vI a0, vI a1, none, none, none] [] σ Q) : ∃ r σ1, Ev (d + 1) m_X5_hold [vR o, vI a0, vI a1] σ r σ1 ∧ Q r σ1 := Ev_of (Nat.le_of_ble_eq_true rfl) h
set_option maxRecDepth 100000 in
theorem s_X5_hold_0 {d : Nat} {l1 l2 l3 l4 l5 : AV} {st : List AV} {o : Nat} {σ : Sg} {Q : AV → Sg → Prop} (ho : o ≠ 0) : Rn d m_X5_hold 0 [vR o, l1, l2, l3, l4, l5] st σ Q ↔ Rn d m_X5_hold 1 [vR o, l1, l2, l3, l4, l5] (vR o :: st) σ Q := q5 (show fnd (pgm m_X5_hold) 0 = some (1, 5, 0, 0, 0, []) from rfl) rfl ho
set_option maxRecDepth 100000 in
theorem s_X5_hold_1 {d : Nat} {l0 l2 l3 l4 l5 : AV} {st : List AV} {x : Int} {σ : Sg} {Q : AV → Sg → Prop}  : Rn d m_X5_hold 1 [l0, vI x, l2, l3, l4, l5] st σ Q ↔ Rn d m_X5_hold 2 [l0, vI x, l2, l3, l4, l5] (vI x :: st) σ Q := q3 (show fnd (pgm m_X5_hold) 1 = some (2, 3, 0, 1, 0, []) from rfl) rfl
set_option maxRecDepth 100000 in
theorem s_X5_hold_2 {d : Nat} {l0 l1 l2 l3 l4 l5 : AV} {st : List AV} {o : Nat} {a0 : Int} {σ : Sg} {Q : AV → Sg → Prop} (h4 : st.length ≤ 4) (hk : kn σ o = (0, 5)) : Rn d m_X5_hold 2 [l0, l1, l2, l3, l4, l5] (vI a0 :: vR o :: st) σ Q ↔ ∃ r σ1, Ev d m_X5_isStone [vR o, vI a0] σ r σ1 ∧ Rn d m_X5_hold 5 [l0, l1, l2, l3, l4, l5] (psh r st) σ1 Q := q35 (show fnd (pgm m_X5_hold) 2 = some (5, 35, 129, 90, 2, []) from rfl) ⟨⟨by simp, by simpa using h4⟩, (by simp only [List.take, List.reverse, List.reverseAux, rcv]; rw [if_neg (by decide +kernel)]; exact decide_eq_true hk)⟩
set_option maxRecDepth 100000 in
theorem s_X5_hold_5 {d : Nat} {l0 l1 l2 l3 l4 l5 : AV} {st : List AV} {a : Int} {σ : Sg} {Q : AV → Sg → Prop}  : Rn d m_X5_hold 5 [l0, l1, l2, l3, l4, l5] (vI a :: st) σ Q ↔ if w32 a = 0 then Rn d m_X5_hold 15 [l0, l1, l2, l3, l4, l5] st σ Q else Rn d m_X5_hold 8 [l0, l1, l2, l3, l4, l5] st σ Q := q19_0 (show fnd (pgm m_X5_hold) 5 = some (8, 19, 0, 0, 15, []) from rfl)
set_option maxRecDepth 100000 in
theorem s_X5_hold_8 {d : Nat} {l0 l1 l3 l4 l5 : AV} {st : List AV} {x : Int} {σ : Sg} {Q : AV → Sg → Prop}  : Rn d m_X5_hold 8 [l0, l1, vI x, l3, l4, l5] st σ Q ↔ Rn d m_X5_hold 9 [l0, l1, vI x, l3, l4, l5] (vI x :: st) σ Q := q3 (show fnd (pgm m_X5_hold) 8 = some (9, 3, 0, 2, 0, []) from rfl) rfl
set_option maxRecDepth 100000 in
theorem s_X5_hold_9 {d : Nat} {l0 l1 l2 l3 l4 l5 : AV} {st : List AV}  {a0 : Int} {σ : Sg} {Q : AV → Sg → Prop} (h4 : st.length ≤ 4) : Rn d m_X5_hold 9 [l0, l1, l2, l3, l4, l5] (vI a0 :: st) σ Q ↔ ∃ r σ1, Ev d m_X5_isBehind [vI a0] σ r σ1 ∧ Rn d m_X5_hold 12 [l0, l1, l2, l3, l4, l5] (psh r st) σ1 Q := q35 (show fnd (pgm m_X5_hold) 9 = some (12, 35, 135, 91, 1, []) from rfl) ⟨⟨by simp, by simpa using h4⟩, rfl⟩
set_option maxRecDepth 100000 in
theorem s_X5_hold_12 {d : Nat} {l0 l1 l2 l3 l4 l5 : AV} {st : List AV} {a : Int} {σ : Sg} {Q : AV → Sg → Prop}  : Rn d m_X5_hold 12 [l0, l1, l2, l3, l4, l5] (vI a :: st) σ Q ↔ if ¬ w32 a = 0 then Rn d m_X5_hold 24 [l0, l1, l2, l3, l4, l5] st σ Q else Rn d m_X5_hold 15 [l0, l1, l2, l3, l4, l5] st σ Q := q19_1 (show fnd (pgm m_X5_hold) 12 = some (15, 19, 0, 1, 24, []) from rfl)
set_option maxRecDepth 100000 in
theorem s_X5_hold_15 {d : Nat} {l1 l2 l3 l4 l5 : AV} {st : List AV} {o : Nat} {σ : Sg} {Q : AV → Sg → Prop} (ho : o ≠ 0) : Rn d m_X5_hold 15 [vR o, l1, l2, l3, l4, l5] st σ Q ↔ Rn d m_X5_hold 16 [vR o, l1, l2, l3, l4, l5] (vR o :: st) σ Q := q5 (show fnd (pgm m_X5_hold) 15 = some (16, 5, 0, 0, 0, []) from rfl) rfl ho
set_option maxRecDepth 100000 in
theorem s_X5_hold_16 {d : Nat} {l0 l1 l2 l3 l4 l5 : AV} {st : List AV} {σ : Sg} {Q : AV → Sg → Prop}  : Rn d m_X5_hold 16 [l0, l1, l2, l3, l4, l5] st σ Q ↔ Rn d m_X5_hold 18 [l0, l1, l2, l3, l4, l5] (vI (-2) :: st) σ Q := q0 (show fnd (pgm m_X5_hold) 16 = some (18, 0, (-2), 1, 0, []) from rfl)
set_option maxRecDepth 100000 in
theorem s_X5_hold_18 {d : Nat} {l0 l1 l2 l3 l4 l5 : AV} {st : List AV} {σ : Sg} {Q : AV → Sg → Prop}  : Rn d m_X5_hold 18 [l0, l1, l2, l3, l4, l5] st σ Q ↔ Rn d m_X5_hold 20 [l0, l1, l2, l3, l4, l5] (vI (-10) :: st) σ Q := q0 (show fnd (pgm m_X5_hold) 18 = some (20, 0, (-10), 1, 0, []) from rfl)
set_option maxRecDepth 100000 in
theorem s_X5_hold_20 {d : Nat} {l0 l1 l2 l3 l4 l5 : AV} {st : List AV} {o : Nat} {a0 : Int} {a1 : Int} {σ : Sg} {Q : AV → Sg → Prop} (h4 : st.length ≤ 4) (hk : kn σ o = (0, 5)) : Rn d m_X5_hold 20 [l0, l1, l2, l3, l4, l5] (vI a1 :: vI a0 :: vR o :: st) σ Q ↔ ∃ r σ1, Ev d m_X5_refuse [vR o, vI a0, vI a1] σ r σ1 ∧ Rn d m_X5_hold 23 [l0, l1, l2, l3, l4, l5] (psh r st) σ1 Q := q35 (show fnd (pgm m_X5_hold) 20 = some (23, 35, 84, 92, 3, []) from rfl) ⟨⟨by simp, by simpa using h4⟩, (by simp only [List.take, List.reverse, List.reverseAux, rcv]; rw [if_neg (by decide +kernel)]; exact decide_eq_true hk)⟩
set_option maxRecDepth 100000 in
theorem s_X5_hold_23 {d : Nat} {l0 l1 l2 l3 l4 l5 : AV} {x : Int} {σ : Sg} {Q : AV → Sg → Prop}  : Rn d m_X5_hold 23 [l0, l1, l2, l3, l4, l5] [vI x] σ Q ↔ Q (vI x) σ := q37_1 (st := []) (show fnd (pgm m_X5_hold) 23 = some (24, 37, 0, 1, 0, []) from rfl)
set_option maxRecDepth 100000 in
theorem s_X5_hold_24 {d : Nat} {l1 l2 l3 l4 l5 : AV} {st : List AV} {o : Nat} {σ : Sg} {Q : AV → Sg → Prop} (ho : o ≠ 0) : Rn d m_X5_hold 24 [vR o, l1, l2, l3, l4, l5] st σ Q ↔ Rn d m_X5_hold 25 [vR o, l1, l2, l3, l4, l5] (vR o :: st) σ Q := q5 (show fnd (pgm m_X5_hold) 24 = some (25, 5, 0, 0, 0, []) from rfl) rfl ho
set_option maxRecDepth 100000 in
theorem s_X5_hold_25 {d : Nat} {l0 l1 l2 l3 l4 l5 : AV} {st : List AV} {o : Nat} {σ : Sg} {Q : AV → Sg → Prop} (hk : kn σ o = (0, 5)) : Rn d m_X5_hold 25 [l0, l1, l2, l3, l4, l5] (vR o :: st) σ Q ↔ Rn d m_X5_hold 28 [l0, l1, l2, l3, l4, l5] (vR (tp o 0) :: st) σ Q := q33 (show fnd (pgm m_X5_hold) 25 = some (28, 33, 12, 5, 0, []) from rfl) hk
set_option maxRecDepth 100000 in
theorem s_X5_hold_28 {d : Nat} {l0 l1 l2 l3 l4 l5 : AV} {st : List AV} {o : Nat} {σ : Sg} {Q : AV → Sg → Prop} (hk : kn σ o = (0, 0)) : Rn d m_X5_hold 28 [l0, l1, l2, l3, l4, l5] (vR o :: st) σ Q ↔ Rn d m_X5_hold 31 [l0, l1, l2, l3, l4, l5] (vR (tp o 2) :: st) σ Q := q33 (show fnd (pgm m_X5_hold) 28 = some (31, 33, 181, 0, 2, []) from rfl) hk
set_option maxRecDepth 100000 in
theorem s_X5_hold_31 {d : Nat} {l0 l2 l3 l4 l5 : AV} {st : List AV} {x : Int} {σ : Sg} {Q : AV → Sg → Prop}  : Rn d m_X5_hold 31 [l0, vI x, l2, l3, l4, l5] st σ Q ↔ Rn d m_X5_hold 32 [l0, vI x, l2, l3, l4, l5] (vI x :: st) σ Q := q3 (show fnd (pgm m_X5_hold) 31 = some (32, 3, 0, 1, 0, []) from rfl) rfl
set_option maxRecDepth 100000 in
theorem s_X5_hold_32 {d : Nat} {l0 l1 l2 l3 l4 l5 : AV} {st : List AV} {i : Int} {o : Nat} {σ : Sg} {Q : AV → Sg → Prop} (hi : 0 ≤ w32 i ∧ w32 i < al σ 1 o) : Rn d m_X5_hold 32 [l0, l1, l2, l3, l4, l5] (vI i :: vR o :: st) σ Q ↔ Rn d m_X5_hold 33 [l0, l1, l2, l3, l4, l5] (vI (σ o (w32 i)) :: st) σ Q := q25 (show fnd (pgm m_X5_hold) 32 = some (33, 25, 0, 0, 0, []) from rfl) hi
set_option maxRecDepth 100000 in
theorem s_X5_hold_33 {d : Nat} {l0 l1 l2 l3 l4 l5 : AV} {st : List AV} {x : Int} {σ : Sg} {Q : AV → Sg → Prop}  : Rn d m_X5_hold 33 [l0, l1, l2, l3, l4, l5] (vI x :: st) σ Q ↔ Rn d m_X5_hold 34 [l0, l1, l2, vI x, l4, l5] st σ Q := q6 (show fnd (pgm m_X5_hold) 33 = some (34, 6, 0, 3, 0, []) from rfl) (by decide : 3 < 6)
set_option maxRecDepth 100000 in
theorem s_X5_hold_34 {d : Nat} {l1 l2 l3 l4 l5 : AV} {st : List AV} {o : Nat} {σ : Sg} {Q : AV → Sg → Prop} (ho : o ≠ 0) : Rn d m_X5_hold 34 [vR o, l1, l2, l3, l4, l5] st σ Q ↔ Rn d m_X5_hold 35 [vR o, l1, l2, l3, l4, l5] (vR o :: st) σ Q := q5 (show fnd (pgm m_X5_hold) 34 = some (35, 5, 0, 0, 0, []) from rfl) rfl ho
set_option maxRecDepth 100000 in
theorem s_X5_hold_35 {d : Nat} {l0 l1 l3 l4 l5 : AV} {st : List AV} {x : Int} {σ : Sg} {Q : AV → Sg → Prop}  : Rn d m_X5_hold 35 [l0, l1, vI x, l3, l4, l5] st σ Q ↔ Rn d m_X5_hold 36 [l0, l1, vI x, l3, l4, l5] (vI x :: st) σ Q := q3 (show fnd (pgm m_X5_hold) 35 = some (36, 3, 0, 2, 0, []) from rfl) rfl
set_option maxRecDepth 100000 in
theorem s_X5_hold_36 {d : Nat} {l0 l1 l2 l3 l4 l5 : AV} {st : List AV} {o : Nat} {a0 : Int} {σ : Sg} {Q : AV → Sg → Prop} (h4 : st.length ≤ 4) (hk : kn σ o = (0, 5)) : Rn d m_X5_hold 36 [l0, l1, l2, l3, l4, l5] (vI a0 :: vR o :: st) σ Q ↔ ∃ r σ1, Ev d m_X5_walkAll [vR o, vI a0] σ r σ1 ∧ Rn d m_X5_hold 39 [l0, l1, l2, l3, l4, l5] (psh r st) σ1 Q := q35 (show fnd (pgm m_X5_hold) 36 = some (39, 35, 138, 93, 2, []) from rfl) ⟨⟨by simp, by simpa using h4⟩, (by simp only [List.take, List.reverse, List.reverseAux, rcv]; rw [if_neg (by decide +kernel)]; exact decide_eq_true hk)⟩
set_option maxRecDepth 100000 in
theorem s_X5_hold_39 {d : Nat} {l1 l2 l3 l4 l5 : AV} {st : List AV} {o : Nat} {σ : Sg} {Q : AV → Sg → Prop} (ho : o ≠ 0) : Rn d m_X5_hold 39 [vR o, l1, l2, l3, l4, l5] st σ Q ↔ Rn d m_X5_hold 40 [vR o, l1, l2, l3, l4, l5] (vR o :: st) σ Q := q5 (show fnd (pgm m_X5_hold) 39 = some (40, 5, 0, 0, 0, []) from rfl) rfl ho
set_option maxRecDepth 100000 in
theorem s_X5_hold_40 {d : Nat} {l0 l1 l2 l3 l4 l5 : AV} {st : List AV} {o : Nat} {σ : Sg} {Q : AV → Sg → Prop} (hk : kn σ o = (0, 5)) : Rn d m_X5_hold 40 [l0, l1, l2, l3, l4, l5] (vR o :: st) σ Q ↔ Rn d m_X5_hold 43 [l0, l1, l2, l3, l4, l5] (vR (tp o 3) :: st) σ Q := q33 (show fnd (pgm m_X5_hold) 40 = some (43, 33, 27, 5, 3, []) from rfl) hk
set_option maxRecDepth 100000 in
theorem s_X5_hold_43 {d : Nat} {l0 l1 l2 l3 l4 l5 : AV} {st : List AV} {o : Nat} {σ : Sg} {Q : AV → Sg → Prop} (hk : kn σ o = (0, 4)) : Rn d m_X5_hold 43 [l0, l1, l2, l3, l4, l5] (vR o :: st) σ Q ↔ Rn d m_X5_hold 46 [l0, l1, l2, l3, l4, l5] (vR (tp o 0) :: st) σ Q := q33 (show fnd (pgm m_X5_hold) 43 = some (46, 33, 141, 4, 0, []) from rfl) hk
set_option maxRecDepth 100000 in
theorem s_X5_hold_46 {d : Nat} {l0 l2 l3 l4 l5 : AV} {st : List AV} {x : Int} {σ : Sg} {Q : AV → Sg → Prop}  : Rn d m_X5_hold 46 [l0, vI x, l2, l3, l4, l5] st σ Q ↔ Rn d m_X5_hold 47 [l0, vI x, l2, l3, l4, l5] (vI x :: st) σ Q := q3 (show fnd (pgm m_X5_hold) 46 = some (47, 3, 0, 1, 0, []) from rfl) rfl
set_option maxRecDepth 100000 in
theorem s_X5_hold_47 {d : Nat} {l0 l1 l2 l3 l4 l5 : AV} {st : List AV} {i : Int} {o : Nat} {σ : Sg} {Q : AV → Sg → Prop} (hi : 0 ≤ w32 i ∧ w32 i < al σ 1 o) : Rn d m_X5_hold 47 [l0, l1, l2, l3, l4, l5] (vI i :: vR o :: st) σ Q ↔ Rn d m_X5_hold 48 [l0, l1, l2, l3, l4, l5] (vI (σ o (w32 i)) :: st) σ Q := q25 (show fnd (pgm m_X5_hold) 47 = some (48, 25, 0, 0, 0, []) from rfl) hi
set_option maxRecDepth 100000 in
theorem s_X5_hold_48 {d : Nat} {l0 l1 l2 l4 l5 : AV} {st : List AV} {x : Int} {σ : Sg} {Q : AV → Sg → Prop}  : Rn d m_X5_hold 48 [l0, l1, l2, vI x, l4, l5] st σ Q ↔ Rn d m_X5_hold 49 [l0, l1, l2, vI x, l4, l5] (vI x :: st) σ Q := q3 (show fnd (pgm m_X5_hold) 48 = some (49, 3, 0, 3, 0, []) from rfl) rfl
set_option maxRecDepth 100000 in
theorem s_X5_hold_49 {d : Nat} {l0 l1 l2 l3 l4 l5 : AV} {st : List AV} {a b : Int} {σ : Sg} {Q : AV → Sg → Prop}  : Rn d m_X5_hold 49 [l0, l1, l2, l3, l4, l5] (vI b :: vI a :: st) σ Q ↔ if ¬ w32 a = w32 b then Rn d m_X5_hold 55 [l0, l1, l2, l3, l4, l5] st σ Q else Rn d m_X5_hold 52 [l0, l1, l2, l3, l4, l5] st σ Q := q20_1 (show fnd (pgm m_X5_hold) 49 = some (52, 20, 0, 1, 55, []) from rfl)
set_option maxRecDepth 100000 in
theorem s_X5_hold_52 {d : Nat} {l0 l1 l2 l3 l4 l5 : AV} {st : List AV} {σ : Sg} {Q : AV → Sg → Prop}  : Rn d m_X5_hold 52 [l0, l1, l2, l3, l4, l5] st σ Q ↔ Rn d m_X5_hold 54 [l0, l1, l2, l3, l4, l5] (vI (-6) :: st) σ Q := q0 (show fnd (pgm m_X5_hold) 52 = some (54, 0, (-6), 1, 0, []) from rfl)
set_option maxRecDepth 100000 in
theorem s_X5_hold_54 {d : Nat} {l0 l1 l2 l3 l4 l5 : AV} {x : Int} {σ : Sg} {Q : AV → Sg → Prop}  : Rn d m_X5_hold 54 [l0, l1, l2, l3, l4, l5] [vI x] σ Q ↔ Q (vI x) σ := q37_1 (st := []) (show fnd (pgm m_X5_hold) 54 = some (55, 37, 0, 1, 0, []) from rfl)
set_option maxRecDepth 100000 in
theorem s_X5_hold_55 {d : Nat} {l1 l2 l3 l4 l5 : AV} {st : List AV} {o : Nat} {σ : Sg} {Q : AV → Sg → Prop} (ho : o ≠ 0) : Rn d m_X5_hold 55 [vR o, l1, l2, l3, l4, l5] st σ Q ↔ Rn d m_X5_hold 56 [vR o, l1, l2, l3, l4, l5] (vR o :: st) σ Q := q5 (show fnd (pgm m_X5_hold) 55 = some (56, 5, 0, 0, 0, []) from rfl) rfl ho
set_option maxRecDepth 100000 in
theorem s_X5_hold_56 {d : Nat} {l0 l1 l2 l3 l4 l5 : AV} {st : List AV} {o : Nat} {σ : Sg} {Q : AV → Sg → Prop} (hk : kn σ o = (0, 5)) : Rn d m_X5_hold 56 [l0, l1, l2, l3, l4, l5] (vR o :: st) σ Q ↔ Rn d m_X5_hold 59 [l0, l1, l2, l3, l4, l5] (vR (tp o 3) :: st) σ Q := q33 (show fnd (pgm m_X5_hold) 56 = some (59, 33, 27, 5, 3, []) from rfl) hk
set_option maxRecDepth 100000 in
theorem s_X5_hold_59 {d : Nat} {l0 l1 l2 l3 l4 l5 : AV} {st : List AV} {o : Nat} {σ : Sg} {Q : AV → Sg → Prop} (h4 : st.length ≤ 4) (hk : kn σ o = (0, 4)) : Rn d m_X5_hold 59 [l0, l1, l2, l3, l4, l5] (vR o :: st) σ Q ↔ ∃ r σ1, Ev d m_X4_keepCellsComeTo [vR o] σ r σ1 ∧ Rn d m_X5_hold 62 [l0, l1, l2, l3, l4, l5] (psh r st) σ1 Q := q35 (show fnd (pgm m_X5_hold) 59 = some (62, 35, 184, 52, 1, []) from rfl) ⟨⟨by simp, by simpa using h4⟩, (by simp only [List.take, List.reverse, List.reverseAux, rcv]; rw [if_neg (by decide +kernel)]; exact decide_eq_true hk)⟩
set_option maxRecDepth 100000 in
theorem s_X5_hold_62 {d : Nat} {l0 l1 l2 l3 l4 l5 : AV} {st : List AV} {o : Nat} {σ : Sg} {Q : AV → Sg → Prop} (ho : o ≠ 0) : Rn d m_X5_hold 62 [l0, l1, l2, l3, l4, l5] (vR o :: st) σ Q ↔ Rn d m_X5_hold 64 [l0, l1, l2, l3, vR o, l5] st σ Q := q8 (show fnd (pgm m_X5_hold) 62 = some (64, 8, 0, 4, 1, []) from rfl) (by decide : 4 < 6) ho
set_option maxRecDepth 100000 in
theorem s_X5_hold_64 {d : Nat} {l0 l1 l2 l3 l4 l5 : AV} {st : List AV} {σ : Sg} {Q : AV → Sg → Prop}  : Rn d m_X5_hold 64 [l0, l1, l2, l3, l4, l5] st σ Q ↔ Rn d m_X5_hold 65 [l0, l1, l2, l3, l4, l5] (vI 0 :: st) σ Q := q0 (show fnd (pgm m_X5_hold) 64 = some (65, 0, 0, 0, 0, []) from rfl)
set_option maxRecDepth 100000 in
theorem s_X5_hold_65 {d : Nat} {l0 l1 l2 l3 l4 l5 : AV} {st : List AV} {x : Int} {σ : Sg} {Q : AV → Sg → Prop}  : Rn d m_X5_hold 65 [l0, l1, l2, l3, l4, l5] (vI x :: st) σ Q ↔ Rn d m_X5_hold 67 [l0, l1, l2, l3, l4, vI x] st σ Q := q6 (show fnd (pgm m_X5_hold) 65 = some (67, 6, 0, 5, 1, []) from rfl) (by decide : 5 < 6)
set_option maxRecDepth 100000 in
theorem s_X5_hold_67 {d : Nat} {l0 l1 l2 l3 l4 : AV} {st : List AV} {x : Int} {σ : Sg} {Q : AV → Sg → Prop}  : Rn d m_X5_hold 67 [l0, l1, l2, l3, l4, vI x] st σ Q ↔ Rn d m_X5_hold 69 [l0, l1, l2, l3, l4, vI x] (vI x :: st) σ Q := q3 (show fnd (pgm m_X5_hold) 67 = some (69, 3, 0, 5, 1, []) from rfl) rfl
set_option maxRecDepth 100000 in
theorem s_X5_hold_69 {d : Nat} {l0 l1 l2 l3 l4 l5 : AV} {st : List AV} {σ : Sg} {Q : AV → Sg → Prop}  : Rn d m_X5_hold 69 [l0, l1, l2, l3, l4, l5] st σ Q ↔ Rn d m_X5_hold 72 [l0, l1, l2, l3, l4, l5] (vI 144 :: st) σ Q := q0 (show fnd (pgm m_X5_hold) 69 = some (72, 0, 144, 2, 0, []) from rfl)
set_option maxRecDepth 100000 in
theorem s_X5_hold_72 {d : Nat} {l0 l1 l2 l3 l4 l5 : AV} {st : List AV} {a b : Int} {σ : Sg} {Q : AV → Sg → Prop}  : Rn d m_X5_hold 72 [l0, l1, l2, l3, l4, l5] (vI b :: vI a :: st) σ Q ↔ if w32 b ≤ w32 a then Rn d m_X5_hold 129 [l0, l1, l2, l3, l4, l5] st σ Q else Rn d m_X5_hold 75 [l0, l1, l2, l3, l4, l5] st σ Q := q20_3 (show fnd (pgm m_X5_hold) 72 = some (75, 20, 0, 3, 129, []) from rfl)
set_option maxRecDepth 100000 in
theorem s_X5_hold_75 {d : Nat} {l0 l1 l2 l3 l5 : AV} {st : List AV} {o : Nat} {σ : Sg} {Q : AV → Sg → Prop} (ho : o ≠ 0) : Rn d m_X5_hold 75 [l0, l1, l2, l3, vR o, l5] st σ Q ↔ Rn d m_X5_hold 77 [l0, l1, l2, l3, vR o, l5] (vR o :: st) σ Q := q5 (show fnd (pgm m_X5_hold) 75 = some (77, 5, 0, 4, 1, []) from rfl) rfl ho
set_option maxRecDepth 100000 in
theorem s_X5_hold_77 {d : Nat} {l0 l1 l2 l3 l4 : AV} {st : List AV} {x : Int} {σ : Sg} {Q : AV → Sg → Prop}  : Rn d m_X5_hold 77 [l0, l1, l2, l3, l4, vI x] st σ Q ↔ Rn d m_X5_hold 79 [l0, l1, l2, l3, l4, vI x] (vI x :: st) σ Q := q3 (show fnd (pgm m_X5_hold) 77 = some (79, 3, 0, 5, 1, []) from rfl) rfl
set_option maxRecDepth 100000 in
theorem s_X5_hold_79 {d : Nat} {l0 l1 l2 l3 l4 l5 : AV} {st : List AV} {i : Int} {o : Nat} {σ : Sg} {Q : AV → Sg → Prop} (hi : 0 ≤ w32 i ∧ w32 i < al σ 3 o) : Rn d m_X5_hold 79 [l0, l1, l2, l3, l4, l5] (vI i :: vR o :: st) σ Q ↔ Rn d m_X5_hold 80 [l0, l1, l2, l3, l4, l5] (vI (σ o (w32 i)) :: st) σ Q := q27 (show fnd (pgm m_X5_hold) 79 = some (80, 27, 0, 0, 0, []) from rfl) hi
set_option maxRecDepth 100000 in
theorem s_X5_hold_80 {d : Nat} {l0 l1 l2 l3 l4 l5 : AV} {st : List AV} {a : Int} {σ : Sg} {Q : AV → Sg → Prop}  : Rn d m_X5_hold 80 [l0, l1, l2, l3, l4, l5] (vI a :: st) σ Q ↔ if w32 a = 0 then Rn d m_X5_hold 123 [l0, l1, l2, l3, l4, l5] st σ Q else Rn d m_X5_hold 83 [l0, l1, l2, l3, l4, l5] st σ Q := q19_0 (show fnd (pgm m_X5_hold) 80 = some (83, 19, 0, 0, 123, []) from rfl)
set_option maxRecDepth 100000 in
theorem s_X5_hold_83 {d : Nat} {l1 l2 l3 l4 l5 : AV} {st : List AV} {o : Nat} {σ : Sg} {Q : AV → Sg → Prop} (ho : o ≠ 0) : Rn d m_X5_hold 83 [vR o, l1, l2, l3, l4, l5] st σ Q ↔ Rn d m_X5_hold 84 [vR o, l1, l2, l3, l4, l5] (vR o :: st) σ Q := q5 (show fnd (pgm m_X5_hold) 83 = some (84, 5, 0, 0, 0, []) from rfl) rfl ho
set_option maxRecDepth 100000 in
theorem s_X5_hold_84 {d : Nat} {l0 l1 l2 l3 l4 l5 : AV} {st : List AV} {o : Nat} {σ : Sg} {Q : AV → Sg → Prop} (hk : kn σ o = (0, 5)) : Rn d m_X5_hold 84 [l0, l1, l2, l3, l4, l5] (vR o :: st) σ Q ↔ Rn d m_X5_hold 87 [l0, l1, l2, l3, l4, l5] (vR (tp o 0) :: st) σ Q := q33 (show fnd (pgm m_X5_hold) 84 = some (87, 33, 12, 5, 0, []) from rfl) hk
set_option maxRecDepth 100000 in
theorem s_X5_hold_87 {d : Nat} {l0 l1 l2 l3 l4 l5 : AV} {st : List AV} {o : Nat} {σ : Sg} {Q : AV → Sg → Prop} (hk : kn σ o = (0, 0)) : Rn d m_X5_hold 87 [l0, l1, l2, l3, l4, l5] (vR o :: st) σ Q ↔ Rn d m_X5_hold 90 [l0, l1, l2, l3, l4, l5] (vR (tp o 6) :: st) σ Q := q33 (show fnd (pgm m_X5_hold) 87 = some (90, 33, 92, 0, 6, []) from rfl) hk
set_option maxRecDepth 100000 in
theorem s_X5_hold_90 {d : Nat} {l0 l1 l2 l3 l4 : AV} {st : List AV} {x : Int} {σ : Sg} {Q : AV → Sg → Prop}  : Rn d m_X5_hold 90 [l0, l1, l2, l3, l4, vI x] st σ Q ↔ Rn d m_X5_hold 92 [l0, l1, l2, l3, l4, vI x] (vI x :: st) σ Q := q3 (show fnd (pgm m_X5_hold) 90 = some (92, 3, 0, 5, 1, []) from rfl) rfl
set_option maxRecDepth 100000 in
theorem s_X5_hold_92 {d : Nat} {l0 l1 l2 l3 l4 l5 : AV} {st : List AV} {i : Int} {o : Nat} {σ : Sg} {Q : AV → Sg → Prop} (hi : 0 ≤ w32 i ∧ w32 i < al σ 1 o) : Rn d m_X5_hold 92 [l0, l1, l2, l3, l4, l5] (vI i :: vR o :: st) σ Q ↔ Rn d m_X5_hold 93 [l0, l1, l2, l3, l4, l5] (vI (σ o (w32 i)) :: st) σ Q := q25 (show fnd (pgm m_X5_hold) 92 = some (93, 25, 0, 0, 0, []) from rfl) hi
set_option maxRecDepth 100000 in
theorem s_X5_hold_93 {d : Nat} {l0 l1 l2 l3 l4 l5 : AV} {st : List AV} {a : Int} {σ : Sg} {Q : AV → Sg → Prop}  : Rn d m_X5_hold 93 [l0, l1, l2, l3, l4, l5] (vI a :: st) σ Q ↔ if ¬ w32 a = 0 then Rn d m_X5_hold 123 [l0, l1, l2, l3, l4, l5] st σ Q else Rn d m_X5_hold 96 [l0, l1, l2, l3, l4, l5] st σ Q := q19_1 (show fnd (pgm m_X5_hold) 93 = some (96, 19, 0, 1, 123, []) from rfl)
set_option maxRecDepth 100000 in
theorem s_X5_hold_96 {d : Nat} {l1 l2 l3 l4 l5 : AV} {st : List AV} {o : Nat} {σ : Sg} {Q : AV → Sg → Prop} (ho : o ≠ 0) : Rn d m_X5_hold 96 [vR o, l1, l2, l3, l4, l5] st σ Q ↔ Rn d m_X5_hold 97 [vR o, l1, l2, l3, l4, l5] (vR o :: st) σ Q := q5 (show fnd (pgm m_X5_hold) 96 = some (97, 5, 0, 0, 0, []) from rfl) rfl ho
set_option maxRecDepth 100000 in
theorem s_X5_hold_97 {d : Nat} {l0 l1 l2 l3 l4 l5 : AV} {st : List AV} {o : Nat} {σ : Sg} {Q : AV → Sg → Prop} (hk : kn σ o = (0, 5)) : Rn d m_X5_hold 97 [l0, l1, l2, l3, l4, l5] (vR o :: st) σ Q ↔ Rn d m_X5_hold 100 [l0, l1, l2, l3, l4, l5] (vR (tp o 0) :: st) σ Q := q33 (show fnd (pgm m_X5_hold) 97 = some (100, 33, 12, 5, 0, []) from rfl) hk
set_option maxRecDepth 100000 in
theorem s_X5_hold_100 {d : Nat} {l0 l1 l2 l3 l4 : AV} {st : List AV} {x : Int} {σ : Sg} {Q : AV → Sg → Prop}  : Rn d m_X5_hold 100 [l0, l1, l2, l3, l4, vI x] st σ Q ↔ Rn d m_X5_hold 102 [l0, l1, l2, l3, l4, vI x] (vI x :: st) σ Q := q3 (show fnd (pgm m_X5_hold) 100 = some (102, 3, 0, 5, 1, []) from rfl) rfl
set_option maxRecDepth 100000 in
theorem s_X5_hold_102 {d : Nat} {l0 l1 l2 l3 l4 l5 : AV} {st : List AV} {o : Nat} {a0 : Int} {σ : Sg} {Q : AV → Sg → Prop} (h4 : st.length ≤ 4) (hk : kn σ o = (0, 0)) : Rn d m_X5_hold 102 [l0, l1, l2, l3, l4, l5] (vI a0 :: vR o :: st) σ Q ↔ ∃ r σ1, Ev d m_X0_isFirstCell [vR o, vI a0] σ r σ1 ∧ Rn d m_X5_hold 105 [l0, l1, l2, l3, l4, l5] (psh r st) σ1 Q := q35 (show fnd (pgm m_X5_hold) 102 = some (105, 35, 88, 0, 2, []) from rfl) ⟨⟨by simp, by simpa using h4⟩, (by simp only [List.take, List.reverse, List.reverseAux, rcv]; rw [if_neg (by decide +kernel)]; exact decide_eq_true hk)⟩
set_option maxRecDepth 100000 in
theorem s_X5_hold_105 {d : Nat} {l0 l1 l2 l3 l4 l5 : AV} {st : List AV} {a : Int} {σ : Sg} {Q : AV → Sg → Prop}  : Rn d m_X5_hold 105 [l0, l1, l2, l3, l4, l5] (vI a :: st) σ Q ↔ if ¬ w32 a = 0 then Rn d m_X5_hold 123 [l0, l1, l2, l3, l4, l5] st σ Q else Rn d m_X5_hold 108 [l0, l1, l2, l3, l4, l5] st σ Q := q19_1 (show fnd (pgm m_X5_hold) 105 = some (108, 19, 0, 1, 123, []) from rfl)
set_option maxRecDepth 100000 in
theorem s_X5_hold_108 {d : Nat} {l1 l2 l3 l4 l5 : AV} {st : List AV} {o : Nat} {σ : Sg} {Q : AV → Sg → Prop} (ho : o ≠ 0) : Rn d m_X5_hold 108 [vR o, l1, l2, l3, l4, l5] st σ Q ↔ Rn d m_X5_hold 109 [vR o, l1, l2, l3, l4, l5] (vR o :: st) σ Q := q5 (show fnd (pgm m_X5_hold) 108 = some (109, 5, 0, 0, 0, []) from rfl) rfl ho
set_option maxRecDepth 100000 in
theorem s_X5_hold_109 {d : Nat} {l0 l1 l2 l3 l4 : AV} {st : List AV} {x : Int} {σ : Sg} {Q : AV → Sg → Prop}  : Rn d m_X5_hold 109 [l0, l1, l2, l3, l4, vI x] st σ Q ↔ Rn d m_X5_hold 111 [l0, l1, l2, l3, l4, vI x] (vI x :: st) σ Q := q3 (show fnd (pgm m_X5_hold) 109 = some (111, 3, 0, 5, 1, []) from rfl) rfl
set_option maxRecDepth 100000 in
theorem s_X5_hold_111 {d : Nat} {l0 l2 l3 l4 l5 : AV} {st : List AV} {x : Int} {σ : Sg} {Q : AV → Sg → Prop}  : Rn d m_X5_hold 111 [l0, vI x, l2, l3, l4, l5] st σ Q ↔ Rn d m_X5_hold 112 [l0, vI x, l2, l3, l4, l5] (vI x :: st) σ Q := q3 (show fnd (pgm m_X5_hold) 111 = some (112, 3, 0, 1, 0, []) from rfl) rfl
set_option maxRecDepth 100000 in
theorem s_X5_hold_112 {d : Nat} {l0 l1 l3 l4 l5 : AV} {st : List AV} {x : Int} {σ : Sg} {Q : AV → Sg → Prop}  : Rn d m_X5_hold 112 [l0, l1, vI x, l3, l4, l5] st σ Q ↔ Rn d m_X5_hold 113 [l0, l1, vI x, l3, l4, l5] (vI x :: st) σ Q := q3 (show fnd (pgm m_X5_hold) 112 = some (113, 3, 0, 2, 0, []) from rfl) rfl
set_option maxRecDepth 100000 in
theorem s_X5_hold_113 {d : Nat} {l0 l1 l2 l3 l4 l5 : AV} {st : List AV} {o : Nat} {a0 : Int} {a1 : Int} {a2 : Int} {σ : Sg} {Q : AV → Sg → Prop} (h4 : st.length ≤ 4) (hk : kn σ o = (0, 5)) : Rn d m_X5_hold 113 [l0, l1, l2, l3, l4, l5] (vI a2 :: vI a1 :: vI a0 :: vR o :: st) σ Q ↔ ∃ r σ1, Ev d m_X5_cellWithStake [vR o, vI a0, vI a1, vI a2] σ r σ1 ∧ Rn d m_X5_hold 116 [l0, l1, l2, l3, l4, l5] (psh r st) σ1 Q := q35 (show fnd (pgm m_X5_hold) 113 = some (116, 35, 188, 94, 4, []) from rfl) ⟨⟨by simp, by simpa using h4⟩, (by simp only [List.take, List.reverse, List.reverseAux, rcv]; rw [if_neg (by decide +kernel)]; exact decide_eq_true hk)⟩
set_option maxRecDepth 100000 in
theorem s_X5_hold_116 {d : Nat} {l0 l1 l2 l4 l5 : AV} {st : List AV} {x : Int} {σ : Sg} {Q : AV → Sg → Prop}  : Rn d m_X5_hold 116 [l0, l1, l2, vI x, l4, l5] st σ Q ↔ Rn d m_X5_hold 117 [l0, l1, l2, vI x, l4, l5] (vI x :: st) σ Q := q3 (show fnd (pgm m_X5_hold) 116 = some (117, 3, 0, 3, 0, []) from rfl) rfl
set_option maxRecDepth 100000 in
theorem s_X5_hold_117 {d : Nat} {l0 l1 l2 l3 l4 l5 : AV} {st : List AV} {a b : Int} {σ : Sg} {Q : AV → Sg → Prop}  : Rn d m_X5_hold 117 [l0, l1, l2, l3, l4, l5] (vI b :: vI a :: st) σ Q ↔ if ¬ w32 a = w32 b then Rn d m_X5_hold 123 [l0, l1, l2, l3, l4, l5] st σ Q else Rn d m_X5_hold 120 [l0, l1, l2, l3, l4, l5] st σ Q := q20_1 (show fnd (pgm m_X5_hold) 117 = some (120, 20, 0, 1, 123, []) from rfl)
set_option maxRecDepth 100000 in
theorem s_X5_hold_120 {d : Nat} {l0 l1 l2 l3 l4 : AV} {st : List AV} {x : Int} {σ : Sg} {Q : AV → Sg → Prop}  : Rn d m_X5_hold 120 [l0, l1, l2, l3, l4, vI x] st σ Q ↔ Rn d m_X5_hold 122 [l0, l1, l2, l3, l4, vI x] (vI x :: st) σ Q := q3 (show fnd (pgm m_X5_hold) 120 = some (122, 3, 0, 5, 1, []) from rfl) rfl
set_option maxRecDepth 100000 in
theorem s_X5_hold_122 {d : Nat} {l0 l1 l2 l3 l4 l5 : AV} {x : Int} {σ : Sg} {Q : AV → Sg → Prop}  : Rn d m_X5_hold 122 [l0, l1, l2, l3, l4, l5] [vI x] σ Q ↔ Q (vI x) σ := q37_1 (st := []) (show fnd (pgm m_X5_hold) 122 = some (123, 37, 0, 1, 0, []) from rfl)
set_option maxRecDepth 100000 in
theorem s_X5_hold_123 {d : Nat} {l0 l1 l2 l3 l4 : AV} {st : List AV} {x : Int} {σ : Sg} {Q : AV → Sg → Prop}  : Rn d m_X5_hold 123 [l0, l1, l2, l3, l4, vI x] st σ Q ↔ Rn d m_X5_hold 126 [l0, l1, l2, l3, l4, vI (x + 1)] st σ Q := q9 (show fnd (pgm m_X5_hold) 123 = some (126, 9, 1, 5, 0, []) from rfl) rfl
set_option maxRecDepth 100000 in
theorem s_X5_hold_126 {d : Nat} {l0 l1 l2 l3 l4 l5 : AV} {st : List AV} {σ : Sg} {Q : AV → Sg → Prop}  : Rn d m_X5_hold 126 [l0, l1, l2, l3, l4, l5] st σ Q ↔ Rn d m_X5_hold 67 [l0, l1, l2, l3, l4, l5] st σ Q := q21 (show fnd (pgm m_X5_hold) 126 = some (129, 21, 0, 0, 67, []) from rfl)
set_option maxRecDepth 100000 in
theorem s_X5_hold_129 {d : Nat} {l0 l1 l2 l3 l4 l5 : AV} {st : List AV} {σ : Sg} {Q : AV → Sg → Prop}  : Rn d m_X5_hold 129 [l0, l1, l2, l3, l4, l5] st σ Q ↔ Rn d m_X5_hold 130 [l0, l1, l2, l3, l4, l5] (vI (-1) :: st) σ Q := q0 (show fnd (pgm m_X5_hold) 129 = some (130, 0, (-1), 0, 0, []) from rfl)
set_option maxRecDepth 100000 in
theorem s_X5_hold_130 {d : Nat} {l0 l1 l2 l3 l4 l5 : AV} {x : Int} {σ : Sg} {Q : AV → Sg → Prop}  : Rn d m_X5_hold 130 [l0, l1, l2, l3, l4, l5] [vI x] σ Q ↔ Q (vI x) σ := q37_1 (st := []) (show fnd (pgm m_X5_hold) 130 = some (131, 37, 0, 1, 0, []) from rfl)
set_option maxRecDepth 100000 in
theorem en_X5_spring {d : Nat} {o : Nat} {a0 : Int} {a1 : Int} {a2 : Int} {a3 : Int} {a4 : Int} {σ σ0 : Sg} {r0 : AV} (h : Rn d m_X5_spring 0 [vR o, vI a0, vI a1, vI a2, vI a3, vI a4, none, none, none] [] σ (fun r σ1 => r = r0 ∧ σ1 = σ0)) : Ev (d + 1) m_X5_spring [vR o, vI a0, vI a1, vI a2, vI a3, vI a4] σ r0 σ0 := Ev_is (Nat.le_of_ble_eq_true rfl) h
set_option maxRecDepth 100000 in
theorem eo_X5_spring {d : Nat} {o : Nat} {a0 : Int} {a1 : Int} {a2 : Int} {a3 : Int} {a4 : Int} {σ : Sg} {Q : AV → Sg → Prop} (h : Rn d m_X5_spring 0 [vR o, vI a0, vI a1, vI a2, vI a3, vI a4, none, none, none] [] σ Q) : ∃ r σ1, Ev (d + 1) m_X5_spring [vR o, vI a0, vI a1, vI a2, vI a3, vI a4] σ r σ1 ∧ Q r σ1 := Ev_of (Nat.le_of_ble_eq_true rfl) h
set_option maxRecDepth 100000 in
theorem s_X5_spring_0 {d : Nat} {l1 l2 l3 l4 l5 l6 l7 l8 : AV} {st : List AV} {o : Nat} {σ : Sg} {Q : AV → Sg → Prop} (ho : o ≠ 0) : Rn d m_X5_spring 0 [vR o, l1, l2, l3, l4, l5, l6, l7, l8] st σ Q ↔ Rn d m_X5_spring 1 [vR o, l1, l2, l3, l4, l5, l6, l7, l8] (vR o :: st) σ Q := q5 (show fnd (pgm m_X5_spring) 0 = some (1, 5, 0, 0, 0, []) from rfl) rfl ho
set_option maxRecDepth 100000 in
theorem s_X5_spring_1 {d : Nat} {l0 l2 l3 l4 l5 l6 l7 l8 : AV} {st : List AV} {x : Int} {σ : Sg} {Q : AV → Sg → Prop}  : Rn d m_X5_spring 1 [l0, vI x, l2, l3, l4, l5, l6, l7, l8] st σ Q ↔ Rn d m_X5_spring 2 [l0, vI x, l2, l3, l4, l5, l6, l7, l8] (vI x :: st) σ Q := q3 (show fnd (pgm m_X5_spring) 1 = some (2, 3, 0, 1, 0, []) from rfl) rfl
set_option maxRecDepth 100000 in
theorem s_X5_spring_2 {d : Nat} {l0 l1 l2 l3 l4 l5 l6 l7 l8 : AV} {st : List AV} {o : Nat} {a0 : Int} {σ : Sg} {Q : AV → Sg → Prop} (h4 : st.length ≤ 4) (hk : kn σ o = (0, 5)) : Rn d m_X5_spring 2 [l0, l1, l2, l3, l4, l5, l6, l7, l8] (vI a0 :: vR o :: st) σ Q ↔ ∃ r σ1, Ev d m_X5_isStone [vR o, vI a0] σ r σ1 ∧ Rn d m_X5_spring 5 [l0, l1, l2, l3, l4, l5, l6, l7, l8] (psh r st) σ1 Q := q35 (show fnd (pgm m_X5_spring) 2 = some (5, 35, 129, 90, 2, []) from rfl) ⟨⟨by simp, by simpa using h4⟩, (by simp only [List.take, List.reverse, List.reverseAux, rcv]; rw [if_neg (by decide +kernel)]; exact decide_eq_true hk)⟩
set_option maxRecDepth 100000 in
theorem s_X5_spring_5 {d : Nat} {l0 l1 l2 l3 l4 l5 l6 l7 l8 : AV} {st : List AV} {a : Int} {σ : Sg} {Q : AV → Sg → Prop}  : Rn d m_X5_spring 5 [l0, l1, l2, l3, l4, l5, l6, l7, l8] (vI a :: st) σ Q ↔ if w32 a = 0 then Rn d m_X5_spring 47 [l0, l1, l2, l3, l4, l5, l6, l7, l8] st σ Q else Rn d m_X5_spring 8 [l0, l1, l2, l3, l4, l5, l6, l7, l8] st σ Q := q19_0 (show fnd (pgm m_X5_spring) 5 = some (8, 19, 0, 0, 47, []) from rfl)
set_option maxRecDepth 100000 in
theorem s_X5_spring_8 {d : Nat} {l0 l1 l3 l4 l5 l6 l7 l8 : AV} {st : List AV} {x : Int} {σ : Sg} {Q : AV → Sg → Prop}  : Rn d m_X5_spring 8 [l0, l1, vI x, l3, l4, l5, l6, l7, l8] st σ Q ↔ Rn d m_X5_spring 9 [l0, l1, vI x, l3, l4, l5, l6, l7, l8] (vI x :: st) σ Q := q3 (show fnd (pgm m_X5_spring) 8 = some (9, 3, 0, 2, 0, []) from rfl) rfl
set_option maxRecDepth 100000 in
theorem s_X5_spring_9 {d : Nat} {l0 l1 l2 l3 l4 l5 l6 l7 l8 : AV} {st : List AV} {σ : Sg} {Q : AV → Sg → Prop}  : Rn d m_X5_spring 9 [l0, l1, l2, l3, l4, l5, l6, l7, l8] st σ Q ↔ Rn d m_X5_spring 11 [l0, l1, l2, l3, l4, l5, l6, l7, l8] (vI 9 :: st) σ Q := q0 (show fnd (pgm m_X5_spring) 9 = some (11, 0, 9, 1, 0, []) from rfl)
set_option maxRecDepth 100000 in
theorem s_X5_spring_11 {d : Nat} {l0 l1 l2 l3 l4 l5 l6 l7 l8 : AV} {st : List AV}  {a0 : Int} {a1 : Int} {σ : Sg} {Q : AV → Sg → Prop} (h4 : st.length ≤ 4) : Rn d m_X5_spring 11 [l0, l1, l2, l3, l4, l5, l6, l7, l8] (vI a1 :: vI a0 :: st) σ Q ↔ ∃ r σ1, Ev d m_X5_within [vI a0, vI a1] σ r σ1 ∧ Rn d m_X5_spring 14 [l0, l1, l2, l3, l4, l5, l6, l7, l8] (psh r st) σ1 Q := q35 (show fnd (pgm m_X5_spring) 11 = some (14, 35, 80, 89, 2, []) from rfl) ⟨⟨by simp, by simpa using h4⟩, rfl⟩
set_option maxRecDepth 100000 in
theorem s_X5_spring_14 {d : Nat} {l0 l1 l2 l3 l4 l5 l6 l7 l8 : AV} {st : List AV} {a : Int} {σ : Sg} {Q : AV → Sg → Prop}  : Rn d m_X5_spring 14 [l0, l1, l2, l3, l4, l5, l6, l7, l8] (vI a :: st) σ Q ↔ if w32 a = 0 then Rn d m_X5_spring 47 [l0, l1, l2, l3, l4, l5, l6, l7, l8] st σ Q else Rn d m_X5_spring 17 [l0, l1, l2, l3, l4, l5, l6, l7, l8] st σ Q := q19_0 (show fnd (pgm m_X5_spring) 14 = some (17, 19, 0, 0, 47, []) from rfl)
set_option maxRecDepth 100000 in
theorem s_X5_spring_17 {d : Nat} {l0 l1 l2 l4 l5 l6 l7 l8 : AV} {st : List AV} {x : Int} {σ : Sg} {Q : AV → Sg → Prop}  : Rn d m_X5_spring 17 [l0, l1, l2, vI x, l4, l5, l6, l7, l8] st σ Q ↔ Rn d m_X5_spring 18 [l0, l1, l2, vI x, l4, l5, l6, l7, l8] (vI x :: st) σ Q := q3 (show fnd (pgm m_X5_spring) 17 = some (18, 3, 0, 3, 0, []) from rfl) rfl
set_option maxRecDepth 100000 in
theorem s_X5_spring_18 {d : Nat} {l0 l1 l2 l3 l4 l5 l6 l7 l8 : AV} {st : List AV} {σ : Sg} {Q : AV → Sg → Prop}  : Rn d m_X5_spring 18 [l0, l1, l2, l3, l4, l5, l6, l7, l8] st σ Q ↔ Rn d m_X5_spring 20 [l0, l1, l2, l3, l4, l5, l6, l7, l8] (vI 100 :: st) σ Q := q0 (show fnd (pgm m_X5_spring) 18 = some (20, 0, 100, 1, 0, []) from rfl)
set_option maxRecDepth 100000 in
theorem s_X5_spring_20 {d : Nat} {l0 l1 l2 l3 l4 l5 l6 l7 l8 : AV} {st : List AV}  {a0 : Int} {a1 : Int} {σ : Sg} {Q : AV → Sg → Prop} (h4 : st.length ≤ 4) : Rn d m_X5_spring 20 [l0, l1, l2, l3, l4, l5, l6, l7, l8] (vI a1 :: vI a0 :: st) σ Q ↔ ∃ r σ1, Ev d m_X5_within [vI a0, vI a1] σ r σ1 ∧ Rn d m_X5_spring 23 [l0, l1, l2, l3, l4, l5, l6, l7, l8] (psh r st) σ1 Q := q35 (show fnd (pgm m_X5_spring) 20 = some (23, 35, 80, 89, 2, []) from rfl) ⟨⟨by simp, by simpa using h4⟩, rfl⟩
set_option maxRecDepth 100000 in
theorem s_X5_spring_23 {d : Nat} {l0 l1 l2 l3 l4 l5 l6 l7 l8 : AV} {st : List AV} {a : Int} {σ : Sg} {Q : AV → Sg → Prop}  : Rn d m_X5_spring 23 [l0, l1, l2, l3, l4, l5, l6, l7, l8] (vI a :: st) σ Q ↔ if w32 a = 0 then Rn d m_X5_spring 47 [l0, l1, l2, l3, l4, l5, l6, l7, l8] st σ Q else Rn d m_X5_spring 26 [l0, l1, l2, l3, l4, l5, l6, l7, l8] st σ Q := q19_0 (show fnd (pgm m_X5_spring) 23 = some (26, 19, 0, 0, 47, []) from rfl)
set_option maxRecDepth 100000 in
theorem s_X5_spring_26 {d : Nat} {l0 l1 l2 l3 l5 l6 l7 l8 : AV} {st : List AV} {x : Int} {σ : Sg} {Q : AV → Sg → Prop}  : Rn d m_X5_spring 26 [l0, l1, l2, l3, vI x, l5, l6, l7, l8] st σ Q ↔ Rn d m_X5_spring 28 [l0, l1, l2, l3, vI x, l5, l6, l7, l8] (vI x :: st) σ Q := q3 (show fnd (pgm m_X5_spring) 26 = some (28, 3, 0, 4, 1, []) from rfl) rfl
set_option maxRecDepth 100000 in
theorem s_X5_spring_28 {d : Nat} {l0 l1 l2 l3 l4 l5 l6 l7 l8 : AV} {st : List AV} {σ : Sg} {Q : AV → Sg → Prop}  : Rn d m_X5_spring 28 [l0, l1, l2, l3, l4, l5, l6, l7, l8] st σ Q ↔ Rn d m_X5_spring 30 [l0, l1, l2, l3, l4, l5, l6, l7, l8] (vI 10 :: st) σ Q := q0 (show fnd (pgm m_X5_spring) 28 = some (30, 0, 10, 1, 0, []) from rfl)
set_option maxRecDepth 100000 in
theorem s_X5_spring_30 {d : Nat} {l0 l1 l2 l3 l4 l5 l6 l7 l8 : AV} {st : List AV}  {a0 : Int} {a1 : Int} {σ : Sg} {Q : AV → Sg → Prop} (h4 : st.length ≤ 4) : Rn d m_X5_spring 30 [l0, l1, l2, l3, l4, l5, l6, l7, l8] (vI a1 :: vI a0 :: st) σ Q ↔ ∃ r σ1, Ev d m_X5_within [vI a0, vI a1] σ r σ1 ∧ Rn d m_X5_spring 33 [l0, l1, l2, l3, l4, l5, l6, l7, l8] (psh r st) σ1 Q := q35 (show fnd (pgm m_X5_spring) 30 = some (33, 35, 80, 89, 2, []) from rfl) ⟨⟨by simp, by simpa using h4⟩, rfl⟩
set_option maxRecDepth 100000 in
theorem s_X5_spring_33 {d : Nat} {l0 l1 l2 l3 l4 l5 l6 l7 l8 : AV} {st : List AV} {a : Int} {σ : Sg} {Q : AV → Sg → Prop}  : Rn d m_X5_spring 33 [l0, l1, l2, l3, l4, l5, l6, l7, l8] (vI a :: st) σ Q ↔ if w32 a = 0 then Rn d m_X5_spring 47 [l0, l1, l2, l3, l4, l5, l6, l7, l8] st σ Q else Rn d m_X5_spring 36 [l0, l1, l2, l3, l4, l5, l6, l7, l8] st σ Q := q19_0 (show fnd (pgm m_X5_spring) 33 = some (36, 19, 0, 0, 47, []) from rfl)
set_option maxRecDepth 100000 in
theorem s_X5_spring_36 {d : Nat} {l0 l1 l2 l3 l4 l6 l7 l8 : AV} {st : List AV} {x : Int} {σ : Sg} {Q : AV → Sg → Prop}  : Rn d m_X5_spring 36 [l0, l1, l2, l3, l4, vI x, l6, l7, l8] st σ Q ↔ Rn d m_X5_spring 38 [l0, l1, l2, l3, l4, vI x, l6, l7, l8] (vI x :: st) σ Q := q3 (show fnd (pgm m_X5_spring) 36 = some (38, 3, 0, 5, 1, []) from rfl) rfl
set_option maxRecDepth 100000 in
theorem s_X5_spring_38 {d : Nat} {l0 l1 l2 l3 l4 l5 l6 l7 l8 : AV} {st : List AV} {σ : Sg} {Q : AV → Sg → Prop}  : Rn d m_X5_spring 38 [l0, l1, l2, l3, l4, l5, l6, l7, l8] st σ Q ↔ Rn d m_X5_spring 41 [l0, l1, l2, l3, l4, l5, l6, l7, l8] (vI 144 :: st) σ Q := q0 (show fnd (pgm m_X5_spring) 38 = some (41, 0, 144, 2, 0, []) from rfl)
set_option maxRecDepth 100000 in
theorem s_X5_spring_41 {d : Nat} {l0 l1 l2 l3 l4 l5 l6 l7 l8 : AV} {st : List AV}  {a0 : Int} {a1 : Int} {σ : Sg} {Q : AV → Sg → Prop} (h4 : st.length ≤ 4) : Rn d m_X5_spring 41 [l0, l1, l2, l3, l4, l5, l6, l7, l8] (vI a1 :: vI a0 :: st) σ Q ↔ ∃ r σ1, Ev d m_X5_within [vI a0, vI a1] σ r σ1 ∧ Rn d m_X5_spring 44 [l0, l1, l2, l3, l4, l5, l6, l7, l8] (psh r st) σ1 Q := q35 (show fnd (pgm m_X5_spring) 41 = some (44, 35, 80, 89, 2, []) from rfl) ⟨⟨by simp, by simpa using h4⟩, rfl⟩
set_option maxRecDepth 100000 in
theorem s_X5_spring_44 {d : Nat} {l0 l1 l2 l3 l4 l5 l6 l7 l8 : AV} {st : List AV} {a : Int} {σ : Sg} {Q : AV → Sg → Prop}  : Rn d m_X5_spring 44 [l0, l1, l2, l3, l4, l5, l6, l7, l8] (vI a :: st) σ Q ↔ if ¬ w32 a = 0 then Rn d m_X5_spring 56 [l0, l1, l2, l3, l4, l5, l6, l7, l8] st σ Q else Rn d m_X5_spring 47 [l0, l1, l2, l3, l4, l5, l6, l7, l8] st σ Q := q19_1 (show fnd (pgm m_X5_spring) 44 = some (47, 19, 0, 1, 56, []) from rfl)
set_option maxRecDepth 100000 in
theorem s_X5_spring_47 {d : Nat} {l1 l2 l3 l4 l5 l6 l7 l8 : AV} {st : List AV} {o : Nat} {σ : Sg} {Q : AV → Sg → Prop} (ho : o ≠ 0) : Rn d m_X5_spring 47 [vR o, l1, l2, l3, l4, l5, l6, l7, l8] st σ Q ↔ Rn d m_X5_spring 48 [vR o, l1, l2, l3, l4, l5, l6, l7, l8] (vR o :: st) σ Q := q5 (show fnd (pgm m_X5_spring) 47 = some (48, 5, 0, 0, 0, []) from rfl) rfl ho
set_option maxRecDepth 100000 in
theorem s_X5_spring_48 {d : Nat} {l0 l1 l2 l3 l4 l5 l6 l7 l8 : AV} {st : List AV} {σ : Sg} {Q : AV → Sg → Prop}  : Rn d m_X5_spring 48 [l0, l1, l2, l3, l4, l5, l6, l7, l8] st σ Q ↔ Rn d m_X5_spring 50 [l0, l1, l2, l3, l4, l5, l6, l7, l8] (vI (-2) :: st) σ Q := q0 (show fnd (pgm m_X5_spring) 48 = some (50, 0, (-2), 1, 0, []) from rfl)
set_option maxRecDepth 100000 in
theorem s_X5_spring_50 {d : Nat} {l0 l1 l2 l3 l4 l5 l6 l7 l8 : AV} {st : List AV} {σ : Sg} {Q : AV → Sg → Prop}  : Rn d m_X5_spring 50 [l0, l1, l2, l3, l4, l5, l6, l7, l8] st σ Q ↔ Rn d m_X5_spring 52 [l0, l1, l2, l3, l4, l5, l6, l7, l8] (vI (-2) :: st) σ Q := q0 (show fnd (pgm m_X5_spring) 50 = some (52, 0, (-2), 1, 0, []) from rfl)
set_option maxRecDepth 100000 in
theorem s_X5_spring_52 {d : Nat} {l0 l1 l2 l3 l4 l5 l6 l7 l8 : AV} {st : List AV} {o : Nat} {a0 : Int} {a1 : Int} {σ : Sg} {Q : AV → Sg → Prop} (h4 : st.length ≤ 4) (hk : kn σ o = (0, 5)) : Rn d m_X5_spring 52 [l0, l1, l2, l3, l4, l5, l6, l7, l8] (vI a1 :: vI a0 :: vR o :: st) σ Q ↔ ∃ r σ1, Ev d m_X5_refuse [vR o, vI a0, vI a1] σ r σ1 ∧ Rn d m_X5_spring 55 [l0, l1, l2, l3, l4, l5, l6, l7, l8] (psh r st) σ1 Q := q35 (show fnd (pgm m_X5_spring) 52 = some (55, 35, 84, 92, 3, []) from rfl) ⟨⟨by simp, by simpa using h4⟩, (by simp only [List.take, List.reverse, List.reverseAux, rcv]; rw [if_neg (by decide +kernel)]; exact decide_eq_true hk)⟩
set_option maxRecDepth 100000 in
theorem s_X5_spring_55 {d : Nat} {l0 l1 l2 l3 l4 l5 l6 l7 l8 : AV} {x : Int} {σ : Sg} {Q : AV → Sg → Prop}  : Rn d m_X5_spring 55 [l0, l1, l2, l3, l4, l5, l6, l7, l8] [vI x] σ Q ↔ Q (vI x) σ := q37_1 (st := []) (show fnd (pgm m_X5_spring) 55 = some (56, 37, 0, 1, 0, []) from rfl)
set_option maxRecDepth 100000 in
theorem s_X5_spring_56 {d : Nat} {l1 l2 l3 l4 l5 l6 l7 l8 : AV} {st : List AV} {o : Nat} {σ : Sg} {Q : AV → Sg → Prop} (ho : o ≠ 0) : Rn d m_X5_spring 56 [vR o, l1, l2, l3, l4, l5, l6, l7, l8] st σ Q ↔ Rn d m_X5_spring 57 [vR o, l1, l2, l3, l4, l5, l6, l7, l8] (vR o :: st) σ Q := q5 (show fnd (pgm m_X5_spring) 56 = some (57, 5, 0, 0, 0, []) from rfl) rfl ho
set_option maxRecDepth 100000 in
theorem s_X5_spring_57 {d : Nat} {l0 l1 l2 l3 l4 l5 l6 l7 l8 : AV} {st : List AV} {o : Nat} {σ : Sg} {Q : AV → Sg → Prop} (hk : kn σ o = (0, 5)) : Rn d m_X5_spring 57 [l0, l1, l2, l3, l4, l5, l6, l7, l8] (vR o :: st) σ Q ↔ Rn d m_X5_spring 60 [l0, l1, l2, l3, l4, l5, l6, l7, l8] (vR (tp o 9) :: st) σ Q := q33 (show fnd (pgm m_X5_spring) 57 = some (60, 33, 52, 5, 9, []) from rfl) hk
set_option maxRecDepth 100000 in
theorem s_X5_spring_60 {d : Nat} {l0 l1 l2 l3 l4 l5 l6 l7 l8 : AV} {st : List AV} {σ : Sg} {Q : AV → Sg → Prop}  : Rn d m_X5_spring 60 [l0, l1, l2, l3, l4, l5, l6, l7, l8] st σ Q ↔ Rn d m_X5_spring 61 [l0, l1, l2, l3, l4, l5, l6, l7, l8] (vL 0 :: st) σ Q := q1 (show fnd (pgm m_X5_spring) 60 = some (61, 1, 0, 0, 0, []) from rfl)
set_option maxRecDepth 100000 in
theorem s_X5_spring_61 {d : Nat} {l0 l1 l2 l3 l4 l5 l6 l7 l8 : AV} {st : List AV}  {a0 : Nat} {a1 : Int} {σ : Sg} {Q : AV → Sg → Prop} (h4 : st.length ≤ 4) : Rn d m_X5_spring 61 [l0, l1, l2, l3, l4, l5, l6, l7, l8] (vL a1 :: vR a0 :: st) σ Q ↔ ∃ r σ1, Ev d m_J7_fill_d0a16 [vR a0, vL a1] σ r σ1 ∧ Rn d m_X5_spring 64 [l0, l1, l2, l3, l4, l5, l6, l7, l8] (psh r st) σ1 Q := q35 (show fnd (pgm m_X5_spring) 61 = some (64, 35, 191, 177, 2, []) from rfl) ⟨⟨by simp, by simpa using h4⟩, rfl⟩
set_option maxRecDepth 100000 in
theorem s_X5_spring_64 {d : Nat} {l1 l2 l3 l4 l5 l6 l7 l8 : AV} {st : List AV} {o : Nat} {σ : Sg} {Q : AV → Sg → Prop} (ho : o ≠ 0) : Rn d m_X5_spring 64 [vR o, l1, l2, l3, l4, l5, l6, l7, l8] st σ Q ↔ Rn d m_X5_spring 65 [vR o, l1, l2, l3, l4, l5, l6, l7, l8] (vR o :: st) σ Q := q5 (show fnd (pgm m_X5_spring) 64 = some (65, 5, 0, 0, 0, []) from rfl) rfl ho
set_option maxRecDepth 100000 in
theorem s_X5_spring_65 {d : Nat} {l0 l1 l2 l3 l4 l5 l6 l7 l8 : AV} {st : List AV} {o : Nat} {σ : Sg} {Q : AV → Sg → Prop} (hk : kn σ o = (0, 5)) : Rn d m_X5_spring 65 [l0, l1, l2, l3, l4, l5, l6, l7, l8] (vR o :: st) σ Q ↔ Rn d m_X5_spring 68 [l0, l1, l2, l3, l4, l5, l6, l7, l8] (vR (tp o 9) :: st) σ Q := q33 (show fnd (pgm m_X5_spring) 65 = some (68, 33, 52, 5, 9, []) from rfl) hk
set_option maxRecDepth 100000 in
theorem s_X5_spring_68 {d : Nat} {l1 l2 l3 l4 l5 l6 l7 l8 : AV} {st : List AV} {o : Nat} {σ : Sg} {Q : AV → Sg → Prop} (ho : o ≠ 0) : Rn d m_X5_spring 68 [vR o, l1, l2, l3, l4, l5, l6, l7, l8] st σ Q ↔ Rn d m_X5_spring 69 [vR o, l1, l2, l3, l4, l5, l6, l7, l8] (vR o :: st) σ Q := q5 (show fnd (pgm m_X5_spring) 68 = some (69, 5, 0, 0, 0, []) from rfl) rfl ho
set_option maxRecDepth 100000 in
theorem s_X5_spring_69 {d : Nat} {l0 l1 l2 l3 l4 l5 l6 l7 l8 : AV} {st : List AV} {o : Nat} {σ : Sg} {Q : AV → Sg → Prop} (hk : kn σ o = (0, 5)) : Rn d m_X5_spring 69 [l0, l1, l2, l3, l4, l5, l6, l7, l8] (vR o :: st) σ Q ↔ Rn d m_X5_spring 72 [l0, l1, l2, l3, l4, l5, l6, l7, l8] (vR (tp o 0) :: st) σ Q := q33 (show fnd (pgm m_X5_spring) 69 = some (72, 33, 12, 5, 0, []) from rfl) hk
set_option maxRecDepth 100000 in
theorem s_X5_spring_72 {d : Nat} {l0 l1 l2 l3 l4 l5 l6 l7 l8 : AV} {st : List AV} {o : Nat} {σ : Sg} {Q : AV → Sg → Prop} (hk : kn σ o = (0, 0)) : Rn d m_X5_spring 72 [l0, l1, l2, l3, l4, l5, l6, l7, l8] (vR o :: st) σ Q ↔ Rn d m_X5_spring 75 [l0, l1, l2, l3, l4, l5, l6, l7, l8] (vR (tp o 2) :: st) σ Q := q33 (show fnd (pgm m_X5_spring) 72 = some (75, 33, 181, 0, 2, []) from rfl) hk
set_option maxRecDepth 100000 in
theorem s_X5_spring_75 {d : Nat} {l0 l2 l3 l4 l5 l6 l7 l8 : AV} {st : List AV} {x : Int} {σ : Sg} {Q : AV → Sg → Prop}  : Rn d m_X5_spring 75 [l0, vI x, l2, l3, l4, l5, l6, l7, l8] st σ Q ↔ Rn d m_X5_spring 76 [l0, vI x, l2, l3, l4, l5, l6, l7, l8] (vI x :: st) σ Q := q3 (show fnd (pgm m_X5_spring) 75 = some (76, 3, 0, 1, 0, []) from rfl) rfl
set_option maxRecDepth 100000 in
theorem s_X5_spring_76 {d : Nat} {l0 l1 l2 l3 l4 l5 l6 l7 l8 : AV} {st : List AV} {i : Int} {o : Nat} {σ : Sg} {Q : AV → Sg → Prop} (hi : 0 ≤ w32 i ∧ w32 i < al σ 1 o) : Rn d m_X5_spring 76 [l0, l1, l2, l3, l4, l5, l6, l7, l8] (vI i :: vR o :: st) σ Q ↔ Rn d m_X5_spring 77 [l0, l1, l2, l3, l4, l5, l6, l7, l8] (vI (σ o (w32 i)) :: st) σ Q := q25 (show fnd (pgm m_X5_spring) 76 = some (77, 25, 0, 0, 0, []) from rfl) hi
set_option maxRecDepth 100000 in
theorem s_X5_spring_77 {d : Nat} {l0 l1 l2 l3 l4 l5 l6 l7 l8 : AV} {st : List AV} {σ : Sg} {Q : AV → Sg → Prop}  : Rn d m_X5_spring 77 [l0, l1, l2, l3, l4, l5, l6, l7, l8] st σ Q ↔ Rn d m_X5_spring 78 [l0, l1, l2, l3, l4, l5, l6, l7, l8] (vL 1 :: st) σ Q := q1 (show fnd (pgm m_X5_spring) 77 = some (78, 1, 1, 0, 0, []) from rfl)
set_option maxRecDepth 100000 in
theorem s_X5_spring_78 {d : Nat} {l0 l1 l2 l3 l4 l5 l6 l7 l8 : AV} {st : List AV} {i x : Int} {o : Nat} {σ : Sg} {Q : AV → Sg → Prop} (hi : 0 ≤ w32 i ∧ w32 i < al σ 2 o) : Rn d m_X5_spring 78 [l0, l1, l2, l3, l4, l5, l6, l7, l8] (vL x :: vI i :: vR o :: st) σ Q ↔ Rn d m_X5_spring 79 [l0, l1, l2, l3, l4, l5, l6, l7, l8] st (up σ o (w32 i) x) Q := q30 (show fnd (pgm m_X5_spring) 78 = some (79, 30, 0, 0, 0, []) from rfl) hi
set_option maxRecDepth 100000 in
theorem s_X5_spring_79 {d : Nat} {l0 l1 l2 l3 l4 l5 l6 l7 l8 : AV} {st : List AV} {σ : Sg} {Q : AV → Sg → Prop}  : Rn d m_X5_spring 79 [l0, l1, l2, l3, l4, l5, l6, l7, l8] st σ Q ↔ Rn d m_X5_spring 80 [l0, l1, l2, l3, l4, l5, l6, l7, l8] (vL 1 :: st) σ Q := q1 (show fnd (pgm m_X5_spring) 79 = some (80, 1, 1, 0, 0, []) from rfl)
set_option maxRecDepth 100000 in
theorem s_X5_spring_80 {d : Nat} {l0 l1 l2 l3 l4 l5 l6 l7 l8 : AV} {st : List AV} {x : Int} {σ : Sg} {Q : AV → Sg → Prop}  : Rn d m_X5_spring 80 [l0, l1, l2, l3, l4, l5, l6, l7, l8] (vL x :: st) σ Q ↔ Rn d m_X5_spring 82 [l0, l1, l2, l3, l4, l5, vL x, none, l8] st σ Q := q7 (show fnd (pgm m_X5_spring) 80 = some (82, 7, 0, 6, 1, []) from rfl) (by decide : 7 < 9)
set_option maxRecDepth 100000 in
theorem s_X5_spring_82 {d : Nat} {l0 l1 l2 l3 l4 l5 l6 l7 l8 : AV} {st : List AV} {σ : Sg} {Q : AV → Sg → Prop}  : Rn d m_X5_spring 82 [l0, l1, l2, l3, l4, l5, l6, l7, l8] st σ Q ↔ Rn d m_X5_spring 83 [l0, l1, l2, l3, l4, l5, l6, l7, l8] (vI 0 :: st) σ Q := q0 (show fnd (pgm m_X5_spring) 82 = some (83, 0, 0, 0, 0, []) from rfl)
set_option maxRecDepth 100000 in
theorem s_X5_spring_83 {d : Nat} {l0 l1 l2 l3 l4 l5 l6 l7 l8 : AV} {st : List AV} {x : Int} {σ : Sg} {Q : AV → Sg → Prop}  : Rn d m_X5_spring 83 [l0, l1, l2, l3, l4, l5, l6, l7, l8] (vI x :: st) σ Q ↔ Rn d m_X5_spring 85 [l0, l1, l2, l3, l4, l5, l6, l7, vI x] st σ Q := q6 (show fnd (pgm m_X5_spring) 83 = some (85, 6, 0, 8, 1, []) from rfl) (by decide : 8 < 9)
set_option maxRecDepth 100000 in
theorem s_X5_spring_85 {d : Nat} {l0 l1 l2 l3 l4 l5 l6 l7 : AV} {st : List AV} {x : Int} {σ : Sg} {Q : AV → Sg → Prop}  : Rn d m_X5_spring 85 [l0, l1, l2, l3, l4, l5, l6, l7, vI x] st σ Q ↔ Rn d m_X5_spring 87 [l0, l1, l2, l3, l4, l5, l6, l7, vI x] (vI x :: st) σ Q := q3 (show fnd (pgm m_X5_spring) 85 = some (87, 3, 0, 8, 1, []) from rfl) rfl
set_option maxRecDepth 100000 in
theorem s_X5_spring_87 {d : Nat} {l0 l1 l3 l4 l5 l6 l7 l8 : AV} {st : List AV} {x : Int} {σ : Sg} {Q : AV → Sg → Prop}  : Rn d m_X5_spring 87 [l0, l1, vI x, l3, l4, l5, l6, l7, l8] st σ Q ↔ Rn d m_X5_spring 88 [l0, l1, vI x, l3, l4, l5, l6, l7, l8] (vI x :: st) σ Q := q3 (show fnd (pgm m_X5_spring) 87 = some (88, 3, 0, 2, 0, []) from rfl) rfl
set_option maxRecDepth 100000 in
theorem s_X5_spring_88 {d : Nat} {l0 l1 l2 l3 l4 l5 l6 l7 l8 : AV} {st : List AV} {a b : Int} {σ : Sg} {Q : AV → Sg → Prop}  : Rn d m_X5_spring 88 [l0, l1, l2, l3, l4, l5, l6, l7, l8] (vI b :: vI a :: st) σ Q ↔ if w32 b ≤ w32 a then Rn d m_X5_spring 114 [l0, l1, l2, l3, l4, l5, l6, l7, l8] st σ Q else Rn d m_X5_spring 91 [l0, l1, l2, l3, l4, l5, l6, l7, l8] st σ Q := q20_3 (show fnd (pgm m_X5_spring) 88 = some (91, 20, 0, 3, 114, []) from rfl)
set_option maxRecDepth 100000 in
theorem s_X5_spring_91 {d : Nat} {l1 l2 l3 l4 l5 l6 l7 l8 : AV} {st : List AV} {o : Nat} {σ : Sg} {Q : AV → Sg → Prop} (ho : o ≠ 0) : Rn d m_X5_spring 91 [vR o, l1, l2, l3, l4, l5, l6, l7, l8] st σ Q ↔ Rn d m_X5_spring 92 [vR o, l1, l2, l3, l4, l5, l6, l7, l8] (vR o :: st) σ Q := q5 (show fnd (pgm m_X5_spring) 91 = some (92, 5, 0, 0, 0, []) from rfl) rfl ho
set_option maxRecDepth 100000 in
theorem s_X5_spring_92 {d : Nat} {l0 l2 l3 l4 l5 l6 l7 l8 : AV} {st : List AV} {x : Int} {σ : Sg} {Q : AV → Sg → Prop}  : Rn d m_X5_spring 92 [l0, vI x, l2, l3, l4, l5, l6, l7, l8] st σ Q ↔ Rn d m_X5_spring 93 [l0, vI x, l2, l3, l4, l5, l6, l7, l8] (vI x :: st) σ Q := q3 (show fnd (pgm m_X5_spring) 92 = some (93, 3, 0, 1, 0, []) from rfl) rfl
set_option maxRecDepth 100000 in
theorem s_X5_spring_93 {d : Nat} {l0 l1 l2 l4 l5 l6 l7 l8 : AV} {st : List AV} {x : Int} {σ : Sg} {Q : AV → Sg → Prop}  : Rn d m_X5_spring 93 [l0, l1, l2, vI x, l4, l5, l6, l7, l8] st σ Q ↔ Rn d m_X5_spring 94 [l0, l1, l2, vI x, l4, l5, l6, l7, l8] (vI x :: st) σ Q := q3 (show fnd (pgm m_X5_spring) 93 = some (94, 3, 0, 3, 0, []) from rfl) rfl
set_option maxRecDepth 100000 in
theorem s_X5_spring_94 {d : Nat} {l0 l1 l2 l3 l5 l6 l7 l8 : AV} {st : List AV} {x : Int} {σ : Sg} {Q : AV → Sg → Prop}  : Rn d m_X5_spring 94 [l0, l1, l2, l3, vI x, l5, l6, l7, l8] st σ Q ↔ Rn d m_X5_spring 96 [l0, l1, l2, l3, vI x, l5, l6, l7, l8] (vI x :: st) σ Q := q3 (show fnd (pgm m_X5_spring) 94 = some (96, 3, 0, 4, 1, []) from rfl) rfl
set_option maxRecDepth 100000 in
theorem s_X5_spring_96 {d : Nat} {l0 l1 l2 l3 l4 l5 l6 l7 l8 : AV} {st : List AV} {a b : Int} {σ : Sg} {Q : AV → Sg → Prop}  : Rn d m_X5_spring 96 [l0, l1, l2, l3, l4, l5, l6, l7, l8] (vI b :: vI a :: st) σ Q ↔ Rn d m_X5_spring 97 [l0, l1, l2, l3, l4, l5, l6, l7, l8] (vI (a * b) :: st) σ Q := q10_2 (show fnd (pgm m_X5_spring) 96 = some (97, 10, 0, 2, 0, []) from rfl)
set_option maxRecDepth 100000 in
theorem s_X5_spring_97 {d : Nat} {l0 l1 l2 l3 l4 l5 l6 l7 l8 : AV} {st : List AV} {o : Nat} {a0 : Int} {a1 : Int} {σ : Sg} {Q : AV → Sg → Prop} (h4 : st.length ≤ 4) (hk : kn σ o = (0, 5)) : Rn d m_X5_spring 97 [l0, l1, l2, l3, l4, l5, l6, l7, l8] (vI a1 :: vI a0 :: vR o :: st) σ Q ↔ ∃ r σ1, Ev d m_X5_spread [vR o, vI a0, vI a1] σ r σ1 ∧ Rn d m_X5_spring 100 [l0, l1, l2, l3, l4, l5, l6, l7, l8] (psh r st) σ1 Q := q35 (show fnd (pgm m_X5_spring) 97 = some (100, 35, 197, 96, 3, []) from rfl) ⟨⟨by simp, by simpa using h4⟩, (by simp only [List.take, List.reverse, List.reverseAux, rcv]; rw [if_neg (by decide +kernel)]; exact decide_eq_true hk)⟩
set_option maxRecDepth 100000 in
theorem s_X5_spring_100 {d : Nat} {l0 l1 l2 l3 l4 l5 l8 : AV} {st : List AV} {x : Int} {σ : Sg} {Q : AV → Sg → Prop}  : Rn d m_X5_spring 100 [l0, l1, l2, l3, l4, l5, vL x, none, l8] st σ Q ↔ Rn d m_X5_spring 102 [l0, l1, l2, l3, l4, l5, vL x, none, l8] (vL x :: st) σ Q := q4 (show fnd (pgm m_X5_spring) 100 = some (102, 4, 0, 6, 1, []) from rfl) rfl rfl
set_option maxRecDepth 100000 in
theorem s_X5_spring_102 {d : Nat} {l0 l1 l2 l3 l4 l5 l6 l7 l8 : AV} {st : List AV} {σ : Sg} {Q : AV → Sg → Prop}  : Rn d m_X5_spring 102 [l0, l1, l2, l3, l4, l5, l6, l7, l8] st σ Q ↔ Rn d m_X5_spring 105 [l0, l1, l2, l3, l4, l5, l6, l7, l8] (vL 4 :: st) σ Q := q1 (show fnd (pgm m_X5_spring) 102 = some (105, 1, 4, 1, 201, []) from rfl)
set_option maxRecDepth 100000 in
theorem s_X5_spring_105 {d : Nat} {l0 l1 l2 l3 l4 l5 l6 l7 l8 : AV} {st : List AV} {a b : Int} {σ : Sg} {Q : AV → Sg → Prop}  : Rn d m_X5_spring 105 [l0, l1, l2, l3, l4, l5, l6, l7, l8] (vL b :: vL a :: st) σ Q ↔ Rn d m_X5_spring 106 [l0, l1, l2, l3, l4, l5, l6, l7, l8] (vL (a * b) :: st) σ Q := q11_2 (show fnd (pgm m_X5_spring) 105 = some (106, 11, 0, 2, 0, []) from rfl)
set_option maxRecDepth 100000 in
theorem s_X5_spring_106 {d : Nat} {l0 l1 l2 l3 l4 l5 l6 l7 l8 : AV} {st : List AV} {x : Int} {σ : Sg} {Q : AV → Sg → Prop}  : Rn d m_X5_spring 106 [l0, l1, l2, l3, l4, l5, l6, l7, l8] (vL x :: st) σ Q ↔ Rn d m_X5_spring 108 [l0, l1, l2, l3, l4, l5, vL x, none, l8] st σ Q := q7 (show fnd (pgm m_X5_spring) 106 = some (108, 7, 0, 6, 1, []) from rfl) (by decide : 7 < 9)
set_option maxRecDepth 100000 in
theorem s_X5_spring_108 {d : Nat} {l0 l1 l2 l3 l4 l5 l6 l7 : AV} {st : List AV} {x : Int} {σ : Sg} {Q : AV → Sg → Prop}  : Rn d m_X5_spring 108 [l0, l1, l2, l3, l4, l5, l6, l7, vI x] st σ Q ↔ Rn d m_X5_spring 111 [l0, l1, l2, l3, l4, l5, l6, l7, vI (x + 1)] st σ Q := q9 (show fnd (pgm m_X5_spring) 108 = some (111, 9, 1, 8, 0, []) from rfl) rfl
set_option maxRecDepth 100000 in
theorem s_X5_spring_111 {d : Nat} {l0 l1 l2 l3 l4 l5 l6 l7 l8 : AV} {st : List AV} {σ : Sg} {Q : AV → Sg → Prop}  : Rn d m_X5_spring 111 [l0, l1, l2, l3, l4, l5, l6, l7, l8] st σ Q ↔ Rn d m_X5_spring 85 [l0, l1, l2, l3, l4, l5, l6, l7, l8] st σ Q := q21 (show fnd (pgm m_X5_spring) 111 = some (114, 21, 0, 0, 85, []) from rfl)
set_option maxRecDepth 100000 in
theorem s_X5_spring_114 {d : Nat} {l1 l2 l3 l4 l5 l6 l7 l8 : AV} {st : List AV} {o : Nat} {σ : Sg} {Q : AV → Sg → Prop} (ho : o ≠ 0) : Rn d m_X5_spring 114 [vR o, l1, l2, l3, l4, l5, l6, l7, l8] st σ Q ↔ Rn d m_X5_spring 115 [vR o, l1, l2, l3, l4, l5, l6, l7, l8] (vR o :: st) σ Q := q5 (show fnd (pgm m_X5_spring) 114 = some (115, 5, 0, 0, 0, []) from rfl) rfl ho
set_option maxRecDepth 100000 in
theorem s_X5_spring_115 {d : Nat} {l1 l2 l3 l4 l5 l6 l7 l8 : AV} {st : List AV} {o : Nat} {σ : Sg} {Q : AV → Sg → Prop} (ho : o ≠ 0) : Rn d m_X5_spring 115 [vR o, l1, l2, l3, l4, l5, l6, l7, l8] st σ Q ↔ Rn d m_X5_spring 116 [vR o, l1, l2, l3, l4, l5, l6, l7, l8] (vR o :: st) σ Q := q5 (show fnd (pgm m_X5_spring) 115 = some (116, 5, 0, 0, 0, []) from rfl) rfl ho
set_option maxRecDepth 100000 in
theorem s_X5_spring_116 {d : Nat} {l0 l1 l2 l3 l4 l5 l6 l7 l8 : AV} {st : List AV} {o : Nat} {σ : Sg} {Q : AV → Sg → Prop} (hk : kn σ o = (0, 5)) : Rn d m_X5_spring 116 [l0, l1, l2, l3, l4, l5, l6, l7, l8] (vR o :: st) σ Q ↔ Rn d m_X5_spring 119 [l0, l1, l2, l3, l4, l5, l6, l7, l8] (vR (tp o 9) :: st) σ Q := q33 (show fnd (pgm m_X5_spring) 116 = some (119, 33, 52, 5, 9, []) from rfl) hk
set_option maxRecDepth 100000 in
theorem s_X5_spring_119 {d : Nat} {l0 l1 l2 l3 l4 l6 l7 l8 : AV} {st : List AV} {x : Int} {σ : Sg} {Q : AV → Sg → Prop}  : Rn d m_X5_spring 119 [l0, l1, l2, l3, l4, vI x, l6, l7, l8] st σ Q ↔ Rn d m_X5_spring 121 [l0, l1, l2, l3, l4, vI x, l6, l7, l8] (vI x :: st) σ Q := q3 (show fnd (pgm m_X5_spring) 119 = some (121, 3, 0, 5, 1, []) from rfl) rfl
set_option maxRecDepth 100000 in
theorem s_X5_spring_121 {d : Nat} {l0 l1 l2 l3 l4 l5 l6 l7 l8 : AV} {st : List AV} {i : Int} {o : Nat} {σ : Sg} {Q : AV → Sg → Prop} (hi : 0 ≤ w32 i ∧ w32 i < al σ 2 o) : Rn d m_X5_spring 121 [l0, l1, l2, l3, l4, l5, l6, l7, l8] (vI i :: vR o :: st) σ Q ↔ Rn d m_X5_spring 122 [l0, l1, l2, l3, l4, l5, l6, l7, l8] (vL (σ o (w32 i)) :: st) σ Q := q26 (show fnd (pgm m_X5_spring) 121 = some (122, 26, 0, 0, 0, []) from rfl) hi
set_option maxRecDepth 100000 in
theorem s_X5_spring_122 {d : Nat} {l0 l1 l2 l3 l4 l5 l8 : AV} {st : List AV} {x : Int} {σ : Sg} {Q : AV → Sg → Prop}  : Rn d m_X5_spring 122 [l0, l1, l2, l3, l4, l5, vL x, none, l8] st σ Q ↔ Rn d m_X5_spring 124 [l0, l1, l2, l3, l4, l5, vL x, none, l8] (vL x :: st) σ Q := q4 (show fnd (pgm m_X5_spring) 122 = some (124, 4, 0, 6, 1, []) from rfl) rfl rfl
set_option maxRecDepth 100000 in
theorem s_X5_spring_124 {d : Nat} {l0 l1 l2 l3 l4 l5 l6 l7 l8 : AV} {st : List AV} {o : Nat} {a0 : Int} {a1 : Int} {σ : Sg} {Q : AV → Sg → Prop} (h4 : st.length ≤ 4) (hk : kn σ o = (0, 5)) : Rn d m_X5_spring 124 [l0, l1, l2, l3, l4, l5, l6, l7, l8] (vL a1 :: vL a0 :: vR o :: st) σ Q ↔ ∃ r σ1, Ev d m_X5_setFraction [vR o, vL a0, vL a1] σ r σ1 ∧ Rn d m_X5_spring 127 [l0, l1, l2, l3, l4, l5, l6, l7, l8] (psh r st) σ1 Q := q35 (show fnd (pgm m_X5_spring) 124 = some (127, 35, 203, 101, 3, []) from rfl) ⟨⟨by simp, by simpa using h4⟩, (by simp only [List.take, List.reverse, List.reverseAux, rcv]; rw [if_neg (by decide +kernel)]; exact decide_eq_true hk)⟩
set_option maxRecDepth 100000 in
theorem s_X5_spring_127 {d : Nat} {l0 l1 l2 l3 l4 l5 l6 l7 l8 : AV} {st : List AV} {σ : Sg} {Q : AV → Sg → Prop}  : Rn d m_X5_spring 127 [l0, l1, l2, l3, l4, l5, l6, l7, l8] st σ Q ↔ Rn d m_X5_spring 128 [l0, l1, l2, l3, l4, l5, l6, l7, l8] (vI 1 :: st) σ Q := q0 (show fnd (pgm m_X5_spring) 127 = some (128, 0, 1, 0, 0, []) from rfl)
set_option maxRecDepth 100000 in
theorem s_X5_spring_128 {d : Nat} {l0 l1 l2 l3 l4 l5 l6 l7 l8 : AV} {x : Int} {σ : Sg} {Q : AV → Sg → Prop}  : Rn d m_X5_spring 128 [l0, l1, l2, l3, l4, l5, l6, l7, l8] [vI x] σ Q ↔ Q (vI x) σ := q37_1 (st := []) (show fnd (pgm m_X5_spring) 128 = some (129, 37, 0, 1, 0, []) from rfl)
set_option maxRecDepth 100000 in
theorem en_X5_alone {d : Nat} {o : Nat} {a0 : Int} {a1 : Int} {a2 : Int} {σ σ0 : Sg} {r0 : AV} (h : Rn d m_X5_alone 0 [vR o, vI a0, vI a1, vI a2] [] σ (fun r σ1 => r = r0 ∧ σ1 = σ0)) : Ev (d + 1) m_X5_alone [vR o, vI a0, vI a1, vI a2] σ r0 σ0 := Ev_is (Nat.le_of_ble_eq_true rfl) h
set_option maxRecDepth 100000 in
theorem eo_X5_alone {d : Nat} {o : Nat} {a0 : Int} {a1 : Int} {a2 : Int} {σ : Sg} {Q : AV → Sg → Prop} (h : Rn d m_X5_alone 0 [vR o, vI a0, vI a1, vI a2] [] σ Q) : ∃ r σ1, Ev (d + 1) m_X5_alone [vR o, vI a0, vI a1, vI a2] σ r σ1 ∧ Q r σ1 := Ev_of (Nat.le_of_ble_eq_true rfl) h
set_option maxRecDepth 100000 in
theorem s_X5_alone_0 {d : Nat} {l1 l2 l3 : AV} {st : List AV} {o : Nat} {σ : Sg} {Q : AV → Sg → Prop} (ho : o ≠ 0) : Rn d m_X5_alone 0 [vR o, l1, l2, l3] st σ Q ↔ Rn d m_X5_alone 1 [vR o, l1, l2, l3] (vR o :: st) σ Q := q5 (show fnd (pgm m_X5_alone) 0 = some (1, 5, 0, 0, 0, []) from rfl) rfl ho
set_option maxRecDepth 100000 in
theorem s_X5_alone_1 {d : Nat} {l0 l2 l3 : AV} {st : List AV} {x : Int} {σ : Sg} {Q : AV → Sg → Prop}  : Rn d m_X5_alone 1 [l0, vI x, l2, l3] st σ Q ↔ Rn d m_X5_alone 2 [l0, vI x, l2, l3] (vI x :: st) σ Q := q3 (show fnd (pgm m_X5_alone) 1 = some (2, 3, 0, 1, 0, []) from rfl) rfl
set_option maxRecDepth 100000 in
theorem s_X5_alone_2 {d : Nat} {l0 l1 l2 l3 : AV} {st : List AV} {o : Nat} {a0 : Int} {σ : Sg} {Q : AV → Sg → Prop} (h4 : st.length ≤ 4) (hk : kn σ o = (0, 5)) : Rn d m_X5_alone 2 [l0, l1, l2, l3] (vI a0 :: vR o :: st) σ Q ↔ ∃ r σ1, Ev d m_X5_isStone [vR o, vI a0] σ r σ1 ∧ Rn d m_X5_alone 5 [l0, l1, l2, l3] (psh r st) σ1 Q := q35 (show fnd (pgm m_X5_alone) 2 = some (5, 35, 129, 90, 2, []) from rfl) ⟨⟨by simp, by simpa using h4⟩, (by simp only [List.take, List.reverse, List.reverseAux, rcv]; rw [if_neg (by decide +kernel)]; exact decide_eq_true hk)⟩
set_option maxRecDepth 100000 in
theorem s_X5_alone_5 {d : Nat} {l0 l1 l2 l3 : AV} {st : List AV} {a : Int} {σ : Sg} {Q : AV → Sg → Prop}  : Rn d m_X5_alone 5 [l0, l1, l2, l3] (vI a :: st) σ Q ↔ if w32 a = 0 then Rn d m_X5_alone 23 [l0, l1, l2, l3] st σ Q else Rn d m_X5_alone 8 [l0, l1, l2, l3] st σ Q := q19_0 (show fnd (pgm m_X5_alone) 5 = some (8, 19, 0, 0, 23, []) from rfl)
set_option maxRecDepth 100000 in
theorem s_X5_alone_8 {d : Nat} {l0 l1 l3 : AV} {st : List AV} {x : Int} {σ : Sg} {Q : AV → Sg → Prop}  : Rn d m_X5_alone 8 [l0, l1, vI x, l3] st σ Q ↔ Rn d m_X5_alone 9 [l0, l1, vI x, l3] (vI x :: st) σ Q := q3 (show fnd (pgm m_X5_alone) 8 = some (9, 3, 0, 2, 0, []) from rfl) rfl
set_option maxRecDepth 100000 in
theorem s_X5_alone_9 {d : Nat} {l0 l1 l2 l3 : AV} {st : List AV}  {a0 : Int} {σ : Sg} {Q : AV → Sg → Prop} (h4 : st.length ≤ 4) : Rn d m_X5_alone 9 [l0, l1, l2, l3] (vI a0 :: st) σ Q ↔ ∃ r σ1, Ev d m_X5_isBehind [vI a0] σ r σ1 ∧ Rn d m_X5_alone 12 [l0, l1, l2, l3] (psh r st) σ1 Q := q35 (show fnd (pgm m_X5_alone) 9 = some (12, 35, 135, 91, 1, []) from rfl) ⟨⟨by simp, by simpa using h4⟩, rfl⟩
set_option maxRecDepth 100000 in
theorem s_X5_alone_12 {d : Nat} {l0 l1 l2 l3 : AV} {st : List AV} {a : Int} {σ : Sg} {Q : AV → Sg → Prop}  : Rn d m_X5_alone 12 [l0, l1, l2, l3] (vI a :: st) σ Q ↔ if w32 a = 0 then Rn d m_X5_alone 23 [l0, l1, l2, l3] st σ Q else Rn d m_X5_alone 15 [l0, l1, l2, l3] st σ Q := q19_0 (show fnd (pgm m_X5_alone) 12 = some (15, 19, 0, 0, 23, []) from rfl)
set_option maxRecDepth 100000 in
theorem s_X5_alone_15 {d : Nat} {l0 l1 l2 : AV} {st : List AV} {x : Int} {σ : Sg} {Q : AV → Sg → Prop}  : Rn d m_X5_alone 15 [l0, l1, l2, vI x] st σ Q ↔ Rn d m_X5_alone 16 [l0, l1, l2, vI x] (vI x :: st) σ Q := q3 (show fnd (pgm m_X5_alone) 15 = some (16, 3, 0, 3, 0, []) from rfl) rfl
set_option maxRecDepth 100000 in
theorem s_X5_alone_16 {d : Nat} {l0 l1 l2 l3 : AV} {st : List AV} {σ : Sg} {Q : AV → Sg → Prop}  : Rn d m_X5_alone 16 [l0, l1, l2, l3] st σ Q ↔ Rn d m_X5_alone 17 [l0, l1, l2, l3] (vI 2 :: st) σ Q := q0 (show fnd (pgm m_X5_alone) 16 = some (17, 0, 2, 0, 0, []) from rfl)
set_option maxRecDepth 100000 in
theorem s_X5_alone_17 {d : Nat} {l0 l1 l2 l3 : AV} {st : List AV}  {a0 : Int} {a1 : Int} {σ : Sg} {Q : AV → Sg → Prop} (h4 : st.length ≤ 4) : Rn d m_X5_alone 17 [l0, l1, l2, l3] (vI a1 :: vI a0 :: st) σ Q ↔ ∃ r σ1, Ev d m_X5_within [vI a0, vI a1] σ r σ1 ∧ Rn d m_X5_alone 20 [l0, l1, l2, l3] (psh r st) σ1 Q := q35 (show fnd (pgm m_X5_alone) 17 = some (20, 35, 80, 89, 2, []) from rfl) ⟨⟨by simp, by simpa using h4⟩, rfl⟩
set_option maxRecDepth 100000 in
theorem s_X5_alone_20 {d : Nat} {l0 l1 l2 l3 : AV} {st : List AV} {a : Int} {σ : Sg} {Q : AV → Sg → Prop}  : Rn d m_X5_alone 20 [l0, l1, l2, l3] (vI a :: st) σ Q ↔ if ¬ w32 a = 0 then Rn d m_X5_alone 32 [l0, l1, l2, l3] st σ Q else Rn d m_X5_alone 23 [l0, l1, l2, l3] st σ Q := q19_1 (show fnd (pgm m_X5_alone) 20 = some (23, 19, 0, 1, 32, []) from rfl)
set_option maxRecDepth 100000 in
theorem s_X5_alone_23 {d : Nat} {l1 l2 l3 : AV} {st : List AV} {o : Nat} {σ : Sg} {Q : AV → Sg → Prop} (ho : o ≠ 0) : Rn d m_X5_alone 23 [vR o, l1, l2, l3] st σ Q ↔ Rn d m_X5_alone 24 [vR o, l1, l2, l3] (vR o :: st) σ Q := q5 (show fnd (pgm m_X5_alone) 23 = some (24, 5, 0, 0, 0, []) from rfl) rfl ho
set_option maxRecDepth 100000 in
theorem s_X5_alone_24 {d : Nat} {l0 l1 l2 l3 : AV} {st : List AV} {σ : Sg} {Q : AV → Sg → Prop}  : Rn d m_X5_alone 24 [l0, l1, l2, l3] st σ Q ↔ Rn d m_X5_alone 26 [l0, l1, l2, l3] (vI (-2) :: st) σ Q := q0 (show fnd (pgm m_X5_alone) 24 = some (26, 0, (-2), 1, 0, []) from rfl)
set_option maxRecDepth 100000 in
theorem s_X5_alone_26 {d : Nat} {l0 l1 l2 l3 : AV} {st : List AV} {σ : Sg} {Q : AV → Sg → Prop}  : Rn d m_X5_alone 26 [l0, l1, l2, l3] st σ Q ↔ Rn d m_X5_alone 28 [l0, l1, l2, l3] (vI (-2) :: st) σ Q := q0 (show fnd (pgm m_X5_alone) 26 = some (28, 0, (-2), 1, 0, []) from rfl)
set_option maxRecDepth 100000 in
theorem s_X5_alone_28 {d : Nat} {l0 l1 l2 l3 : AV} {st : List AV} {o : Nat} {a0 : Int} {a1 : Int} {σ : Sg} {Q : AV → Sg → Prop} (h4 : st.length ≤ 4) (hk : kn σ o = (0, 5)) : Rn d m_X5_alone 28 [l0, l1, l2, l3] (vI a1 :: vI a0 :: vR o :: st) σ Q ↔ ∃ r σ1, Ev d m_X5_refuse [vR o, vI a0, vI a1] σ r σ1 ∧ Rn d m_X5_alone 31 [l0, l1, l2, l3] (psh r st) σ1 Q := q35 (show fnd (pgm m_X5_alone) 28 = some (31, 35, 84, 92, 3, []) from rfl) ⟨⟨by simp, by simpa using h4⟩, (by simp only [List.take, List.reverse, List.reverseAux, rcv]; rw [if_neg (by decide +kernel)]; exact decide_eq_true hk)⟩
set_option maxRecDepth 100000 in
theorem s_X5_alone_31 {d : Nat} {l0 l1 l2 l3 : AV} {x : Int} {σ : Sg} {Q : AV → Sg → Prop}  : Rn d m_X5_alone 31 [l0, l1, l2, l3] [vI x] σ Q ↔ Q (vI x) σ := q37_1 (st := []) (show fnd (pgm m_X5_alone) 31 = some (32, 37, 0, 1, 0, []) from rfl)
set_option maxRecDepth 100000 in
theorem s_X5_alone_32 {d : Nat} {l1 l2 l3 : AV} {st : List AV} {o : Nat} {σ : Sg} {Q : AV → Sg → Prop} (ho : o ≠ 0) : Rn d m_X5_alone 32 [vR o, l1, l2, l3] st σ Q ↔ Rn d m_X5_alone 33 [vR o, l1, l2, l3] (vR o :: st) σ Q := q5 (show fnd (pgm m_X5_alone) 32 = some (33, 5, 0, 0, 0, []) from rfl) rfl ho
set_option maxRecDepth 100000 in
theorem s_X5_alone_33 {d : Nat} {l0 l1 l2 l3 : AV} {st : List AV} {o : Nat} {σ : Sg} {Q : AV → Sg → Prop} (hk : kn σ o = (0, 5)) : Rn d m_X5_alone 33 [l0, l1, l2, l3] (vR o :: st) σ Q ↔ Rn d m_X5_alone 36 [l0, l1, l2, l3] (vR (tp o 3) :: st) σ Q := q33 (show fnd (pgm m_X5_alone) 33 = some (36, 33, 27, 5, 3, []) from rfl) hk
set_option maxRecDepth 100000 in
theorem s_X5_alone_36 {d : Nat} {l1 l2 l3 : AV} {st : List AV} {o : Nat} {σ : Sg} {Q : AV → Sg → Prop} (ho : o ≠ 0) : Rn d m_X5_alone 36 [vR o, l1, l2, l3] st σ Q ↔ Rn d m_X5_alone 37 [vR o, l1, l2, l3] (vR o :: st) σ Q := q5 (show fnd (pgm m_X5_alone) 36 = some (37, 5, 0, 0, 0, []) from rfl) rfl ho
set_option maxRecDepth 100000 in
theorem s_X5_alone_37 {d : Nat} {l0 l1 l2 l3 : AV} {st : List AV} {o : Nat} {σ : Sg} {Q : AV → Sg → Prop} (hk : kn σ o = (0, 5)) : Rn d m_X5_alone 37 [l0, l1, l2, l3] (vR o :: st) σ Q ↔ Rn d m_X5_alone 40 [l0, l1, l2, l3] (vR (tp o 0) :: st) σ Q := q33 (show fnd (pgm m_X5_alone) 37 = some (40, 33, 12, 5, 0, []) from rfl) hk
set_option maxRecDepth 100000 in
theorem s_X5_alone_40 {d : Nat} {l0 l1 l2 l3 : AV} {st : List AV} {σ : Sg} {Q : AV → Sg → Prop}  : Rn d m_X5_alone 40 [l0, l1, l2, l3] st σ Q ↔ Rn d m_X5_alone 41 [l0, l1, l2, l3] (vI 1 :: st) σ Q := q0 (show fnd (pgm m_X5_alone) 40 = some (41, 0, 1, 0, 0, []) from rfl)
set_option maxRecDepth 100000 in
theorem s_X5_alone_41 {d : Nat} {l0 l2 l3 : AV} {st : List AV} {x : Int} {σ : Sg} {Q : AV → Sg → Prop}  : Rn d m_X5_alone 41 [l0, vI x, l2, l3] st σ Q ↔ Rn d m_X5_alone 42 [l0, vI x, l2, l3] (vI x :: st) σ Q := q3 (show fnd (pgm m_X5_alone) 41 = some (42, 3, 0, 1, 0, []) from rfl) rfl
set_option maxRecDepth 100000 in
theorem s_X5_alone_42 {d : Nat} {l0 l1 l2 l3 : AV} {st : List AV} {a b : Int} {σ : Sg} {Q : AV → Sg → Prop}  : Rn d m_X5_alone 42 [l0, l1, l2, l3] (vI b :: vI a :: st) σ Q ↔ Rn d m_X5_alone 43 [l0, l1, l2, l3] (vI (shl32 a b) :: st) σ Q := q10_8 (show fnd (pgm m_X5_alone) 42 = some (43, 10, 0, 8, 0, []) from rfl)
set_option maxRecDepth 100000 in
theorem s_X5_alone_43 {d : Nat} {l1 l2 l3 : AV} {st : List AV} {o : Nat} {σ : Sg} {Q : AV → Sg → Prop} (ho : o ≠ 0) : Rn d m_X5_alone 43 [vR o, l1, l2, l3] st σ Q ↔ Rn d m_X5_alone 44 [vR o, l1, l2, l3] (vR o :: st) σ Q := q5 (show fnd (pgm m_X5_alone) 43 = some (44, 5, 0, 0, 0, []) from rfl) rfl ho
set_option maxRecDepth 100000 in
theorem s_X5_alone_44 {d : Nat} {l0 l1 l2 l3 : AV} {st : List AV} {o : Nat} {σ : Sg} {Q : AV → Sg → Prop} (hk : kn σ o = (0, 5)) : Rn d m_X5_alone 44 [l0, l1, l2, l3] (vR o :: st) σ Q ↔ Rn d m_X5_alone 47 [l0, l1, l2, l3] (vR (tp o 0) :: st) σ Q := q33 (show fnd (pgm m_X5_alone) 44 = some (47, 33, 12, 5, 0, []) from rfl) hk
set_option maxRecDepth 100000 in
theorem s_X5_alone_47 {d : Nat} {l0 l1 l2 l3 : AV} {st : List AV} {o : Nat} {σ : Sg} {Q : AV → Sg → Prop} (hk : kn σ o = (0, 0)) : Rn d m_X5_alone 47 [l0, l1, l2, l3] (vR o :: st) σ Q ↔ Rn d m_X5_alone 50 [l0, l1, l2, l3] (vR (tp o 2) :: st) σ Q := q33 (show fnd (pgm m_X5_alone) 47 = some (50, 33, 181, 0, 2, []) from rfl) hk
set_option maxRecDepth 100000 in
theorem s_X5_alone_50 {d : Nat} {l0 l1 l2 l3 : AV} {st : List AV} {o : Nat} {a0 : Nat} {a1 : Int} {a2 : Nat} {σ : Sg} {Q : AV → Sg → Prop} (h4 : st.length ≤ 4) (hk : kn σ o = (0, 4)) : Rn d m_X5_alone 50 [l0, l1, l2, l3] (vR a2 :: vI a1 :: vR a0 :: vR o :: st) σ Q ↔ ∃ r σ1, Ev d m_X4_start [vR o, vR a0, vI a1, vR a2] σ r σ1 ∧ Rn d m_X5_alone 53 [l0, l1, l2, l3] (psh r st) σ1 Q := q35 (show fnd (pgm m_X5_alone) 50 = some (53, 35, 207, 34, 4, []) from rfl) ⟨⟨by simp, by simpa using h4⟩, (by simp only [List.take, List.reverse, List.reverseAux, rcv]; rw [if_neg (by decide +kernel)]; exact decide_eq_true hk)⟩
set_option maxRecDepth 100000 in
theorem s_X5_alone_53 {d : Nat} {l1 l2 l3 : AV} {st : List AV} {o : Nat} {σ : Sg} {Q : AV → Sg → Prop} (ho : o ≠ 0) : Rn d m_X5_alone 53 [vR o, l1, l2, l3] st σ Q ↔ Rn d m_X5_alone 54 [vR o, l1, l2, l3] (vR o :: st) σ Q := q5 (show fnd (pgm m_X5_alone) 53 = some (54, 5, 0, 0, 0, []) from rfl) rfl ho
set_option maxRecDepth 100000 in
theorem s_X5_alone_54 {d : Nat} {l0 l1 l2 l3 : AV} {st : List AV} {o : Nat} {σ : Sg} {Q : AV → Sg → Prop} (hk : kn σ o = (0, 5)) : Rn d m_X5_alone 54 [l0, l1, l2, l3] (vR o :: st) σ Q ↔ Rn d m_X5_alone 57 [l0, l1, l2, l3] (vR (tp o 3) :: st) σ Q := q33 (show fnd (pgm m_X5_alone) 54 = some (57, 33, 27, 5, 3, []) from rfl) hk
set_option maxRecDepth 100000 in
theorem s_X5_alone_57 {d : Nat} {l1 l2 l3 : AV} {st : List AV} {o : Nat} {σ : Sg} {Q : AV → Sg → Prop} (ho : o ≠ 0) : Rn d m_X5_alone 57 [vR o, l1, l2, l3] st σ Q ↔ Rn d m_X5_alone 58 [vR o, l1, l2, l3] (vR o :: st) σ Q := q5 (show fnd (pgm m_X5_alone) 57 = some (58, 5, 0, 0, 0, []) from rfl) rfl ho
set_option maxRecDepth 100000 in
theorem s_X5_alone_58 {d : Nat} {l0 l1 l2 l3 : AV} {st : List AV} {o : Nat} {σ : Sg} {Q : AV → Sg → Prop} (hk : kn σ o = (0, 5)) : Rn d m_X5_alone 58 [l0, l1, l2, l3] (vR o :: st) σ Q ↔ Rn d m_X5_alone 61 [l0, l1, l2, l3] (vR (tp o 0) :: st) σ Q := q33 (show fnd (pgm m_X5_alone) 58 = some (61, 33, 12, 5, 0, []) from rfl) hk
set_option maxRecDepth 100000 in
theorem s_X5_alone_61 {d : Nat} {l0 l1 l2 l3 : AV} {st : List AV} {o : Nat} {σ : Sg} {Q : AV → Sg → Prop} (hk : kn σ o = (0, 0)) : Rn d m_X5_alone 61 [l0, l1, l2, l3] (vR o :: st) σ Q ↔ Rn d m_X5_alone 64 [l0, l1, l2, l3] (vR (tp o 7) :: st) σ Q := q33 (show fnd (pgm m_X5_alone) 61 = some (64, 33, 105, 0, 7, []) from rfl) hk
set_option maxRecDepth 100000 in
theorem s_X5_alone_64 {d : Nat} {l0 l1 l2 l3 : AV} {st : List AV} {σ : Sg} {Q : AV → Sg → Prop}  : Rn d m_X5_alone 64 [l0, l1, l2, l3] st σ Q ↔ Rn d m_X5_alone 65 [l0, l1, l2, l3] (vI 0 :: st) σ Q := q0 (show fnd (pgm m_X5_alone) 64 = some (65, 0, 0, 0, 0, []) from rfl)
set_option maxRecDepth 100000 in
theorem s_X5_alone_65 {d : Nat} {l0 l1 l3 : AV} {st : List AV} {x : Int} {σ : Sg} {Q : AV → Sg → Prop}  : Rn d m_X5_alone 65 [l0, l1, vI x, l3] st σ Q ↔ Rn d m_X5_alone 66 [l0, l1, vI x, l3] (vI x :: st) σ Q := q3 (show fnd (pgm m_X5_alone) 65 = some (66, 3, 0, 2, 0, []) from rfl) rfl
set_option maxRecDepth 100000 in
theorem s_X5_alone_66 {d : Nat} {l0 l1 l2 l3 : AV} {st : List AV} {o : Nat} {a0 : Nat} {a1 : Int} {a2 : Int} {σ : Sg} {Q : AV → Sg → Prop} (h4 : st.length ≤ 4) (hk : kn σ o = (0, 4)) : Rn d m_X5_alone 66 [l0, l1, l2, l3] (vI a2 :: vI a1 :: vR a0 :: vR o :: st) σ Q ↔ ∃ r σ1, Ev d m_X4_go [vR o, vR a0, vI a1, vI a2] σ r σ1 ∧ Rn d m_X5_alone 69 [l0, l1, l2, l3] (psh r st) σ1 Q := q35 (show fnd (pgm m_X5_alone) 66 = some (69, 35, 211, 35, 4, []) from rfl) ⟨⟨by simp, by simpa using h4⟩, (by simp only [List.take, List.reverse, List.reverseAux, rcv]; rw [if_neg (by decide +kernel)]; exact decide_eq_true hk)⟩
set_option maxRecDepth 100000 in
theorem s_X5_alone_69 {d : Nat} {l0 l1 l2 : AV} {st : List AV} {x : Int} {σ : Sg} {Q : AV → Sg → Prop}  : Rn d m_X5_alone 69 [l0, l1, l2, vI x] st σ Q ↔ Rn d m_X5_alone 70 [l0, l1, l2, vI x] (vI x :: st) σ Q := q3 (show fnd (pgm m_X5_alone) 69 = some (70, 3, 0, 3, 0, []) from rfl) rfl
set_option maxRecDepth 100000 in
theorem s_X5_alone_70 {d : Nat} {l0 l1 l2 l3 : AV} {st : List AV} {a : Int} {σ : Sg} {Q : AV → Sg → Prop}  : Rn d m_X5_alone 70 [l0, l1, l2, l3] (vI a :: st) σ Q ↔ if ¬ w32 a = 0 then Rn d m_X5_alone 85 [l0, l1, l2, l3] st σ Q else Rn d m_X5_alone 73 [l0, l1, l2, l3] st σ Q := q19_1 (show fnd (pgm m_X5_alone) 70 = some (73, 19, 0, 1, 85, []) from rfl)
set_option maxRecDepth 100000 in
theorem s_X5_alone_73 {d : Nat} {l1 l2 l3 : AV} {st : List AV} {o : Nat} {σ : Sg} {Q : AV → Sg → Prop} (ho : o ≠ 0) : Rn d m_X5_alone 73 [vR o, l1, l2, l3] st σ Q ↔ Rn d m_X5_alone 74 [vR o, l1, l2, l3] (vR o :: st) σ Q := q5 (show fnd (pgm m_X5_alone) 73 = some (74, 5, 0, 0, 0, []) from rfl) rfl ho
set_option maxRecDepth 100000 in
theorem s_X5_alone_74 {d : Nat} {l0 l1 l2 l3 : AV} {st : List AV} {o : Nat} {σ : Sg} {Q : AV → Sg → Prop} (hk : kn σ o = (0, 5)) : Rn d m_X5_alone 74 [l0, l1, l2, l3] (vR o :: st) σ Q ↔ Rn d m_X5_alone 77 [l0, l1, l2, l3] (vR (tp o 3) :: st) σ Q := q33 (show fnd (pgm m_X5_alone) 74 = some (77, 33, 27, 5, 3, []) from rfl) hk
set_option maxRecDepth 100000 in
theorem s_X5_alone_77 {d : Nat} {l0 l1 l2 l3 : AV} {st : List AV} {o : Nat} {σ : Sg} {Q : AV → Sg → Prop} (hk : kn σ o = (0, 4)) : Rn d m_X5_alone 77 [l0, l1, l2, l3] (vR o :: st) σ Q ↔ Rn d m_X5_alone 80 [l0, l1, l2, l3] (vR (tp o 0) :: st) σ Q := q33 (show fnd (pgm m_X5_alone) 77 = some (80, 33, 141, 4, 0, []) from rfl) hk
set_option maxRecDepth 100000 in
theorem s_X5_alone_80 {d : Nat} {l0 l2 l3 : AV} {st : List AV} {x : Int} {σ : Sg} {Q : AV → Sg → Prop}  : Rn d m_X5_alone 80 [l0, vI x, l2, l3] st σ Q ↔ Rn d m_X5_alone 81 [l0, vI x, l2, l3] (vI x :: st) σ Q := q3 (show fnd (pgm m_X5_alone) 80 = some (81, 3, 0, 1, 0, []) from rfl) rfl
set_option maxRecDepth 100000 in
theorem s_X5_alone_81 {d : Nat} {l0 l1 l2 l3 : AV} {st : List AV} {i : Int} {o : Nat} {σ : Sg} {Q : AV → Sg → Prop} (hi : 0 ≤ w32 i ∧ w32 i < al σ 1 o) : Rn d m_X5_alone 81 [l0, l1, l2, l3] (vI i :: vR o :: st) σ Q ↔ Rn d m_X5_alone 82 [l0, l1, l2, l3] (vI (σ o (w32 i)) :: st) σ Q := q25 (show fnd (pgm m_X5_alone) 81 = some (82, 25, 0, 0, 0, []) from rfl) hi
set_option maxRecDepth 100000 in
theorem s_X5_alone_82 {d : Nat} {l0 l1 l2 l3 : AV} {st : List AV} {σ : Sg} {Q : AV → Sg → Prop}  : Rn d m_X5_alone 82 [l0, l1, l2, l3] st σ Q ↔ Rn d m_X5_alone 93 [l0, l1, l2, l3] st σ Q := q21 (show fnd (pgm m_X5_alone) 82 = some (85, 21, 0, 0, 93, []) from rfl)
set_option maxRecDepth 100000 in
theorem s_X5_alone_85 {d : Nat} {l1 l2 l3 : AV} {st : List AV} {o : Nat} {σ : Sg} {Q : AV → Sg → Prop} (ho : o ≠ 0) : Rn d m_X5_alone 85 [vR o, l1, l2, l3] st σ Q ↔ Rn d m_X5_alone 86 [vR o, l1, l2, l3] (vR o :: st) σ Q := q5 (show fnd (pgm m_X5_alone) 85 = some (86, 5, 0, 0, 0, []) from rfl) rfl ho
set_option maxRecDepth 100000 in
theorem s_X5_alone_86 {d : Nat} {l0 l1 l2 l3 : AV} {st : List AV} {o : Nat} {σ : Sg} {Q : AV → Sg → Prop} (hk : kn σ o = (0, 5)) : Rn d m_X5_alone 86 [l0, l1, l2, l3] (vR o :: st) σ Q ↔ Rn d m_X5_alone 89 [l0, l1, l2, l3] (vR (tp o 3) :: st) σ Q := q33 (show fnd (pgm m_X5_alone) 86 = some (89, 33, 27, 5, 3, []) from rfl) hk
set_option maxRecDepth 100000 in
theorem s_X5_alone_89 {d : Nat} {l0 l2 l3 : AV} {st : List AV} {x : Int} {σ : Sg} {Q : AV → Sg → Prop}  : Rn d m_X5_alone 89 [l0, vI x, l2, l3] st σ Q ↔ Rn d m_X5_alone 90 [l0, vI x, l2, l3] (vI x :: st) σ Q := q3 (show fnd (pgm m_X5_alone) 89 = some (90, 3, 0, 1, 0, []) from rfl) rfl
set_option maxRecDepth 100000 in
theorem s_X5_alone_90 {d : Nat} {l0 l1 l2 l3 : AV} {st : List AV} {o : Nat} {a0 : Int} {σ : Sg} {Q : AV → Sg → Prop} (h4 : st.length ≤ 4) (hk : kn σ o = (0, 4)) : Rn d m_X5_alone 90 [l0, l1, l2, l3] (vI a0 :: vR o :: st) σ Q ↔ ∃ r σ1, Ev d m_X4_stepsOf [vR o, vI a0] σ r σ1 ∧ Rn d m_X5_alone 93 [l0, l1, l2, l3] (psh r st) σ1 Q := q35 (show fnd (pgm m_X5_alone) 90 = some (93, 35, 147, 47, 2, []) from rfl) ⟨⟨by simp, by simpa using h4⟩, (by simp only [List.take, List.reverse, List.reverseAux, rcv]; rw [if_neg (by decide +kernel)]; exact decide_eq_true hk)⟩
set_option maxRecDepth 100000 in
theorem s_X5_alone_93 {d : Nat} {l0 l1 l2 l3 : AV} {x : Int} {σ : Sg} {Q : AV → Sg → Prop}  : Rn d m_X5_alone 93 [l0, l1, l2, l3] [vI x] σ Q ↔ Q (vI x) σ := q37_1 (st := []) (show fnd (pgm m_X5_alone) 93 = some (94, 37, 0, 1, 0, []) from rfl)
set_option maxRecDepth 100000 in
theorem en_X5_met {d : Nat} {o : Nat} {a0 : Int} {σ σ0 : Sg} {r0 : AV} (h : Rn d m_X5_met 0 [vR o, vI a0] [] σ (fun r σ1 => r = r0 ∧ σ1 = σ0)) : Ev (d + 1) m_X5_met [vR o, vI a0] σ r0 σ0 := Ev_is (Nat.le_of_ble_eq_true rfl) h
set_option maxRecDepth 100000 in
theorem eo_X5_met {d : Nat} {o : Nat} {a0 : Int} {σ : Sg} {Q : AV → Sg → Prop} (h : Rn d m_X5_met 0 [vR o, vI a0] [] σ Q) : ∃ r σ1, Ev (d + 1) m_X5_met [vR o, vI a0] σ r σ1 ∧ Q r σ1 := Ev_of (Nat.le_of_ble_eq_true rfl) h
set_option maxRecDepth 100000 in
theorem s_X5_met_0 {d : Nat} {l0 : AV} {st : List AV} {x : Int} {σ : Sg} {Q : AV → Sg → Prop}  : Rn d m_X5_met 0 [l0, vI x] st σ Q ↔ Rn d m_X5_met 1 [l0, vI x] (vI x :: st) σ Q := q3 (show fnd (pgm m_X5_met) 0 = some (1, 3, 0, 1, 0, []) from rfl) rfl
set_option maxRecDepth 100000 in
theorem s_X5_met_1 {d : Nat} {l0 l1 : AV} {st : List AV} {σ : Sg} {Q : AV → Sg → Prop}  : Rn d m_X5_met 1 [l0, l1] st σ Q ↔ Rn d m_X5_met 3 [l0, l1] (vI 20 :: st) σ Q := q0 (show fnd (pgm m_X5_met) 1 = some (3, 0, 20, 1, 0, []) from rfl)
set_option maxRecDepth 100000 in
theorem s_X5_met_3 {d : Nat} {l0 l1 : AV} {st : List AV}  {a0 : Int} {a1 : Int} {σ : Sg} {Q : AV → Sg → Prop} (h4 : st.length ≤ 4) : Rn d m_X5_met 3 [l0, l1] (vI a1 :: vI a0 :: st) σ Q ↔ ∃ r σ1, Ev d m_X5_within [vI a0, vI a1] σ r σ1 ∧ Rn d m_X5_met 6 [l0, l1] (psh r st) σ1 Q := q35 (show fnd (pgm m_X5_met) 3 = some (6, 35, 80, 89, 2, []) from rfl) ⟨⟨by simp, by simpa using h4⟩, rfl⟩
set_option maxRecDepth 100000 in
theorem s_X5_met_6 {d : Nat} {l0 l1 : AV} {st : List AV} {a : Int} {σ : Sg} {Q : AV → Sg → Prop}  : Rn d m_X5_met 6 [l0, l1] (vI a :: st) σ Q ↔ if ¬ w32 a = 0 then Rn d m_X5_met 18 [l0, l1] st σ Q else Rn d m_X5_met 9 [l0, l1] st σ Q := q19_1 (show fnd (pgm m_X5_met) 6 = some (9, 19, 0, 1, 18, []) from rfl)
set_option maxRecDepth 100000 in
theorem s_X5_met_9 {d : Nat} {l1 : AV} {st : List AV} {o : Nat} {σ : Sg} {Q : AV → Sg → Prop} (ho : o ≠ 0) : Rn d m_X5_met 9 [vR o, l1] st σ Q ↔ Rn d m_X5_met 10 [vR o, l1] (vR o :: st) σ Q := q5 (show fnd (pgm m_X5_met) 9 = some (10, 5, 0, 0, 0, []) from rfl) rfl ho
set_option maxRecDepth 100000 in
theorem s_X5_met_10 {d : Nat} {l0 l1 : AV} {st : List AV} {σ : Sg} {Q : AV → Sg → Prop}  : Rn d m_X5_met 10 [l0, l1] st σ Q ↔ Rn d m_X5_met 12 [l0, l1] (vI (-2) :: st) σ Q := q0 (show fnd (pgm m_X5_met) 10 = some (12, 0, (-2), 1, 0, []) from rfl)
set_option maxRecDepth 100000 in
theorem s_X5_met_12 {d : Nat} {l0 l1 : AV} {st : List AV} {σ : Sg} {Q : AV → Sg → Prop}  : Rn d m_X5_met 12 [l0, l1] st σ Q ↔ Rn d m_X5_met 14 [l0, l1] (vI (-2) :: st) σ Q := q0 (show fnd (pgm m_X5_met) 12 = some (14, 0, (-2), 1, 0, []) from rfl)
set_option maxRecDepth 100000 in
theorem s_X5_met_14 {d : Nat} {l0 l1 : AV} {st : List AV} {o : Nat} {a0 : Int} {a1 : Int} {σ : Sg} {Q : AV → Sg → Prop} (h4 : st.length ≤ 4) (hk : kn σ o = (0, 5)) : Rn d m_X5_met 14 [l0, l1] (vI a1 :: vI a0 :: vR o :: st) σ Q ↔ ∃ r σ1, Ev d m_X5_refuse [vR o, vI a0, vI a1] σ r σ1 ∧ Rn d m_X5_met 17 [l0, l1] (psh r st) σ1 Q := q35 (show fnd (pgm m_X5_met) 14 = some (17, 35, 84, 92, 3, []) from rfl) ⟨⟨by simp, by simpa using h4⟩, (by simp only [List.take, List.reverse, List.reverseAux, rcv]; rw [if_neg (by decide +kernel)]; exact decide_eq_true hk)⟩
set_option maxRecDepth 100000 in
theorem s_X5_met_17 {d : Nat} {l0 l1 : AV} {x : Int} {σ : Sg} {Q : AV → Sg → Prop}  : Rn d m_X5_met 17 [l0, l1] [vI x] σ Q ↔ Q (vI x) σ := q37_1 (st := []) (show fnd (pgm m_X5_met) 17 = some (18, 37, 0, 1, 0, []) from rfl)
set_option maxRecDepth 100000 in
theorem s_X5_met_18 {d : Nat} {l1 : AV} {st : List AV} {o : Nat} {σ : Sg} {Q : AV → Sg → Prop} (ho : o ≠ 0) : Rn d m_X5_met 18 [vR o, l1] st σ Q ↔ Rn d m_X5_met 19 [vR o, l1] (vR o :: st) σ Q := q5 (show fnd (pgm m_X5_met) 18 = some (19, 5, 0, 0, 0, []) from rfl) rfl ho
set_option maxRecDepth 100000 in
theorem s_X5_met_19 {d : Nat} {l0 : AV} {st : List AV} {x : Int} {σ : Sg} {Q : AV → Sg → Prop}  : Rn d m_X5_met 19 [l0, vI x] st σ Q ↔ Rn d m_X5_met 20 [l0, vI x] (vI x :: st) σ Q := q3 (show fnd (pgm m_X5_met) 19 = some (20, 3, 0, 1, 0, []) from rfl) rfl
set_option maxRecDepth 100000 in
theorem s_X5_met_20 {d : Nat} {l0 l1 : AV} {st : List AV} {o : Nat} {a0 : Int} {σ : Sg} {Q : AV → Sg → Prop} (h4 : st.length ≤ 4) (hk : kn σ o = (0, 5)) : Rn d m_X5_met 20 [l0, l1] (vI a0 :: vR o :: st) σ Q ↔ ∃ r σ1, Ev d m_X5_walkAll [vR o, vI a0] σ r σ1 ∧ Rn d m_X5_met 23 [l0, l1] (psh r st) σ1 Q := q35 (show fnd (pgm m_X5_met) 20 = some (23, 35, 138, 93, 2, []) from rfl) ⟨⟨by simp, by simpa using h4⟩, (by simp only [List.take, List.reverse, List.reverseAux, rcv]; rw [if_neg (by decide +kernel)]; exact decide_eq_true hk)⟩
set_option maxRecDepth 100000 in
theorem s_X5_met_23 {d : Nat} {l1 : AV} {st : List AV} {o : Nat} {σ : Sg} {Q : AV → Sg → Prop} (ho : o ≠ 0) : Rn d m_X5_met 23 [vR o, l1] st σ Q ↔ Rn d m_X5_met 24 [vR o, l1] (vR o :: st) σ Q := q5 (show fnd (pgm m_X5_met) 23 = some (24, 5, 0, 0, 0, []) from rfl) rfl ho
set_option maxRecDepth 100000 in
theorem s_X5_met_24 {d : Nat} {l0 l1 : AV} {st : List AV} {o : Nat} {σ : Sg} {Q : AV → Sg → Prop} (hk : kn σ o = (0, 5)) : Rn d m_X5_met 24 [l0, l1] (vR o :: st) σ Q ↔ Rn d m_X5_met 27 [l0, l1] (vR (tp o 3) :: st) σ Q := q33 (show fnd (pgm m_X5_met) 24 = some (27, 33, 27, 5, 3, []) from rfl) hk
set_option maxRecDepth 100000 in
theorem s_X5_met_27 {d : Nat} {l0 l1 : AV} {st : List AV} {o : Nat} {σ : Sg} {Q : AV → Sg → Prop} (hk : kn σ o = (0, 4)) : Rn d m_X5_met 27 [l0, l1] (vR o :: st) σ Q ↔ Rn d m_X5_met 30 [l0, l1] (vR (tp o 2) :: st) σ Q := q33 (show fnd (pgm m_X5_met) 27 = some (30, 33, 215, 4, 2, []) from rfl) hk
set_option maxRecDepth 100000 in
theorem s_X5_met_30 {d : Nat} {l0 : AV} {st : List AV} {x : Int} {σ : Sg} {Q : AV → Sg → Prop}  : Rn d m_X5_met 30 [l0, vI x] st σ Q ↔ Rn d m_X5_met 31 [l0, vI x] (vI x :: st) σ Q := q3 (show fnd (pgm m_X5_met) 30 = some (31, 3, 0, 1, 0, []) from rfl) rfl
set_option maxRecDepth 100000 in
theorem s_X5_met_31 {d : Nat} {l0 l1 : AV} {st : List AV} {i : Int} {o : Nat} {σ : Sg} {Q : AV → Sg → Prop} (hi : 0 ≤ w32 i ∧ w32 i < al σ 1 o) : Rn d m_X5_met 31 [l0, l1] (vI i :: vR o :: st) σ Q ↔ Rn d m_X5_met 32 [l0, l1] (vI (σ o (w32 i)) :: st) σ Q := q25 (show fnd (pgm m_X5_met) 31 = some (32, 25, 0, 0, 0, []) from rfl) hi
set_option maxRecDepth 100000 in
theorem s_X5_met_32 {d : Nat} {l0 l1 : AV} {x : Int} {σ : Sg} {Q : AV → Sg → Prop}  : Rn d m_X5_met 32 [l0, l1] [vI x] σ Q ↔ Q (vI x) σ := q37_1 (st := []) (show fnd (pgm m_X5_met) 32 = some (33, 37, 0, 1, 0, []) from rfl)
set_option maxRecDepth 100000 in
theorem en_X5_steer {d : Nat} {o : Nat} {a0 : Int} {a1 : Int} {a2 : Int} {σ σ0 : Sg} {r0 : AV} (h : Rn d m_X5_steer 0 [vR o, vI a0, vI a1, vI a2, none, none, none, none, none] [] σ (fun r σ1 => r = r0 ∧ σ1 = σ0)) : Ev (d + 1) m_X5_steer [vR o, vI a0, vI a1, vI a2] σ r0 σ0 := Ev_is (Nat.le_of_ble_eq_true rfl) h
set_option maxRecDepth 100000 in
theorem eo_X5_steer {d : Nat} {o : Nat} {a0 : Int} {a1 : Int} {a2 : Int} {σ : Sg} {Q : AV → Sg → Prop} (h : Rn d m_X5_steer 0 [vR o, vI a0, vI a1, vI a2, none, none, none, none, none] [] σ Q) : ∃ r σ1, Ev (d + 1) m_X5_steer [vR o, vI a0, vI a1, vI a2] σ r σ1 ∧ Q r σ1 := Ev_of (Nat.le_of_ble_eq_true rfl) h
set_option maxRecDepth 100000 in
theorem s_X5_steer_0 {d : Nat} {l1 l2 l3 l4 l5 l6 l7 l8 : AV} {st : List AV} {o : Nat} {σ : Sg} {Q : AV → Sg → Prop} (ho : o ≠ 0) : Rn d m_X5_steer 0 [vR o, l1, l2, l3, l4, l5, l6, l7, l8] st σ Q ↔ Rn d m_X5_steer 1 [vR o, l1, l2, l3, l4, l5, l6, l7, l8] (vR o :: st) σ Q := q5 (show fnd (pgm m_X5_steer) 0 = some (1, 5, 0, 0, 0, []) from rfl) rfl ho
set_option maxRecDepth 100000 in
theorem s_X5_steer_1 {d : Nat} {l0 l2 l3 l4 l5 l6 l7 l8 : AV} {st : List AV} {x : Int} {σ : Sg} {Q : AV → Sg → Prop}  : Rn d m_X5_steer 1 [l0, vI x, l2, l3, l4, l5, l6, l7, l8] st σ Q ↔ Rn d m_X5_steer 2 [l0, vI x, l2, l3, l4, l5, l6, l7, l8] (vI x :: st) σ Q := q3 (show fnd (pgm m_X5_steer) 1 = some (2, 3, 0, 1, 0, []) from rfl) rfl
set_option maxRecDepth 100000 in
theorem s_X5_steer_2 {d : Nat} {l0 l1 l2 l3 l4 l5 l6 l7 l8 : AV} {st : List AV} {o : Nat} {a0 : Int} {σ : Sg} {Q : AV → Sg → Prop} (h4 : st.length ≤ 4) (hk : kn σ o = (0, 5)) : Rn d m_X5_steer 2 [l0, l1, l2, l3, l4, l5, l6, l7, l8] (vI a0 :: vR o :: st) σ Q ↔ ∃ r σ1, Ev d m_X5_isStone [vR o, vI a0] σ r σ1 ∧ Rn d m_X5_steer 5 [l0, l1, l2, l3, l4, l5, l6, l7, l8] (psh r st) σ1 Q := q35 (show fnd (pgm m_X5_steer) 2 = some (5, 35, 129, 90, 2, []) from rfl) ⟨⟨by simp, by simpa using h4⟩, (by simp only [List.take, List.reverse, List.reverseAux, rcv]; rw [if_neg (by decide +kernel)]; exact decide_eq_true hk)⟩
set_option maxRecDepth 100000 in
theorem s_X5_steer_5 {d : Nat} {l0 l1 l2 l3 l4 l5 l6 l7 l8 : AV} {st : List AV} {a : Int} {σ : Sg} {Q : AV → Sg → Prop}  : Rn d m_X5_steer 5 [l0, l1, l2, l3, l4, l5, l6, l7, l8] (vI a :: st) σ Q ↔ if w32 a = 0 then Rn d m_X5_steer 25 [l0, l1, l2, l3, l4, l5, l6, l7, l8] st σ Q else Rn d m_X5_steer 8 [l0, l1, l2, l3, l4, l5, l6, l7, l8] st σ Q := q19_0 (show fnd (pgm m_X5_steer) 5 = some (8, 19, 0, 0, 25, []) from rfl)
set_option maxRecDepth 100000 in
theorem s_X5_steer_8 {d : Nat} {l0 l1 l3 l4 l5 l6 l7 l8 : AV} {st : List AV} {x : Int} {σ : Sg} {Q : AV → Sg → Prop}  : Rn d m_X5_steer 8 [l0, l1, vI x, l3, l4, l5, l6, l7, l8] st σ Q ↔ Rn d m_X5_steer 9 [l0, l1, vI x, l3, l4, l5, l6, l7, l8] (vI x :: st) σ Q := q3 (show fnd (pgm m_X5_steer) 8 = some (9, 3, 0, 2, 0, []) from rfl) rfl
set_option maxRecDepth 100000 in
theorem s_X5_steer_9 {d : Nat} {l0 l1 l2 l3 l4 l5 l6 l7 l8 : AV} {st : List AV} {σ : Sg} {Q : AV → Sg → Prop}  : Rn d m_X5_steer 9 [l0, l1, l2, l3, l4, l5, l6, l7, l8] st σ Q ↔ Rn d m_X5_steer 12 [l0, l1, l2, l3, l4, l5, l6, l7, l8] (vI 144 :: st) σ Q := q0 (show fnd (pgm m_X5_steer) 9 = some (12, 0, 144, 2, 0, []) from rfl)
set_option maxRecDepth 100000 in
theorem s_X5_steer_12 {d : Nat} {l0 l1 l2 l3 l4 l5 l6 l7 l8 : AV} {st : List AV}  {a0 : Int} {a1 : Int} {σ : Sg} {Q : AV → Sg → Prop} (h4 : st.length ≤ 4) : Rn d m_X5_steer 12 [l0, l1, l2, l3, l4, l5, l6, l7, l8] (vI a1 :: vI a0 :: st) σ Q ↔ ∃ r σ1, Ev d m_X5_within [vI a0, vI a1] σ r σ1 ∧ Rn d m_X5_steer 15 [l0, l1, l2, l3, l4, l5, l6, l7, l8] (psh r st) σ1 Q := q35 (show fnd (pgm m_X5_steer) 12 = some (15, 35, 80, 89, 2, []) from rfl) ⟨⟨by simp, by simpa using h4⟩, rfl⟩
set_option maxRecDepth 100000 in
theorem s_X5_steer_15 {d : Nat} {l0 l1 l2 l3 l4 l5 l6 l7 l8 : AV} {st : List AV} {a : Int} {σ : Sg} {Q : AV → Sg → Prop}  : Rn d m_X5_steer 15 [l0, l1, l2, l3, l4, l5, l6, l7, l8] (vI a :: st) σ Q ↔ if w32 a = 0 then Rn d m_X5_steer 25 [l0, l1, l2, l3, l4, l5, l6, l7, l8] st σ Q else Rn d m_X5_steer 18 [l0, l1, l2, l3, l4, l5, l6, l7, l8] st σ Q := q19_0 (show fnd (pgm m_X5_steer) 15 = some (18, 19, 0, 0, 25, []) from rfl)
set_option maxRecDepth 100000 in
theorem s_X5_steer_18 {d : Nat} {l0 l1 l2 l4 l5 l6 l7 l8 : AV} {st : List AV} {x : Int} {σ : Sg} {Q : AV → Sg → Prop}  : Rn d m_X5_steer 18 [l0, l1, l2, vI x, l4, l5, l6, l7, l8] st σ Q ↔ Rn d m_X5_steer 19 [l0, l1, l2, vI x, l4, l5, l6, l7, l8] (vI x :: st) σ Q := q3 (show fnd (pgm m_X5_steer) 18 = some (19, 3, 0, 3, 0, []) from rfl) rfl
set_option maxRecDepth 100000 in
theorem s_X5_steer_19 {d : Nat} {l0 l1 l2 l3 l4 l5 l6 l7 l8 : AV} {st : List AV}  {a0 : Int} {σ : Sg} {Q : AV → Sg → Prop} (h4 : st.length ≤ 4) : Rn d m_X5_steer 19 [l0, l1, l2, l3, l4, l5, l6, l7, l8] (vI a0 :: st) σ Q ↔ ∃ r σ1, Ev d m_X5_isBehind [vI a0] σ r σ1 ∧ Rn d m_X5_steer 22 [l0, l1, l2, l3, l4, l5, l6, l7, l8] (psh r st) σ1 Q := q35 (show fnd (pgm m_X5_steer) 19 = some (22, 35, 135, 91, 1, []) from rfl) ⟨⟨by simp, by simpa using h4⟩, rfl⟩
set_option maxRecDepth 100000 in
theorem s_X5_steer_22 {d : Nat} {l0 l1 l2 l3 l4 l5 l6 l7 l8 : AV} {st : List AV} {a : Int} {σ : Sg} {Q : AV → Sg → Prop}  : Rn d m_X5_steer 22 [l0, l1, l2, l3, l4, l5, l6, l7, l8] (vI a :: st) σ Q ↔ if ¬ w32 a = 0 then Rn d m_X5_steer 34 [l0, l1, l2, l3, l4, l5, l6, l7, l8] st σ Q else Rn d m_X5_steer 25 [l0, l1, l2, l3, l4, l5, l6, l7, l8] st σ Q := q19_1 (show fnd (pgm m_X5_steer) 22 = some (25, 19, 0, 1, 34, []) from rfl)
set_option maxRecDepth 100000 in
theorem s_X5_steer_25 {d : Nat} {l1 l2 l3 l4 l5 l6 l7 l8 : AV} {st : List AV} {o : Nat} {σ : Sg} {Q : AV → Sg → Prop} (ho : o ≠ 0) : Rn d m_X5_steer 25 [vR o, l1, l2, l3, l4, l5, l6, l7, l8] st σ Q ↔ Rn d m_X5_steer 26 [vR o, l1, l2, l3, l4, l5, l6, l7, l8] (vR o :: st) σ Q := q5 (show fnd (pgm m_X5_steer) 25 = some (26, 5, 0, 0, 0, []) from rfl) rfl ho
set_option maxRecDepth 100000 in
theorem s_X5_steer_26 {d : Nat} {l0 l1 l2 l3 l4 l5 l6 l7 l8 : AV} {st : List AV} {σ : Sg} {Q : AV → Sg → Prop}  : Rn d m_X5_steer 26 [l0, l1, l2, l3, l4, l5, l6, l7, l8] st σ Q ↔ Rn d m_X5_steer 28 [l0, l1, l2, l3, l4, l5, l6, l7, l8] (vI (-2) :: st) σ Q := q0 (show fnd (pgm m_X5_steer) 26 = some (28, 0, (-2), 1, 0, []) from rfl)
set_option maxRecDepth 100000 in
theorem s_X5_steer_28 {d : Nat} {l0 l1 l2 l3 l4 l5 l6 l7 l8 : AV} {st : List AV} {σ : Sg} {Q : AV → Sg → Prop}  : Rn d m_X5_steer 28 [l0, l1, l2, l3, l4, l5, l6, l7, l8] st σ Q ↔ Rn d m_X5_steer 30 [l0, l1, l2, l3, l4, l5, l6, l7, l8] (vI (-10) :: st) σ Q := q0 (show fnd (pgm m_X5_steer) 28 = some (30, 0, (-10), 1, 0, []) from rfl)
set_option maxRecDepth 100000 in
theorem s_X5_steer_30 {d : Nat} {l0 l1 l2 l3 l4 l5 l6 l7 l8 : AV} {st : List AV} {o : Nat} {a0 : Int} {a1 : Int} {σ : Sg} {Q : AV → Sg → Prop} (h4 : st.length ≤ 4) (hk : kn σ o = (0, 5)) : Rn d m_X5_steer 30 [l0, l1, l2, l3, l4, l5, l6, l7, l8] (vI a1 :: vI a0 :: vR o :: st) σ Q ↔ ∃ r σ1, Ev d m_X5_refuse [vR o, vI a0, vI a1] σ r σ1 ∧ Rn d m_X5_steer 33 [l0, l1, l2, l3, l4, l5, l6, l7, l8] (psh r st) σ1 Q := q35 (show fnd (pgm m_X5_steer) 30 = some (33, 35, 84, 92, 3, []) from rfl) ⟨⟨by simp, by simpa using h4⟩, (by simp only [List.take, List.reverse, List.reverseAux, rcv]; rw [if_neg (by decide +kernel)]; exact decide_eq_true hk)⟩
set_option maxRecDepth 100000 in
theorem s_X5_steer_33 {d : Nat} {l0 l1 l2 l3 l4 l5 l6 l7 l8 : AV} {x : Int} {σ : Sg} {Q : AV → Sg → Prop}  : Rn d m_X5_steer 33 [l0, l1, l2, l3, l4, l5, l6, l7, l8] [vI x] σ Q ↔ Q (vI x) σ := q37_1 (st := []) (show fnd (pgm m_X5_steer) 33 = some (34, 37, 0, 1, 0, []) from rfl)
set_option maxRecDepth 100000 in
theorem s_X5_steer_34 {d : Nat} {l1 l2 l3 l4 l5 l6 l7 l8 : AV} {st : List AV} {o : Nat} {σ : Sg} {Q : AV → Sg → Prop} (ho : o ≠ 0) : Rn d m_X5_steer 34 [vR o, l1, l2, l3, l4, l5, l6, l7, l8] st σ Q ↔ Rn d m_X5_steer 35 [vR o, l1, l2, l3, l4, l5, l6, l7, l8] (vR o :: st) σ Q := q5 (show fnd (pgm m_X5_steer) 34 = some (35, 5, 0, 0, 0, []) from rfl) rfl ho
set_option maxRecDepth 100000 in
theorem s_X5_steer_35 {d : Nat} {l0 l1 l2 l4 l5 l6 l7 l8 : AV} {st : List AV} {x : Int} {σ : Sg} {Q : AV → Sg → Prop}  : Rn d m_X5_steer 35 [l0, l1, l2, vI x, l4, l5, l6, l7, l8] st σ Q ↔ Rn d m_X5_steer 36 [l0, l1, l2, vI x, l4, l5, l6, l7, l8] (vI x :: st) σ Q := q3 (show fnd (pgm m_X5_steer) 35 = some (36, 3, 0, 3, 0, []) from rfl) rfl
set_option maxRecDepth 100000 in
theorem s_X5_steer_36 {d : Nat} {l0 l1 l2 l3 l4 l5 l6 l7 l8 : AV} {st : List AV} {o : Nat} {a0 : Int} {σ : Sg} {Q : AV → Sg → Prop} (h4 : st.length ≤ 4) (hk : kn σ o = (0, 5)) : Rn d m_X5_steer 36 [l0, l1, l2, l3, l4, l5, l6, l7, l8] (vI a0 :: vR o :: st) σ Q ↔ ∃ r σ1, Ev d m_X5_walkAll [vR o, vI a0] σ r σ1 ∧ Rn d m_X5_steer 39 [l0, l1, l2, l3, l4, l5, l6, l7, l8] (psh r st) σ1 Q := q35 (show fnd (pgm m_X5_steer) 36 = some (39, 35, 138, 93, 2, []) from rfl) ⟨⟨by simp, by simpa using h4⟩, (by simp only [List.take, List.reverse, List.reverseAux, rcv]; rw [if_neg (by decide +kernel)]; exact decide_eq_true hk)⟩
set_option maxRecDepth 100000 in
theorem s_X5_steer_39 {d : Nat} {l1 l2 l3 l4 l5 l6 l7 l8 : AV} {st : List AV} {o : Nat} {σ : Sg} {Q : AV → Sg → Prop} (ho : o ≠ 0) : Rn d m_X5_steer 39 [vR o, l1, l2, l3, l4, l5, l6, l7, l8] st σ Q ↔ Rn d m_X5_steer 40 [vR o, l1, l2, l3, l4, l5, l6, l7, l8] (vR o :: st) σ Q := q5 (show fnd (pgm m_X5_steer) 39 = some (40, 5, 0, 0, 0, []) from rfl) rfl ho
set_option maxRecDepth 100000 in
theorem s_X5_steer_40 {d : Nat} {l0 l1 l2 l3 l4 l5 l6 l7 l8 : AV} {st : List AV} {o : Nat} {σ : Sg} {Q : AV → Sg → Prop} (hk : kn σ o = (0, 5)) : Rn d m_X5_steer 40 [l0, l1, l2, l3, l4, l5, l6, l7, l8] (vR o :: st) σ Q ↔ Rn d m_X5_steer 43 [l0, l1, l2, l3, l4, l5, l6, l7, l8] (vR (tp o 3) :: st) σ Q := q33 (show fnd (pgm m_X5_steer) 40 = some (43, 33, 27, 5, 3, []) from rfl) hk
set_option maxRecDepth 100000 in
theorem s_X5_steer_43 {d : Nat} {l0 l1 l2 l3 l4 l5 l6 l7 l8 : AV} {st : List AV} {o : Nat} {σ : Sg} {Q : AV → Sg → Prop} (hk : kn σ o = (0, 4)) : Rn d m_X5_steer 43 [l0, l1, l2, l3, l4, l5, l6, l7, l8] (vR o :: st) σ Q ↔ Rn d m_X5_steer 46 [l0, l1, l2, l3, l4, l5, l6, l7, l8] (vR (tp o 0) :: st) σ Q := q33 (show fnd (pgm m_X5_steer) 43 = some (46, 33, 141, 4, 0, []) from rfl) hk
set_option maxRecDepth 100000 in
theorem s_X5_steer_46 {d : Nat} {l0 l2 l3 l4 l5 l6 l7 l8 : AV} {st : List AV} {x : Int} {σ : Sg} {Q : AV → Sg → Prop}  : Rn d m_X5_steer 46 [l0, vI x, l2, l3, l4, l5, l6, l7, l8] st σ Q ↔ Rn d m_X5_steer 47 [l0, vI x, l2, l3, l4, l5, l6, l7, l8] (vI x :: st) σ Q := q3 (show fnd (pgm m_X5_steer) 46 = some (47, 3, 0, 1, 0, []) from rfl) rfl
set_option maxRecDepth 100000 in
theorem s_X5_steer_47 {d : Nat} {l0 l1 l2 l3 l4 l5 l6 l7 l8 : AV} {st : List AV} {i : Int} {o : Nat} {σ : Sg} {Q : AV → Sg → Prop} (hi : 0 ≤ w32 i ∧ w32 i < al σ 1 o) : Rn d m_X5_steer 47 [l0, l1, l2, l3, l4, l5, l6, l7, l8] (vI i :: vR o :: st) σ Q ↔ Rn d m_X5_steer 48 [l0, l1, l2, l3, l4, l5, l6, l7, l8] (vI (σ o (w32 i)) :: st) σ Q := q25 (show fnd (pgm m_X5_steer) 47 = some (48, 25, 0, 0, 0, []) from rfl) hi
set_option maxRecDepth 100000 in
theorem s_X5_steer_48 {d : Nat} {l0 l1 l3 l4 l5 l6 l7 l8 : AV} {st : List AV} {x : Int} {σ : Sg} {Q : AV → Sg → Prop}  : Rn d m_X5_steer 48 [l0, l1, vI x, l3, l4, l5, l6, l7, l8] st σ Q ↔ Rn d m_X5_steer 49 [l0, l1, vI x, l3, l4, l5, l6, l7, l8] (vI x :: st) σ Q := q3 (show fnd (pgm m_X5_steer) 48 = some (49, 3, 0, 2, 0, []) from rfl) rfl
set_option maxRecDepth 100000 in
theorem s_X5_steer_49 {d : Nat} {l0 l1 l2 l3 l4 l5 l6 l7 l8 : AV} {st : List AV} {a b : Int} {σ : Sg} {Q : AV → Sg → Prop}  : Rn d m_X5_steer 49 [l0, l1, l2, l3, l4, l5, l6, l7, l8] (vI b :: vI a :: st) σ Q ↔ if ¬ w32 a = w32 b then Rn d m_X5_steer 56 [l0, l1, l2, l3, l4, l5, l6, l7, l8] st σ Q else Rn d m_X5_steer 52 [l0, l1, l2, l3, l4, l5, l6, l7, l8] st σ Q := q20_1 (show fnd (pgm m_X5_steer) 49 = some (52, 20, 0, 1, 56, []) from rfl)
set_option maxRecDepth 100000 in
theorem s_X5_steer_52 {d : Nat} {l0 l1 l2 l3 l4 l5 l6 l7 l8 : AV} {st : List AV} {σ : Sg} {Q : AV → Sg → Prop}  : Rn d m_X5_steer 52 [l0, l1, l2, l3, l4, l5, l6, l7, l8] st σ Q ↔ Rn d m_X5_steer 53 [l0, l1, l2, l3, l4, l5, l6, l7, l8] (vI 1 :: st) σ Q := q0 (show fnd (pgm m_X5_steer) 52 = some (53, 0, 1, 0, 0, []) from rfl)
set_option maxRecDepth 100000 in
theorem s_X5_steer_53 {d : Nat} {l0 l1 l2 l3 l4 l5 l6 l7 l8 : AV} {st : List AV} {σ : Sg} {Q : AV → Sg → Prop}  : Rn d m_X5_steer 53 [l0, l1, l2, l3, l4, l5, l6, l7, l8] st σ Q ↔ Rn d m_X5_steer 57 [l0, l1, l2, l3, l4, l5, l6, l7, l8] st σ Q := q21 (show fnd (pgm m_X5_steer) 53 = some (56, 21, 0, 0, 57, []) from rfl)
set_option maxRecDepth 100000 in
theorem s_X5_steer_56 {d : Nat} {l0 l1 l2 l3 l4 l5 l6 l7 l8 : AV} {st : List AV} {σ : Sg} {Q : AV → Sg → Prop}  : Rn d m_X5_steer 56 [l0, l1, l2, l3, l4, l5, l6, l7, l8] st σ Q ↔ Rn d m_X5_steer 57 [l0, l1, l2, l3, l4, l5, l6, l7, l8] (vI 0 :: st) σ Q := q0 (show fnd (pgm m_X5_steer) 56 = some (57, 0, 0, 0, 0, []) from rfl)
set_option maxRecDepth 100000 in
theorem s_X5_steer_57 {d : Nat} {l0 l1 l2 l3 l4 l5 l6 l7 l8 : AV} {st : List AV} {x : Int} {σ : Sg} {Q : AV → Sg → Prop}  : Rn d m_X5_steer 57 [l0, l1, l2, l3, l4, l5, l6, l7, l8] (vI x :: st) σ Q ↔ Rn d m_X5_steer 59 [l0, l1, l2, l3, vI x, l5, l6, l7, l8] st σ Q := q6 (show fnd (pgm m_X5_steer) 57 = some (59, 6, 0, 4, 1, []) from rfl) (by decide : 4 < 9)
set_option maxRecDepth 100000 in
theorem s_X5_steer_59 {d : Nat} {l1 l2 l3 l4 l5 l6 l7 l8 : AV} {st : List AV} {o : Nat} {σ : Sg} {Q : AV → Sg → Prop} (ho : o ≠ 0) : Rn d m_X5_steer 59 [vR o, l1, l2, l3, l4, l5, l6, l7, l8] st σ Q ↔ Rn d m_X5_steer 60 [vR o, l1, l2, l3, l4, l5, l6, l7, l8] (vR o :: st) σ Q := q5 (show fnd (pgm m_X5_steer) 59 = some (60, 5, 0, 0, 0, []) from rfl) rfl ho
set_option maxRecDepth 100000 in
theorem s_X5_steer_60 {d : Nat} {l0 l1 l2 l3 l4 l5 l6 l7 l8 : AV} {st : List AV} {o : Nat} {σ : Sg} {Q : AV → Sg → Prop} (hk : kn σ o = (0, 5)) : Rn d m_X5_steer 60 [l0, l1, l2, l3, l4, l5, l6, l7, l8] (vR o :: st) σ Q ↔ Rn d m_X5_steer 63 [l0, l1, l2, l3, l4, l5, l6, l7, l8] (vR (tp o 3) :: st) σ Q := q33 (show fnd (pgm m_X5_steer) 60 = some (63, 33, 27, 5, 3, []) from rfl) hk
set_option maxRecDepth 100000 in
theorem s_X5_steer_63 {d : Nat} {l0 l1 l2 l3 l4 l5 l6 l7 l8 : AV} {st : List AV} {o : Nat} {σ : Sg} {Q : AV → Sg → Prop} (h4 : st.length ≤ 4) (hk : kn σ o = (0, 4)) : Rn d m_X5_steer 63 [l0, l1, l2, l3, l4, l5, l6, l7, l8] (vR o :: st) σ Q ↔ ∃ r σ1, Ev d m_X4_keepCellsComeTo [vR o] σ r σ1 ∧ Rn d m_X5_steer 66 [l0, l1, l2, l3, l4, l5, l6, l7, l8] (psh r st) σ1 Q := q35 (show fnd (pgm m_X5_steer) 63 = some (66, 35, 184, 52, 1, []) from rfl) ⟨⟨by simp, by simpa using h4⟩, (by simp only [List.take, List.reverse, List.reverseAux, rcv]; rw [if_neg (by decide +kernel)]; exact decide_eq_true hk)⟩
set_option maxRecDepth 100000 in
theorem s_X5_steer_66 {d : Nat} {l0 l1 l2 l3 l4 l5 l6 l7 l8 : AV} {st : List AV} {o : Nat} {σ : Sg} {Q : AV → Sg → Prop} (ho : o ≠ 0) : Rn d m_X5_steer 66 [l0, l1, l2, l3, l4, l5, l6, l7, l8] (vR o :: st) σ Q ↔ Rn d m_X5_steer 68 [l0, l1, l2, l3, l4, vR o, l6, l7, l8] st σ Q := q8 (show fnd (pgm m_X5_steer) 66 = some (68, 8, 0, 5, 1, []) from rfl) (by decide : 5 < 9) ho
set_option maxRecDepth 100000 in
theorem s_X5_steer_68 {d : Nat} {l0 l1 l2 l3 l4 l5 l6 l7 l8 : AV} {st : List AV} {σ : Sg} {Q : AV → Sg → Prop}  : Rn d m_X5_steer 68 [l0, l1, l2, l3, l4, l5, l6, l7, l8] st σ Q ↔ Rn d m_X5_steer 69 [l0, l1, l2, l3, l4, l5, l6, l7, l8] (vI 0 :: st) σ Q := q0 (show fnd (pgm m_X5_steer) 68 = some (69, 0, 0, 0, 0, []) from rfl)
set_option maxRecDepth 100000 in
theorem s_X5_steer_69 {d : Nat} {l0 l1 l2 l3 l4 l5 l6 l7 l8 : AV} {st : List AV} {x : Int} {σ : Sg} {Q : AV → Sg → Prop}  : Rn d m_X5_steer 69 [l0, l1, l2, l3, l4, l5, l6, l7, l8] (vI x :: st) σ Q ↔ Rn d m_X5_steer 71 [l0, l1, l2, l3, l4, l5, vI x, l7, l8] st σ Q := q6 (show fnd (pgm m_X5_steer) 69 = some (71, 6, 0, 6, 1, []) from rfl) (by decide : 6 < 9)
set_option maxRecDepth 100000 in
theorem s_X5_steer_71 {d : Nat} {l0 l1 l2 l3 l4 l5 l7 l8 : AV} {st : List AV} {x : Int} {σ : Sg} {Q : AV → Sg → Prop}  : Rn d m_X5_steer 71 [l0, l1, l2, l3, l4, l5, vI x, l7, l8] st σ Q ↔ Rn d m_X5_steer 73 [l0, l1, l2, l3, l4, l5, vI x, l7, l8] (vI x :: st) σ Q := q3 (show fnd (pgm m_X5_steer) 71 = some (73, 3, 0, 6, 1, []) from rfl) rfl
set_option maxRecDepth 100000 in
theorem s_X5_steer_73 {d : Nat} {l0 l1 l2 l3 l4 l5 l6 l7 l8 : AV} {st : List AV} {σ : Sg} {Q : AV → Sg → Prop}  : Rn d m_X5_steer 73 [l0, l1, l2, l3, l4, l5, l6, l7, l8] st σ Q ↔ Rn d m_X5_steer 76 [l0, l1, l2, l3, l4, l5, l6, l7, l8] (vI 144 :: st) σ Q := q0 (show fnd (pgm m_X5_steer) 73 = some (76, 0, 144, 2, 0, []) from rfl)
set_option maxRecDepth 100000 in
theorem s_X5_steer_76 {d : Nat} {l0 l1 l2 l3 l4 l5 l6 l7 l8 : AV} {st : List AV} {a b : Int} {σ : Sg} {Q : AV → Sg → Prop}  : Rn d m_X5_steer 76 [l0, l1, l2, l3, l4, l5, l6, l7, l8] (vI b :: vI a :: st) σ Q ↔ if w32 b ≤ w32 a then Rn d m_X5_steer 165 [l0, l1, l2, l3, l4, l5, l6, l7, l8] st σ Q else Rn d m_X5_steer 79 [l0, l1, l2, l3, l4, l5, l6, l7, l8] st σ Q := q20_3 (show fnd (pgm m_X5_steer) 76 = some (79, 20, 0, 3, 165, []) from rfl)
set_option maxRecDepth 100000 in
theorem s_X5_steer_79 {d : Nat} {l1 l2 l3 l4 l5 l6 l7 l8 : AV} {st : List AV} {o : Nat} {σ : Sg} {Q : AV → Sg → Prop} (ho : o ≠ 0) : Rn d m_X5_steer 79 [vR o, l1, l2, l3, l4, l5, l6, l7, l8] st σ Q ↔ Rn d m_X5_steer 80 [vR o, l1, l2, l3, l4, l5, l6, l7, l8] (vR o :: st) σ Q := q5 (show fnd (pgm m_X5_steer) 79 = some (80, 5, 0, 0, 0, []) from rfl) rfl ho
set_option maxRecDepth 100000 in
theorem s_X5_steer_80 {d : Nat} {l0 l1 l2 l3 l4 l5 l6 l7 l8 : AV} {st : List AV} {o : Nat} {σ : Sg} {Q : AV → Sg → Prop} (hk : kn σ o = (0, 5)) : Rn d m_X5_steer 80 [l0, l1, l2, l3, l4, l5, l6, l7, l8] (vR o :: st) σ Q ↔ Rn d m_X5_steer 83 [l0, l1, l2, l3, l4, l5, l6, l7, l8] (vR (tp o 0) :: st) σ Q := q33 (show fnd (pgm m_X5_steer) 80 = some (83, 33, 12, 5, 0, []) from rfl) hk
set_option maxRecDepth 100000 in
theorem s_X5_steer_83 {d : Nat} {l0 l1 l2 l3 l4 l5 l6 l7 l8 : AV} {st : List AV} {o : Nat} {σ : Sg} {Q : AV → Sg → Prop} (hk : kn σ o = (0, 0)) : Rn d m_X5_steer 83 [l0, l1, l2, l3, l4, l5, l6, l7, l8] (vR o :: st) σ Q ↔ Rn d m_X5_steer 86 [l0, l1, l2, l3, l4, l5, l6, l7, l8] (vR (tp o 6) :: st) σ Q := q33 (show fnd (pgm m_X5_steer) 83 = some (86, 33, 92, 0, 6, []) from rfl) hk
set_option maxRecDepth 100000 in
theorem s_X5_steer_86 {d : Nat} {l0 l1 l2 l3 l4 l5 l7 l8 : AV} {st : List AV} {x : Int} {σ : Sg} {Q : AV → Sg → Prop}  : Rn d m_X5_steer 86 [l0, l1, l2, l3, l4, l5, vI x, l7, l8] st σ Q ↔ Rn d m_X5_steer 88 [l0, l1, l2, l3, l4, l5, vI x, l7, l8] (vI x :: st) σ Q := q3 (show fnd (pgm m_X5_steer) 86 = some (88, 3, 0, 6, 1, []) from rfl) rfl
set_option maxRecDepth 100000 in
theorem s_X5_steer_88 {d : Nat} {l0 l1 l2 l3 l4 l5 l6 l7 l8 : AV} {st : List AV} {i : Int} {o : Nat} {σ : Sg} {Q : AV → Sg → Prop} (hi : 0 ≤ w32 i ∧ w32 i < al σ 1 o) : Rn d m_X5_steer 88 [l0, l1, l2, l3, l4, l5, l6, l7, l8] (vI i :: vR o :: st) σ Q ↔ Rn d m_X5_steer 89 [l0, l1, l2, l3, l4, l5, l6, l7, l8] (vI (σ o (w32 i)) :: st) σ Q := q25 (show fnd (pgm m_X5_steer) 88 = some (89, 25, 0, 0, 0, []) from rfl) hi
set_option maxRecDepth 100000 in
theorem s_X5_steer_89 {d : Nat} {l0 l1 l2 l3 l4 l5 l6 l7 l8 : AV} {st : List AV} {σ : Sg} {Q : AV → Sg → Prop}  : Rn d m_X5_steer 89 [l0, l1, l2, l3, l4, l5, l6, l7, l8] st σ Q ↔ Rn d m_X5_steer 90 [l0, l1, l2, l3, l4, l5, l6, l7, l8] (vI 1 :: st) σ Q := q0 (show fnd (pgm m_X5_steer) 89 = some (90, 0, 1, 0, 0, []) from rfl)
set_option maxRecDepth 100000 in
theorem s_X5_steer_90 {d : Nat} {l0 l1 l2 l3 l4 l5 l6 l7 l8 : AV} {st : List AV} {a b : Int} {σ : Sg} {Q : AV → Sg → Prop}  : Rn d m_X5_steer 90 [l0, l1, l2, l3, l4, l5, l6, l7, l8] (vI b :: vI a :: st) σ Q ↔ if ¬ w32 a = w32 b then Rn d m_X5_steer 96 [l0, l1, l2, l3, l4, l5, l6, l7, l8] st σ Q else Rn d m_X5_steer 93 [l0, l1, l2, l3, l4, l5, l6, l7, l8] st σ Q := q20_1 (show fnd (pgm m_X5_steer) 90 = some (93, 20, 0, 1, 96, []) from rfl)
set_option maxRecDepth 100000 in
theorem s_X5_steer_93 {d : Nat} {l0 l1 l2 l3 l4 l5 l6 l7 l8 : AV} {st : List AV} {σ : Sg} {Q : AV → Sg → Prop}  : Rn d m_X5_steer 93 [l0, l1, l2, l3, l4, l5, l6, l7, l8] st σ Q ↔ Rn d m_X5_steer 159 [l0, l1, l2, l3, l4, l5, l6, l7, l8] st σ Q := q21 (show fnd (pgm m_X5_steer) 93 = some (96, 21, 0, 0, 159, []) from rfl)
set_option maxRecDepth 100000 in
theorem s_X5_steer_96 {d : Nat} {l0 l1 l2 l3 l4 l5 l6 l7 l8 : AV} {st : List AV} {σ : Sg} {Q : AV → Sg → Prop}  : Rn d m_X5_steer 96 [l0, l1, l2, l3, l4, l5, l6, l7, l8] st σ Q ↔ Rn d m_X5_steer 97 [l0, l1, l2, l3, l4, l5, l6, l7, l8] (vI 1 :: st) σ Q := q0 (show fnd (pgm m_X5_steer) 96 = some (97, 0, 1, 0, 0, []) from rfl)
set_option maxRecDepth 100000 in
theorem s_X5_steer_97 {d : Nat} {l0 l1 l2 l3 l4 l5 l6 l7 l8 : AV} {st : List AV} {x : Int} {σ : Sg} {Q : AV → Sg → Prop}  : Rn d m_X5_steer 97 [l0, l1, l2, l3, l4, l5, l6, l7, l8] (vI x :: st) σ Q ↔ Rn d m_X5_steer 99 [l0, l1, l2, l3, l4, l5, l6, vI x, l8] st σ Q := q6 (show fnd (pgm m_X5_steer) 97 = some (99, 6, 0, 7, 1, []) from rfl) (by decide : 7 < 9)
set_option maxRecDepth 100000 in
theorem s_X5_steer_99 {d : Nat} {l0 l1 l2 l3 l4 l5 l6 l8 : AV} {st : List AV} {x : Int} {σ : Sg} {Q : AV → Sg → Prop}  : Rn d m_X5_steer 99 [l0, l1, l2, l3, l4, l5, l6, vI x, l8] st σ Q ↔ Rn d m_X5_steer 101 [l0, l1, l2, l3, l4, l5, l6, vI x, l8] (vI x :: st) σ Q := q3 (show fnd (pgm m_X5_steer) 99 = some (101, 3, 0, 7, 1, []) from rfl) rfl
set_option maxRecDepth 100000 in
theorem s_X5_steer_101 {d : Nat} {l0 l1 l2 l3 l4 l5 l6 l7 l8 : AV} {st : List AV} {σ : Sg} {Q : AV → Sg → Prop}  : Rn d m_X5_steer 101 [l0, l1, l2, l3, l4, l5, l6, l7, l8] st σ Q ↔ Rn d m_X5_steer 102 [l0, l1, l2, l3, l4, l5, l6, l7, l8] (vI 3 :: st) σ Q := q0 (show fnd (pgm m_X5_steer) 101 = some (102, 0, 3, 0, 0, []) from rfl)
set_option maxRecDepth 100000 in
theorem s_X5_steer_102 {d : Nat} {l0 l1 l2 l3 l4 l5 l6 l7 l8 : AV} {st : List AV} {a b : Int} {σ : Sg} {Q : AV → Sg → Prop}  : Rn d m_X5_steer 102 [l0, l1, l2, l3, l4, l5, l6, l7, l8] (vI b :: vI a :: st) σ Q ↔ if w32 b < w32 a then Rn d m_X5_steer 159 [l0, l1, l2, l3, l4, l5, l6, l7, l8] st σ Q else Rn d m_X5_steer 105 [l0, l1, l2, l3, l4, l5, l6, l7, l8] st σ Q := q20_4 (show fnd (pgm m_X5_steer) 102 = some (105, 20, 0, 4, 159, []) from rfl)
set_option maxRecDepth 100000 in
theorem s_X5_steer_105 {d : Nat} {l0 l1 l2 l3 l4 l6 l7 l8 : AV} {st : List AV} {o : Nat} {σ : Sg} {Q : AV → Sg → Prop} (ho : o ≠ 0) : Rn d m_X5_steer 105 [l0, l1, l2, l3, l4, vR o, l6, l7, l8] st σ Q ↔ Rn d m_X5_steer 107 [l0, l1, l2, l3, l4, vR o, l6, l7, l8] (vR o :: st) σ Q := q5 (show fnd (pgm m_X5_steer) 105 = some (107, 5, 0, 5, 1, []) from rfl) rfl ho
set_option maxRecDepth 100000 in
theorem s_X5_steer_107 {d : Nat} {l0 l1 l2 l3 l4 l5 l7 l8 : AV} {st : List AV} {x : Int} {σ : Sg} {Q : AV → Sg → Prop}  : Rn d m_X5_steer 107 [l0, l1, l2, l3, l4, l5, vI x, l7, l8] st σ Q ↔ Rn d m_X5_steer 109 [l0, l1, l2, l3, l4, l5, vI x, l7, l8] (vI x :: st) σ Q := q3 (show fnd (pgm m_X5_steer) 107 = some (109, 3, 0, 6, 1, []) from rfl) rfl
set_option maxRecDepth 100000 in
theorem s_X5_steer_109 {d : Nat} {l0 l1 l2 l3 l4 l5 l6 l7 l8 : AV} {st : List AV} {i : Int} {o : Nat} {σ : Sg} {Q : AV → Sg → Prop} (hi : 0 ≤ w32 i ∧ w32 i < al σ 3 o) : Rn d m_X5_steer 109 [l0, l1, l2, l3, l4, l5, l6, l7, l8] (vI i :: vR o :: st) σ Q ↔ Rn d m_X5_steer 110 [l0, l1, l2, l3, l4, l5, l6, l7, l8] (vI (σ o (w32 i)) :: st) σ Q := q27 (show fnd (pgm m_X5_steer) 109 = some (110, 27, 0, 0, 0, []) from rfl) hi
set_option maxRecDepth 100000 in
theorem s_X5_steer_110 {d : Nat} {l0 l1 l2 l3 l4 l5 l6 l7 l8 : AV} {st : List AV} {a : Int} {σ : Sg} {Q : AV → Sg → Prop}  : Rn d m_X5_steer 110 [l0, l1, l2, l3, l4, l5, l6, l7, l8] (vI a :: st) σ Q ↔ if w32 a = 0 then Rn d m_X5_steer 135 [l0, l1, l2, l3, l4, l5, l6, l7, l8] st σ Q else Rn d m_X5_steer 113 [l0, l1, l2, l3, l4, l5, l6, l7, l8] st σ Q := q19_0 (show fnd (pgm m_X5_steer) 110 = some (113, 19, 0, 0, 135, []) from rfl)
set_option maxRecDepth 100000 in
theorem s_X5_steer_113 {d : Nat} {l1 l2 l3 l4 l5 l6 l7 l8 : AV} {st : List AV} {o : Nat} {σ : Sg} {Q : AV → Sg → Prop} (ho : o ≠ 0) : Rn d m_X5_steer 113 [vR o, l1, l2, l3, l4, l5, l6, l7, l8] st σ Q ↔ Rn d m_X5_steer 114 [vR o, l1, l2, l3, l4, l5, l6, l7, l8] (vR o :: st) σ Q := q5 (show fnd (pgm m_X5_steer) 113 = some (114, 5, 0, 0, 0, []) from rfl) rfl ho
set_option maxRecDepth 100000 in
theorem s_X5_steer_114 {d : Nat} {l0 l1 l2 l3 l4 l5 l7 l8 : AV} {st : List AV} {x : Int} {σ : Sg} {Q : AV → Sg → Prop}  : Rn d m_X5_steer 114 [l0, l1, l2, l3, l4, l5, vI x, l7, l8] st σ Q ↔ Rn d m_X5_steer 116 [l0, l1, l2, l3, l4, l5, vI x, l7, l8] (vI x :: st) σ Q := q3 (show fnd (pgm m_X5_steer) 114 = some (116, 3, 0, 6, 1, []) from rfl) rfl
set_option maxRecDepth 100000 in
theorem s_X5_steer_116 {d : Nat} {l0 l1 l2 l3 l4 l5 l6 l8 : AV} {st : List AV} {x : Int} {σ : Sg} {Q : AV → Sg → Prop}  : Rn d m_X5_steer 116 [l0, l1, l2, l3, l4, l5, l6, vI x, l8] st σ Q ↔ Rn d m_X5_steer 118 [l0, l1, l2, l3, l4, l5, l6, vI x, l8] (vI x :: st) σ Q := q3 (show fnd (pgm m_X5_steer) 116 = some (118, 3, 0, 7, 1, []) from rfl) rfl
set_option maxRecDepth 100000 in
theorem s_X5_steer_118 {d : Nat} {l0 l2 l3 l4 l5 l6 l7 l8 : AV} {st : List AV} {x : Int} {σ : Sg} {Q : AV → Sg → Prop}  : Rn d m_X5_steer 118 [l0, vI x, l2, l3, l4, l5, l6, l7, l8] st σ Q ↔ Rn d m_X5_steer 119 [l0, vI x, l2, l3, l4, l5, l6, l7, l8] (vI x :: st) σ Q := q3 (show fnd (pgm m_X5_steer) 118 = some (119, 3, 0, 1, 0, []) from rfl) rfl
set_option maxRecDepth 100000 in
theorem s_X5_steer_119 {d : Nat} {l0 l1 l2 l4 l5 l6 l7 l8 : AV} {st : List AV} {x : Int} {σ : Sg} {Q : AV → Sg → Prop}  : Rn d m_X5_steer 119 [l0, l1, l2, vI x, l4, l5, l6, l7, l8] st σ Q ↔ Rn d m_X5_steer 120 [l0, l1, l2, vI x, l4, l5, l6, l7, l8] (vI x :: st) σ Q := q3 (show fnd (pgm m_X5_steer) 119 = some (120, 3, 0, 3, 0, []) from rfl) rfl
set_option maxRecDepth 100000 in
theorem s_X5_steer_120 {d : Nat} {l0 l1 l2 l3 l4 l5 l6 l7 l8 : AV} {st : List AV} {o : Nat} {a0 : Int} {a1 : Int} {a2 : Int} {a3 : Int} {σ : Sg} {Q : AV → Sg → Prop} (h4 : st.length ≤ 4) (hk : kn σ o = (0, 5)) : Rn d m_X5_steer 120 [l0, l1, l2, l3, l4, l5, l6, l7, l8] (vI a3 :: vI a2 :: vI a1 :: vI a0 :: vR o :: st) σ Q ↔ ∃ r σ1, Ev d m_X5_cellWithFence [vR o, vI a0, vI a1, vI a2, vI a3] σ r σ1 ∧ Rn d m_X5_steer 123 [l0, l1, l2, l3, l4, l5, l6, l7, l8] (psh r st) σ1 Q := q35 (show fnd (pgm m_X5_steer) 120 = some (123, 35, 218, 95, 5, []) from rfl) ⟨⟨by simp, by simpa using h4⟩, (by simp only [List.take, List.reverse, List.reverseAux, rcv]; rw [if_neg (by decide +kernel)]; exact decide_eq_true hk)⟩
set_option maxRecDepth 100000 in
theorem s_X5_steer_123 {d : Nat} {l0 l1 l3 l4 l5 l6 l7 l8 : AV} {st : List AV} {x : Int} {σ : Sg} {Q : AV → Sg → Prop}  : Rn d m_X5_steer 123 [l0, l1, vI x, l3, l4, l5, l6, l7, l8] st σ Q ↔ Rn d m_X5_steer 124 [l0, l1, vI x, l3, l4, l5, l6, l7, l8] (vI x :: st) σ Q := q3 (show fnd (pgm m_X5_steer) 123 = some (124, 3, 0, 2, 0, []) from rfl) rfl
set_option maxRecDepth 100000 in
theorem s_X5_steer_124 {d : Nat} {l0 l1 l2 l3 l4 l5 l6 l7 l8 : AV} {st : List AV} {a b : Int} {σ : Sg} {Q : AV → Sg → Prop}  : Rn d m_X5_steer 124 [l0, l1, l2, l3, l4, l5, l6, l7, l8] (vI b :: vI a :: st) σ Q ↔ if ¬ w32 a = w32 b then Rn d m_X5_steer 131 [l0, l1, l2, l3, l4, l5, l6, l7, l8] st σ Q else Rn d m_X5_steer 127 [l0, l1, l2, l3, l4, l5, l6, l7, l8] st σ Q := q20_1 (show fnd (pgm m_X5_steer) 124 = some (127, 20, 0, 1, 131, []) from rfl)
set_option maxRecDepth 100000 in
theorem s_X5_steer_127 {d : Nat} {l0 l1 l2 l3 l4 l5 l6 l7 l8 : AV} {st : List AV} {σ : Sg} {Q : AV → Sg → Prop}  : Rn d m_X5_steer 127 [l0, l1, l2, l3, l4, l5, l6, l7, l8] st σ Q ↔ Rn d m_X5_steer 128 [l0, l1, l2, l3, l4, l5, l6, l7, l8] (vI 1 :: st) σ Q := q0 (show fnd (pgm m_X5_steer) 127 = some (128, 0, 1, 0, 0, []) from rfl)
set_option maxRecDepth 100000 in
theorem s_X5_steer_128 {d : Nat} {l0 l1 l2 l3 l4 l5 l6 l7 l8 : AV} {st : List AV} {σ : Sg} {Q : AV → Sg → Prop}  : Rn d m_X5_steer 128 [l0, l1, l2, l3, l4, l5, l6, l7, l8] st σ Q ↔ Rn d m_X5_steer 137 [l0, l1, l2, l3, l4, l5, l6, l7, l8] st σ Q := q21 (show fnd (pgm m_X5_steer) 128 = some (131, 21, 0, 0, 137, []) from rfl)
set_option maxRecDepth 100000 in
theorem s_X5_steer_131 {d : Nat} {l0 l1 l2 l3 l4 l5 l6 l7 l8 : AV} {st : List AV} {σ : Sg} {Q : AV → Sg → Prop}  : Rn d m_X5_steer 131 [l0, l1, l2, l3, l4, l5, l6, l7, l8] st σ Q ↔ Rn d m_X5_steer 132 [l0, l1, l2, l3, l4, l5, l6, l7, l8] (vI 0 :: st) σ Q := q0 (show fnd (pgm m_X5_steer) 131 = some (132, 0, 0, 0, 0, []) from rfl)
set_option maxRecDepth 100000 in
theorem s_X5_steer_132 {d : Nat} {l0 l1 l2 l3 l4 l5 l6 l7 l8 : AV} {st : List AV} {σ : Sg} {Q : AV → Sg → Prop}  : Rn d m_X5_steer 132 [l0, l1, l2, l3, l4, l5, l6, l7, l8] st σ Q ↔ Rn d m_X5_steer 137 [l0, l1, l2, l3, l4, l5, l6, l7, l8] st σ Q := q21 (show fnd (pgm m_X5_steer) 132 = some (135, 21, 0, 0, 137, []) from rfl)
set_option maxRecDepth 100000 in
theorem s_X5_steer_135 {d : Nat} {l0 l1 l2 l3 l5 l6 l7 l8 : AV} {st : List AV} {x : Int} {σ : Sg} {Q : AV → Sg → Prop}  : Rn d m_X5_steer 135 [l0, l1, l2, l3, vI x, l5, l6, l7, l8] st σ Q ↔ Rn d m_X5_steer 137 [l0, l1, l2, l3, vI x, l5, l6, l7, l8] (vI x :: st) σ Q := q3 (show fnd (pgm m_X5_steer) 135 = some (137, 3, 0, 4, 1, []) from rfl) rfl
set_option maxRecDepth 100000 in
theorem s_X5_steer_137 {d : Nat} {l0 l1 l2 l3 l4 l5 l6 l7 l8 : AV} {st : List AV} {x : Int} {σ : Sg} {Q : AV → Sg → Prop}  : Rn d m_X5_steer 137 [l0, l1, l2, l3, l4, l5, l6, l7, l8] (vI x :: st) σ Q ↔ Rn d m_X5_steer 139 [l0, l1, l2, l3, l4, l5, l6, l7, vI x] st σ Q := q6 (show fnd (pgm m_X5_steer) 137 = some (139, 6, 0, 8, 1, []) from rfl) (by decide : 8 < 9)
set_option maxRecDepth 100000 in
theorem s_X5_steer_139 {d : Nat} {l0 l1 l2 l3 l4 l5 l6 l7 : AV} {st : List AV} {x : Int} {σ : Sg} {Q : AV → Sg → Prop}  : Rn d m_X5_steer 139 [l0, l1, l2, l3, l4, l5, l6, l7, vI x] st σ Q ↔ Rn d m_X5_steer 141 [l0, l1, l2, l3, l4, l5, l6, l7, vI x] (vI x :: st) σ Q := q3 (show fnd (pgm m_X5_steer) 139 = some (141, 3, 0, 8, 1, []) from rfl) rfl
set_option maxRecDepth 100000 in
theorem s_X5_steer_141 {d : Nat} {l0 l1 l2 l3 l4 l5 l6 l7 l8 : AV} {st : List AV} {a : Int} {σ : Sg} {Q : AV → Sg → Prop}  : Rn d m_X5_steer 141 [l0, l1, l2, l3, l4, l5, l6, l7, l8] (vI a :: st) σ Q ↔ if w32 a = 0 then Rn d m_X5_steer 153 [l0, l1, l2, l3, l4, l5, l6, l7, l8] st σ Q else Rn d m_X5_steer 144 [l0, l1, l2, l3, l4, l5, l6, l7, l8] st σ Q := q19_0 (show fnd (pgm m_X5_steer) 141 = some (144, 19, 0, 0, 153, []) from rfl)
set_option maxRecDepth 100000 in
theorem s_X5_steer_144 {d : Nat} {l0 l1 l2 l3 l4 l5 l6 l7 l8 : AV} {st : List AV} {σ : Sg} {Q : AV → Sg → Prop}  : Rn d m_X5_steer 144 [l0, l1, l2, l3, l4, l5, l6, l7, l8] st σ Q ↔ Rn d m_X5_steer 146 [l0, l1, l2, l3, l4, l5, l6, l7, l8] (vI 10 :: st) σ Q := q0 (show fnd (pgm m_X5_steer) 144 = some (146, 0, 10, 1, 0, []) from rfl)
set_option maxRecDepth 100000 in
theorem s_X5_steer_146 {d : Nat} {l0 l1 l2 l3 l4 l5 l7 l8 : AV} {st : List AV} {x : Int} {σ : Sg} {Q : AV → Sg → Prop}  : Rn d m_X5_steer 146 [l0, l1, l2, l3, l4, l5, vI x, l7, l8] st σ Q ↔ Rn d m_X5_steer 148 [l0, l1, l2, l3, l4, l5, vI x, l7, l8] (vI x :: st) σ Q := q3 (show fnd (pgm m_X5_steer) 146 = some (148, 3, 0, 6, 1, []) from rfl) rfl
set_option maxRecDepth 100000 in
theorem s_X5_steer_148 {d : Nat} {l0 l1 l2 l3 l4 l5 l6 l7 l8 : AV} {st : List AV} {a b : Int} {σ : Sg} {Q : AV → Sg → Prop}  : Rn d m_X5_steer 148 [l0, l1, l2, l3, l4, l5, l6, l7, l8] (vI b :: vI a :: st) σ Q ↔ Rn d m_X5_steer 149 [l0, l1, l2, l3, l4, l5, l6, l7, l8] (vI (a * b) :: st) σ Q := q10_2 (show fnd (pgm m_X5_steer) 148 = some (149, 10, 0, 2, 0, []) from rfl)
set_option maxRecDepth 100000 in
theorem s_X5_steer_149 {d : Nat} {l0 l1 l2 l3 l4 l5 l6 l8 : AV} {st : List AV} {x : Int} {σ : Sg} {Q : AV → Sg → Prop}  : Rn d m_X5_steer 149 [l0, l1, l2, l3, l4, l5, l6, vI x, l8] st σ Q ↔ Rn d m_X5_steer 151 [l0, l1, l2, l3, l4, l5, l6, vI x, l8] (vI x :: st) σ Q := q3 (show fnd (pgm m_X5_steer) 149 = some (151, 3, 0, 7, 1, []) from rfl) rfl
set_option maxRecDepth 100000 in
theorem s_X5_steer_151 {d : Nat} {l0 l1 l2 l3 l4 l5 l6 l7 l8 : AV} {st : List AV} {a b : Int} {σ : Sg} {Q : AV → Sg → Prop}  : Rn d m_X5_steer 151 [l0, l1, l2, l3, l4, l5, l6, l7, l8] (vI b :: vI a :: st) σ Q ↔ Rn d m_X5_steer 152 [l0, l1, l2, l3, l4, l5, l6, l7, l8] (vI (a + b) :: st) σ Q := q10_0 (show fnd (pgm m_X5_steer) 151 = some (152, 10, 0, 0, 0, []) from rfl)
set_option maxRecDepth 100000 in
theorem s_X5_steer_152 {d : Nat} {l0 l1 l2 l3 l4 l5 l6 l7 l8 : AV} {x : Int} {σ : Sg} {Q : AV → Sg → Prop}  : Rn d m_X5_steer 152 [l0, l1, l2, l3, l4, l5, l6, l7, l8] [vI x] σ Q ↔ Q (vI x) σ := q37_1 (st := []) (show fnd (pgm m_X5_steer) 152 = some (153, 37, 0, 1, 0, []) from rfl)
set_option maxRecDepth 100000 in
theorem s_X5_steer_153 {d : Nat} {l0 l1 l2 l3 l4 l5 l6 l8 : AV} {st : List AV} {x : Int} {σ : Sg} {Q : AV → Sg → Prop}  : Rn d m_X5_steer 153 [l0, l1, l2, l3, l4, l5, l6, vI x, l8] st σ Q ↔ Rn d m_X5_steer 156 [l0, l1, l2, l3, l4, l5, l6, vI (x + 1), l8] st σ Q := q9 (show fnd (pgm m_X5_steer) 153 = some (156, 9, 1, 7, 0, []) from rfl) rfl
set_option maxRecDepth 100000 in
theorem s_X5_steer_156 {d : Nat} {l0 l1 l2 l3 l4 l5 l6 l7 l8 : AV} {st : List AV} {σ : Sg} {Q : AV → Sg → Prop}  : Rn d m_X5_steer 156 [l0, l1, l2, l3, l4, l5, l6, l7, l8] st σ Q ↔ Rn d m_X5_steer 99 [l0, l1, l2, l3, l4, l5, l6, l7, l8] st σ Q := q21 (show fnd (pgm m_X5_steer) 156 = some (159, 21, 0, 0, 99, []) from rfl)
set_option maxRecDepth 100000 in
theorem s_X5_steer_159 {d : Nat} {l0 l1 l2 l3 l4 l5 l7 l8 : AV} {st : List AV} {x : Int} {σ : Sg} {Q : AV → Sg → Prop}  : Rn d m_X5_steer 159 [l0, l1, l2, l3, l4, l5, vI x, l7, l8] st σ Q ↔ Rn d m_X5_steer 162 [l0, l1, l2, l3, l4, l5, vI (x + 1), l7, l8] st σ Q := q9 (show fnd (pgm m_X5_steer) 159 = some (162, 9, 1, 6, 0, []) from rfl) rfl
set_option maxRecDepth 100000 in
theorem s_X5_steer_162 {d : Nat} {l0 l1 l2 l3 l4 l5 l6 l7 l8 : AV} {st : List AV} {σ : Sg} {Q : AV → Sg → Prop}  : Rn d m_X5_steer 162 [l0, l1, l2, l3, l4, l5, l6, l7, l8] st σ Q ↔ Rn d m_X5_steer 71 [l0, l1, l2, l3, l4, l5, l6, l7, l8] st σ Q := q21 (show fnd (pgm m_X5_steer) 162 = some (165, 21, 0, 0, 71, []) from rfl)
set_option maxRecDepth 100000 in
theorem s_X5_steer_165 {d : Nat} {l0 l1 l2 l3 l4 l5 l6 l7 l8 : AV} {st : List AV} {σ : Sg} {Q : AV → Sg → Prop}  : Rn d m_X5_steer 165 [l0, l1, l2, l3, l4, l5, l6, l7, l8] st σ Q ↔ Rn d m_X5_steer 166 [l0, l1, l2, l3, l4, l5, l6, l7, l8] (vI (-1) :: st) σ Q := q0 (show fnd (pgm m_X5_steer) 165 = some (166, 0, (-1), 0, 0, []) from rfl)
set_option maxRecDepth 100000 in
theorem s_X5_steer_166 {d : Nat} {l0 l1 l2 l3 l4 l5 l6 l7 l8 : AV} {x : Int} {σ : Sg} {Q : AV → Sg → Prop}  : Rn d m_X5_steer 166 [l0, l1, l2, l3, l4, l5, l6, l7, l8] [vI x] σ Q ↔ Q (vI x) σ := q37_1 (st := []) (show fnd (pgm m_X5_steer) 166 = some (167, 37, 0, 1, 0, []) from rfl)
set_option maxRecDepth 100000 in
theorem en_X5_guess {d : Nat} {o : Nat} {a0 : Int} {a1 : Int} {σ σ0 : Sg} {r0 : AV} (h : Rn d m_X5_guess 0 [vR o, vI a0, vI a1, none] [] σ (fun r σ1 => r = r0 ∧ σ1 = σ0)) : Ev (d + 1) m_X5_guess [vR o, vI a0, vI a1] σ r0 σ0 := Ev_is (Nat.le_of_ble_eq_true rfl) h
set_option maxRecDepth 100000 in
theorem eo_X5_guess {d : Nat} {o : Nat} {a0 : Int} {a1 : Int} {σ : Sg} {Q : AV → Sg → Prop} (h : Rn d m_X5_guess 0 [vR o, vI a0, vI a1, none] [] σ Q) : ∃ r σ1, Ev (d + 1) m_X5_guess [vR o, vI a0, vI a1] σ r σ1 ∧ Q r σ1 := Ev_of (Nat.le_of_ble_eq_true rfl) h
set_option maxRecDepth 100000 in
theorem s_X5_guess_0 {d : Nat} {l0 l2 l3 : AV} {st : List AV} {x : Int} {σ : Sg} {Q : AV → Sg → Prop}  : Rn d m_X5_guess 0 [l0, vI x, l2, l3] st σ Q ↔ Rn d m_X5_guess 1 [l0, vI x, l2, l3] (vI x :: st) σ Q := q3 (show fnd (pgm m_X5_guess) 0 = some (1, 3, 0, 1, 0, []) from rfl) rfl
set_option maxRecDepth 100000 in
theorem s_X5_guess_1 {d : Nat} {l0 l1 l2 l3 : AV} {st : List AV} {σ : Sg} {Q : AV → Sg → Prop}  : Rn d m_X5_guess 1 [l0, l1, l2, l3] st σ Q ↔ Rn d m_X5_guess 3 [l0, l1, l2, l3] (vI 20 :: st) σ Q := q0 (show fnd (pgm m_X5_guess) 1 = some (3, 0, 20, 1, 0, []) from rfl)
set_option maxRecDepth 100000 in
theorem s_X5_guess_3 {d : Nat} {l0 l1 l2 l3 : AV} {st : List AV}  {a0 : Int} {a1 : Int} {σ : Sg} {Q : AV → Sg → Prop} (h4 : st.length ≤ 4) : Rn d m_X5_guess 3 [l0, l1, l2, l3] (vI a1 :: vI a0 :: st) σ Q ↔ ∃ r σ1, Ev d m_X5_within [vI a0, vI a1] σ r σ1 ∧ Rn d m_X5_guess 6 [l0, l1, l2, l3] (psh r st) σ1 Q := q35 (show fnd (pgm m_X5_guess) 3 = some (6, 35, 80, 89, 2, []) from rfl) ⟨⟨by simp, by simpa using h4⟩, rfl⟩
set_option maxRecDepth 100000 in
theorem s_X5_guess_6 {d : Nat} {l0 l1 l2 l3 : AV} {st : List AV} {a : Int} {σ : Sg} {Q : AV → Sg → Prop}  : Rn d m_X5_guess 6 [l0, l1, l2, l3] (vI a :: st) σ Q ↔ if w32 a = 0 then Rn d m_X5_guess 17 [l0, l1, l2, l3] st σ Q else Rn d m_X5_guess 9 [l0, l1, l2, l3] st σ Q := q19_0 (show fnd (pgm m_X5_guess) 6 = some (9, 19, 0, 0, 17, []) from rfl)
set_option maxRecDepth 100000 in
theorem s_X5_guess_9 {d : Nat} {l0 l1 l3 : AV} {st : List AV} {x : Int} {σ : Sg} {Q : AV → Sg → Prop}  : Rn d m_X5_guess 9 [l0, l1, vI x, l3] st σ Q ↔ Rn d m_X5_guess 10 [l0, l1, vI x, l3] (vI x :: st) σ Q := q3 (show fnd (pgm m_X5_guess) 9 = some (10, 3, 0, 2, 0, []) from rfl) rfl
set_option maxRecDepth 100000 in
theorem s_X5_guess_10 {d : Nat} {l0 l1 l2 l3 : AV} {st : List AV} {σ : Sg} {Q : AV → Sg → Prop}  : Rn d m_X5_guess 10 [l0, l1, l2, l3] st σ Q ↔ Rn d m_X5_guess 11 [l0, l1, l2, l3] (vI 2 :: st) σ Q := q0 (show fnd (pgm m_X5_guess) 10 = some (11, 0, 2, 0, 0, []) from rfl)
set_option maxRecDepth 100000 in
theorem s_X5_guess_11 {d : Nat} {l0 l1 l2 l3 : AV} {st : List AV}  {a0 : Int} {a1 : Int} {σ : Sg} {Q : AV → Sg → Prop} (h4 : st.length ≤ 4) : Rn d m_X5_guess 11 [l0, l1, l2, l3] (vI a1 :: vI a0 :: st) σ Q ↔ ∃ r σ1, Ev d m_X5_within [vI a0, vI a1] σ r σ1 ∧ Rn d m_X5_guess 14 [l0, l1, l2, l3] (psh r st) σ1 Q := q35 (show fnd (pgm m_X5_guess) 11 = some (14, 35, 80, 89, 2, []) from rfl) ⟨⟨by simp, by simpa using h4⟩, rfl⟩
set_option maxRecDepth 100000 in
theorem s_X5_guess_14 {d : Nat} {l0 l1 l2 l3 : AV} {st : List AV} {a : Int} {σ : Sg} {Q : AV → Sg → Prop}  : Rn d m_X5_guess 14 [l0, l1, l2, l3] (vI a :: st) σ Q ↔ if ¬ w32 a = 0 then Rn d m_X5_guess 26 [l0, l1, l2, l3] st σ Q else Rn d m_X5_guess 17 [l0, l1, l2, l3] st σ Q := q19_1 (show fnd (pgm m_X5_guess) 14 = some (17, 19, 0, 1, 26, []) from rfl)
set_option maxRecDepth 100000 in
theorem s_X5_guess_17 {d : Nat} {l1 l2 l3 : AV} {st : List AV} {o : Nat} {σ : Sg} {Q : AV → Sg → Prop} (ho : o ≠ 0) : Rn d m_X5_guess 17 [vR o, l1, l2, l3] st σ Q ↔ Rn d m_X5_guess 18 [vR o, l1, l2, l3] (vR o :: st) σ Q := q5 (show fnd (pgm m_X5_guess) 17 = some (18, 5, 0, 0, 0, []) from rfl) rfl ho
set_option maxRecDepth 100000 in
theorem s_X5_guess_18 {d : Nat} {l0 l1 l2 l3 : AV} {st : List AV} {σ : Sg} {Q : AV → Sg → Prop}  : Rn d m_X5_guess 18 [l0, l1, l2, l3] st σ Q ↔ Rn d m_X5_guess 20 [l0, l1, l2, l3] (vI (-2) :: st) σ Q := q0 (show fnd (pgm m_X5_guess) 18 = some (20, 0, (-2), 1, 0, []) from rfl)
set_option maxRecDepth 100000 in
theorem s_X5_guess_20 {d : Nat} {l0 l1 l2 l3 : AV} {st : List AV} {σ : Sg} {Q : AV → Sg → Prop}  : Rn d m_X5_guess 20 [l0, l1, l2, l3] st σ Q ↔ Rn d m_X5_guess 22 [l0, l1, l2, l3] (vI (-10) :: st) σ Q := q0 (show fnd (pgm m_X5_guess) 20 = some (22, 0, (-10), 1, 0, []) from rfl)
set_option maxRecDepth 100000 in
theorem s_X5_guess_22 {d : Nat} {l0 l1 l2 l3 : AV} {st : List AV} {o : Nat} {a0 : Int} {a1 : Int} {σ : Sg} {Q : AV → Sg → Prop} (h4 : st.length ≤ 4) (hk : kn σ o = (0, 5)) : Rn d m_X5_guess 22 [l0, l1, l2, l3] (vI a1 :: vI a0 :: vR o :: st) σ Q ↔ ∃ r σ1, Ev d m_X5_refuse [vR o, vI a0, vI a1] σ r σ1 ∧ Rn d m_X5_guess 25 [l0, l1, l2, l3] (psh r st) σ1 Q := q35 (show fnd (pgm m_X5_guess) 22 = some (25, 35, 84, 92, 3, []) from rfl) ⟨⟨by simp, by simpa using h4⟩, (by simp only [List.take, List.reverse, List.reverseAux, rcv]; rw [if_neg (by decide +kernel)]; exact decide_eq_true hk)⟩
set_option maxRecDepth 100000 in
theorem s_X5_guess_25 {d : Nat} {l0 l1 l2 l3 : AV} {x : Int} {σ : Sg} {Q : AV → Sg → Prop}  : Rn d m_X5_guess 25 [l0, l1, l2, l3] [vI x] σ Q ↔ Q (vI x) σ := q37_1 (st := []) (show fnd (pgm m_X5_guess) 25 = some (26, 37, 0, 1, 0, []) from rfl)
set_option maxRecDepth 100000 in
theorem s_X5_guess_26 {d : Nat} {l1 l2 l3 : AV} {st : List AV} {o : Nat} {σ : Sg} {Q : AV → Sg → Prop} (ho : o ≠ 0) : Rn d m_X5_guess 26 [vR o, l1, l2, l3] st σ Q ↔ Rn d m_X5_guess 27 [vR o, l1, l2, l3] (vR o :: st) σ Q := q5 (show fnd (pgm m_X5_guess) 26 = some (27, 5, 0, 0, 0, []) from rfl) rfl ho
set_option maxRecDepth 100000 in
theorem s_X5_guess_27 {d : Nat} {l0 l1 l2 l3 : AV} {st : List AV} {o : Nat} {σ : Sg} {Q : AV → Sg → Prop} (hk : kn σ o = (0, 5)) : Rn d m_X5_guess 27 [l0, l1, l2, l3] (vR o :: st) σ Q ↔ Rn d m_X5_guess 30 [l0, l1, l2, l3] (vR (tp o 0) :: st) σ Q := q33 (show fnd (pgm m_X5_guess) 27 = some (30, 33, 12, 5, 0, []) from rfl) hk
set_option maxRecDepth 100000 in
theorem s_X5_guess_30 {d : Nat} {l0 l1 l2 l3 : AV} {st : List AV} {o : Nat} {σ : Sg} {Q : AV → Sg → Prop} (hk : kn σ o = (0, 0)) : Rn d m_X5_guess 30 [l0, l1, l2, l3] (vR o :: st) σ Q ↔ Rn d m_X5_guess 33 [l0, l1, l2, l3] (vI (σ o 10) :: st) σ Q := q33 (show fnd (pgm m_X5_guess) 30 = some (33, 33, 166, 0, 10, []) from rfl) hk
set_option maxRecDepth 100000 in
theorem s_X5_guess_33 {d : Nat} {l0 l1 l2 l3 : AV} {st : List AV} {σ : Sg} {Q : AV → Sg → Prop}  : Rn d m_X5_guess 33 [l0, l1, l2, l3] st σ Q ↔ Rn d m_X5_guess 34 [l0, l1, l2, l3] (vI (-1) :: st) σ Q := q0 (show fnd (pgm m_X5_guess) 33 = some (34, 0, (-1), 0, 0, []) from rfl)
set_option maxRecDepth 100000 in
theorem s_X5_guess_34 {d : Nat} {l0 l1 l2 l3 : AV} {st : List AV} {a b : Int} {σ : Sg} {Q : AV → Sg → Prop}  : Rn d m_X5_guess 34 [l0, l1, l2, l3] (vI b :: vI a :: st) σ Q ↔ if ¬ w32 a = w32 b then Rn d m_X5_guess 46 [l0, l1, l2, l3] st σ Q else Rn d m_X5_guess 37 [l0, l1, l2, l3] st σ Q := q20_1 (show fnd (pgm m_X5_guess) 34 = some (37, 20, 0, 1, 46, []) from rfl)
set_option maxRecDepth 100000 in
theorem s_X5_guess_37 {d : Nat} {l1 l2 l3 : AV} {st : List AV} {o : Nat} {σ : Sg} {Q : AV → Sg → Prop} (ho : o ≠ 0) : Rn d m_X5_guess 37 [vR o, l1, l2, l3] st σ Q ↔ Rn d m_X5_guess 38 [vR o, l1, l2, l3] (vR o :: st) σ Q := q5 (show fnd (pgm m_X5_guess) 37 = some (38, 5, 0, 0, 0, []) from rfl) rfl ho
set_option maxRecDepth 100000 in
theorem s_X5_guess_38 {d : Nat} {l0 l1 l2 l3 : AV} {st : List AV} {σ : Sg} {Q : AV → Sg → Prop}  : Rn d m_X5_guess 38 [l0, l1, l2, l3] st σ Q ↔ Rn d m_X5_guess 40 [l0, l1, l2, l3] (vI (-3) :: st) σ Q := q0 (show fnd (pgm m_X5_guess) 38 = some (40, 0, (-3), 1, 0, []) from rfl)
set_option maxRecDepth 100000 in
theorem s_X5_guess_40 {d : Nat} {l0 l1 l2 l3 : AV} {st : List AV} {σ : Sg} {Q : AV → Sg → Prop}  : Rn d m_X5_guess 40 [l0, l1, l2, l3] st σ Q ↔ Rn d m_X5_guess 42 [l0, l1, l2, l3] (vI (-20) :: st) σ Q := q0 (show fnd (pgm m_X5_guess) 40 = some (42, 0, (-20), 1, 0, []) from rfl)
set_option maxRecDepth 100000 in
theorem s_X5_guess_42 {d : Nat} {l0 l1 l2 l3 : AV} {st : List AV} {o : Nat} {a0 : Int} {a1 : Int} {σ : Sg} {Q : AV → Sg → Prop} (h4 : st.length ≤ 4) (hk : kn σ o = (0, 5)) : Rn d m_X5_guess 42 [l0, l1, l2, l3] (vI a1 :: vI a0 :: vR o :: st) σ Q ↔ ∃ r σ1, Ev d m_X5_refuse [vR o, vI a0, vI a1] σ r σ1 ∧ Rn d m_X5_guess 45 [l0, l1, l2, l3] (psh r st) σ1 Q := q35 (show fnd (pgm m_X5_guess) 42 = some (45, 35, 84, 92, 3, []) from rfl) ⟨⟨by simp, by simpa using h4⟩, (by simp only [List.take, List.reverse, List.reverseAux, rcv]; rw [if_neg (by decide +kernel)]; exact decide_eq_true hk)⟩
set_option maxRecDepth 100000 in
theorem s_X5_guess_45 {d : Nat} {l0 l1 l2 l3 : AV} {x : Int} {σ : Sg} {Q : AV → Sg → Prop}  : Rn d m_X5_guess 45 [l0, l1, l2, l3] [vI x] σ Q ↔ Q (vI x) σ := q37_1 (st := []) (show fnd (pgm m_X5_guess) 45 = some (46, 37, 0, 1, 0, []) from rfl)
set_option maxRecDepth 100000 in
theorem s_X5_guess_46 {d : Nat} {l1 l2 l3 : AV} {st : List AV} {o : Nat} {σ : Sg} {Q : AV → Sg → Prop} (ho : o ≠ 0) : Rn d m_X5_guess 46 [vR o, l1, l2, l3] st σ Q ↔ Rn d m_X5_guess 47 [vR o, l1, l2, l3] (vR o :: st) σ Q := q5 (show fnd (pgm m_X5_guess) 46 = some (47, 5, 0, 0, 0, []) from rfl) rfl ho
set_option maxRecDepth 100000 in
theorem s_X5_guess_47 {d : Nat} {l0 l2 l3 : AV} {st : List AV} {x : Int} {σ : Sg} {Q : AV → Sg → Prop}  : Rn d m_X5_guess 47 [l0, vI x, l2, l3] st σ Q ↔ Rn d m_X5_guess 48 [l0, vI x, l2, l3] (vI x :: st) σ Q := q3 (show fnd (pgm m_X5_guess) 47 = some (48, 3, 0, 1, 0, []) from rfl) rfl
set_option maxRecDepth 100000 in
theorem s_X5_guess_48 {d : Nat} {l0 l1 l2 l3 : AV} {st : List AV} {o : Nat} {a0 : Int} {σ : Sg} {Q : AV → Sg → Prop} (h4 : st.length ≤ 4) (hk : kn σ o = (0, 5)) : Rn d m_X5_guess 48 [l0, l1, l2, l3] (vI a0 :: vR o :: st) σ Q ↔ ∃ r σ1, Ev d m_X5_tryAllWeather [vR o, vI a0] σ r σ1 ∧ Rn d m_X5_guess 51 [l0, l1, l2, l3] (psh r st) σ1 Q := q35 (show fnd (pgm m_X5_guess) 48 = some (51, 35, 222, 97, 2, []) from rfl) ⟨⟨by simp, by simpa using h4⟩, (by simp only [List.take, List.reverse, List.reverseAux, rcv]; rw [if_neg (by decide +kernel)]; exact decide_eq_true hk)⟩
set_option maxRecDepth 100000 in
theorem s_X5_guess_51 {d : Nat} {l0 l1 l2 l3 : AV} {st : List AV} {x : Int} {σ : Sg} {Q : AV → Sg → Prop}  : Rn d m_X5_guess 51 [l0, l1, l2, l3] (vI x :: st) σ Q ↔ Rn d m_X5_guess 52 [l0, l1, l2, vI x] st σ Q := q6 (show fnd (pgm m_X5_guess) 51 = some (52, 6, 0, 3, 0, []) from rfl) (by decide : 3 < 4)
set_option maxRecDepth 100000 in
theorem s_X5_guess_52 {d : Nat} {l0 l1 l3 : AV} {st : List AV} {x : Int} {σ : Sg} {Q : AV → Sg → Prop}  : Rn d m_X5_guess 52 [l0, l1, vI x, l3] st σ Q ↔ Rn d m_X5_guess 53 [l0, l1, vI x, l3] (vI x :: st) σ Q := q3 (show fnd (pgm m_X5_guess) 52 = some (53, 3, 0, 2, 0, []) from rfl) rfl
set_option maxRecDepth 100000 in
theorem s_X5_guess_53 {d : Nat} {l0 l1 l2 l3 : AV} {st : List AV} {a : Int} {σ : Sg} {Q : AV → Sg → Prop}  : Rn d m_X5_guess 53 [l0, l1, l2, l3] (vI a :: st) σ Q ↔ if ¬ w32 a = 0 then Rn d m_X5_guess 60 [l0, l1, l2, l3] st σ Q else Rn d m_X5_guess 56 [l0, l1, l2, l3] st σ Q := q19_1 (show fnd (pgm m_X5_guess) 53 = some (56, 19, 0, 1, 60, []) from rfl)
set_option maxRecDepth 100000 in
theorem s_X5_guess_56 {d : Nat} {l0 l1 l2 : AV} {st : List AV} {x : Int} {σ : Sg} {Q : AV → Sg → Prop}  : Rn d m_X5_guess 56 [l0, l1, l2, vI x] st σ Q ↔ Rn d m_X5_guess 57 [l0, l1, l2, vI x] (vI x :: st) σ Q := q3 (show fnd (pgm m_X5_guess) 56 = some (57, 3, 0, 3, 0, []) from rfl) rfl
set_option maxRecDepth 100000 in
theorem s_X5_guess_57 {d : Nat} {l0 l1 l2 l3 : AV} {st : List AV} {σ : Sg} {Q : AV → Sg → Prop}  : Rn d m_X5_guess 57 [l0, l1, l2, l3] st σ Q ↔ Rn d m_X5_guess 64 [l0, l1, l2, l3] st σ Q := q21 (show fnd (pgm m_X5_guess) 57 = some (60, 21, 0, 0, 64, []) from rfl)
set_option maxRecDepth 100000 in
theorem s_X5_guess_60 {d : Nat} {l1 l2 l3 : AV} {st : List AV} {o : Nat} {σ : Sg} {Q : AV → Sg → Prop} (ho : o ≠ 0) : Rn d m_X5_guess 60 [vR o, l1, l2, l3] st σ Q ↔ Rn d m_X5_guess 61 [vR o, l1, l2, l3] (vR o :: st) σ Q := q5 (show fnd (pgm m_X5_guess) 60 = some (61, 5, 0, 0, 0, []) from rfl) rfl ho
set_option maxRecDepth 100000 in
theorem s_X5_guess_61 {d : Nat} {l0 l1 l2 l3 : AV} {st : List AV} {o : Nat} {σ : Sg} {Q : AV → Sg → Prop} (hk : kn σ o = (0, 5)) : Rn d m_X5_guess 61 [l0, l1, l2, l3] (vR o :: st) σ Q ↔ Rn d m_X5_guess 64 [l0, l1, l2, l3] (vI (σ o 8) :: st) σ Q := q33 (show fnd (pgm m_X5_guess) 61 = some (64, 33, 48, 5, 8, []) from rfl) hk
set_option maxRecDepth 100000 in
theorem s_X5_guess_64 {d : Nat} {l0 l1 l2 l3 : AV} {x : Int} {σ : Sg} {Q : AV → Sg → Prop}  : Rn d m_X5_guess 64 [l0, l1, l2, l3] [vI x] σ Q ↔ Q (vI x) σ := q37_1 (st := []) (show fnd (pgm m_X5_guess) 64 = some (65, 37, 0, 1, 0, []) from rfl)
set_option maxRecDepth 100000 in
theorem en_X5_guessWay {d : Nat} {o : Nat} {a0 : Int} {a1 : Int} {σ σ0 : Sg} {r0 : AV} (h : Rn d m_X5_guessWay 0 [vR o, vI a0, vI a1, none] [] σ (fun r σ1 => r = r0 ∧ σ1 = σ0)) : Ev (d + 1) m_X5_guessWay [vR o, vI a0, vI a1] σ r0 σ0 := Ev_is (Nat.le_of_ble_eq_true rfl) h
set_option maxRecDepth 100000 in
theorem eo_X5_guessWay {d : Nat} {o : Nat} {a0 : Int} {a1 : Int} {σ : Sg} {Q : AV → Sg → Prop} (h : Rn d m_X5_guessWay 0 [vR o, vI a0, vI a1, none] [] σ Q) : ∃ r σ1, Ev (d + 1) m_X5_guessWay [vR o, vI a0, vI a1] σ r σ1 ∧ Q r σ1 := Ev_of (Nat.le_of_ble_eq_true rfl) h
set_option maxRecDepth 100000 in
theorem s_X5_guessWay_0 {d : Nat} {l0 l2 l3 : AV} {st : List AV} {x : Int} {σ : Sg} {Q : AV → Sg → Prop}  : Rn d m_X5_guessWay 0 [l0, vI x, l2, l3] st σ Q ↔ Rn d m_X5_guessWay 1 [l0, vI x, l2, l3] (vI x :: st) σ Q := q3 (show fnd (pgm m_X5_guessWay) 0 = some (1, 3, 0, 1, 0, []) from rfl) rfl
set_option maxRecDepth 100000 in
theorem s_X5_guessWay_1 {d : Nat} {l0 l1 l2 l3 : AV} {st : List AV} {σ : Sg} {Q : AV → Sg → Prop}  : Rn d m_X5_guessWay 1 [l0, l1, l2, l3] st σ Q ↔ Rn d m_X5_guessWay 3 [l0, l1, l2, l3] (vI 20 :: st) σ Q := q0 (show fnd (pgm m_X5_guessWay) 1 = some (3, 0, 20, 1, 0, []) from rfl)
set_option maxRecDepth 100000 in
theorem s_X5_guessWay_3 {d : Nat} {l0 l1 l2 l3 : AV} {st : List AV}  {a0 : Int} {a1 : Int} {σ : Sg} {Q : AV → Sg → Prop} (h4 : st.length ≤ 4) : Rn d m_X5_guessWay 3 [l0, l1, l2, l3] (vI a1 :: vI a0 :: st) σ Q ↔ ∃ r σ1, Ev d m_X5_within [vI a0, vI a1] σ r σ1 ∧ Rn d m_X5_guessWay 6 [l0, l1, l2, l3] (psh r st) σ1 Q := q35 (show fnd (pgm m_X5_guessWay) 3 = some (6, 35, 80, 89, 2, []) from rfl) ⟨⟨by simp, by simpa using h4⟩, rfl⟩
set_option maxRecDepth 100000 in
theorem s_X5_guessWay_6 {d : Nat} {l0 l1 l2 l3 : AV} {st : List AV} {a : Int} {σ : Sg} {Q : AV → Sg → Prop}  : Rn d m_X5_guessWay 6 [l0, l1, l2, l3] (vI a :: st) σ Q ↔ if w32 a = 0 then Rn d m_X5_guessWay 17 [l0, l1, l2, l3] st σ Q else Rn d m_X5_guessWay 9 [l0, l1, l2, l3] st σ Q := q19_0 (show fnd (pgm m_X5_guessWay) 6 = some (9, 19, 0, 0, 17, []) from rfl)
set_option maxRecDepth 100000 in
theorem s_X5_guessWay_9 {d : Nat} {l0 l1 l3 : AV} {st : List AV} {x : Int} {σ : Sg} {Q : AV → Sg → Prop}  : Rn d m_X5_guessWay 9 [l0, l1, vI x, l3] st σ Q ↔ Rn d m_X5_guessWay 10 [l0, l1, vI x, l3] (vI x :: st) σ Q := q3 (show fnd (pgm m_X5_guessWay) 9 = some (10, 3, 0, 2, 0, []) from rfl) rfl
set_option maxRecDepth 100000 in
theorem s_X5_guessWay_10 {d : Nat} {l0 l1 l2 l3 : AV} {st : List AV} {σ : Sg} {Q : AV → Sg → Prop}  : Rn d m_X5_guessWay 10 [l0, l1, l2, l3] st σ Q ↔ Rn d m_X5_guessWay 11 [l0, l1, l2, l3] (vI 4 :: st) σ Q := q0 (show fnd (pgm m_X5_guessWay) 10 = some (11, 0, 4, 0, 0, []) from rfl)
set_option maxRecDepth 100000 in
theorem s_X5_guessWay_11 {d : Nat} {l0 l1 l2 l3 : AV} {st : List AV}  {a0 : Int} {a1 : Int} {σ : Sg} {Q : AV → Sg → Prop} (h4 : st.length ≤ 4) : Rn d m_X5_guessWay 11 [l0, l1, l2, l3] (vI a1 :: vI a0 :: st) σ Q ↔ ∃ r σ1, Ev d m_X5_within [vI a0, vI a1] σ r σ1 ∧ Rn d m_X5_guessWay 14 [l0, l1, l2, l3] (psh r st) σ1 Q := q35 (show fnd (pgm m_X5_guessWay) 11 = some (14, 35, 80, 89, 2, []) from rfl) ⟨⟨by simp, by simpa using h4⟩, rfl⟩
set_option maxRecDepth 100000 in
theorem s_X5_guessWay_14 {d : Nat} {l0 l1 l2 l3 : AV} {st : List AV} {a : Int} {σ : Sg} {Q : AV → Sg → Prop}  : Rn d m_X5_guessWay 14 [l0, l1, l2, l3] (vI a :: st) σ Q ↔ if ¬ w32 a = 0 then Rn d m_X5_guessWay 26 [l0, l1, l2, l3] st σ Q else Rn d m_X5_guessWay 17 [l0, l1, l2, l3] st σ Q := q19_1 (show fnd (pgm m_X5_guessWay) 14 = some (17, 19, 0, 1, 26, []) from rfl)
set_option maxRecDepth 100000 in
theorem s_X5_guessWay_17 {d : Nat} {l1 l2 l3 : AV} {st : List AV} {o : Nat} {σ : Sg} {Q : AV → Sg → Prop} (ho : o ≠ 0) : Rn d m_X5_guessWay 17 [vR o, l1, l2, l3] st σ Q ↔ Rn d m_X5_guessWay 18 [vR o, l1, l2, l3] (vR o :: st) σ Q := q5 (show fnd (pgm m_X5_guessWay) 17 = some (18, 5, 0, 0, 0, []) from rfl) rfl ho
set_option maxRecDepth 100000 in
theorem s_X5_guessWay_18 {d : Nat} {l0 l1 l2 l3 : AV} {st : List AV} {σ : Sg} {Q : AV → Sg → Prop}  : Rn d m_X5_guessWay 18 [l0, l1, l2, l3] st σ Q ↔ Rn d m_X5_guessWay 20 [l0, l1, l2, l3] (vI (-2) :: st) σ Q := q0 (show fnd (pgm m_X5_guessWay) 18 = some (20, 0, (-2), 1, 0, []) from rfl)
set_option maxRecDepth 100000 in
theorem s_X5_guessWay_20 {d : Nat} {l0 l1 l2 l3 : AV} {st : List AV} {σ : Sg} {Q : AV → Sg → Prop}  : Rn d m_X5_guessWay 20 [l0, l1, l2, l3] st σ Q ↔ Rn d m_X5_guessWay 22 [l0, l1, l2, l3] (vI (-2) :: st) σ Q := q0 (show fnd (pgm m_X5_guessWay) 20 = some (22, 0, (-2), 1, 0, []) from rfl)
set_option maxRecDepth 100000 in
theorem s_X5_guessWay_22 {d : Nat} {l0 l1 l2 l3 : AV} {st : List AV} {o : Nat} {a0 : Int} {a1 : Int} {σ : Sg} {Q : AV → Sg → Prop} (h4 : st.length ≤ 4) (hk : kn σ o = (0, 5)) : Rn d m_X5_guessWay 22 [l0, l1, l2, l3] (vI a1 :: vI a0 :: vR o :: st) σ Q ↔ ∃ r σ1, Ev d m_X5_refuse [vR o, vI a0, vI a1] σ r σ1 ∧ Rn d m_X5_guessWay 25 [l0, l1, l2, l3] (psh r st) σ1 Q := q35 (show fnd (pgm m_X5_guessWay) 22 = some (25, 35, 84, 92, 3, []) from rfl) ⟨⟨by simp, by simpa using h4⟩, (by simp only [List.take, List.reverse, List.reverseAux, rcv]; rw [if_neg (by decide +kernel)]; exact decide_eq_true hk)⟩
set_option maxRecDepth 100000 in
theorem s_X5_guessWay_25 {d : Nat} {l0 l1 l2 l3 : AV} {x : Int} {σ : Sg} {Q : AV → Sg → Prop}  : Rn d m_X5_guessWay 25 [l0, l1, l2, l3] [vI x] σ Q ↔ Q (vI x) σ := q37_1 (st := []) (show fnd (pgm m_X5_guessWay) 25 = some (26, 37, 0, 1, 0, []) from rfl)
set_option maxRecDepth 100000 in
theorem s_X5_guessWay_26 {d : Nat} {l1 l2 l3 : AV} {st : List AV} {o : Nat} {σ : Sg} {Q : AV → Sg → Prop} (ho : o ≠ 0) : Rn d m_X5_guessWay 26 [vR o, l1, l2, l3] st σ Q ↔ Rn d m_X5_guessWay 27 [vR o, l1, l2, l3] (vR o :: st) σ Q := q5 (show fnd (pgm m_X5_guessWay) 26 = some (27, 5, 0, 0, 0, []) from rfl) rfl ho
set_option maxRecDepth 100000 in
theorem s_X5_guessWay_27 {d : Nat} {l0 l1 l2 l3 : AV} {st : List AV} {o : Nat} {σ : Sg} {Q : AV → Sg → Prop} (hk : kn σ o = (0, 5)) : Rn d m_X5_guessWay 27 [l0, l1, l2, l3] (vR o :: st) σ Q ↔ Rn d m_X5_guessWay 30 [l0, l1, l2, l3] (vR (tp o 0) :: st) σ Q := q33 (show fnd (pgm m_X5_guessWay) 27 = some (30, 33, 12, 5, 0, []) from rfl) hk
set_option maxRecDepth 100000 in
theorem s_X5_guessWay_30 {d : Nat} {l0 l1 l2 l3 : AV} {st : List AV} {o : Nat} {σ : Sg} {Q : AV → Sg → Prop} (hk : kn σ o = (0, 0)) : Rn d m_X5_guessWay 30 [l0, l1, l2, l3] (vR o :: st) σ Q ↔ Rn d m_X5_guessWay 33 [l0, l1, l2, l3] (vI (σ o 10) :: st) σ Q := q33 (show fnd (pgm m_X5_guessWay) 30 = some (33, 33, 166, 0, 10, []) from rfl) hk
set_option maxRecDepth 100000 in
theorem s_X5_guessWay_33 {d : Nat} {l0 l1 l2 l3 : AV} {st : List AV} {σ : Sg} {Q : AV → Sg → Prop}  : Rn d m_X5_guessWay 33 [l0, l1, l2, l3] st σ Q ↔ Rn d m_X5_guessWay 34 [l0, l1, l2, l3] (vI (-1) :: st) σ Q := q0 (show fnd (pgm m_X5_guessWay) 33 = some (34, 0, (-1), 0, 0, []) from rfl)
set_option maxRecDepth 100000 in
theorem s_X5_guessWay_34 {d : Nat} {l0 l1 l2 l3 : AV} {st : List AV} {a b : Int} {σ : Sg} {Q : AV → Sg → Prop}  : Rn d m_X5_guessWay 34 [l0, l1, l2, l3] (vI b :: vI a :: st) σ Q ↔ if ¬ w32 a = w32 b then Rn d m_X5_guessWay 46 [l0, l1, l2, l3] st σ Q else Rn d m_X5_guessWay 37 [l0, l1, l2, l3] st σ Q := q20_1 (show fnd (pgm m_X5_guessWay) 34 = some (37, 20, 0, 1, 46, []) from rfl)
set_option maxRecDepth 100000 in
theorem s_X5_guessWay_37 {d : Nat} {l1 l2 l3 : AV} {st : List AV} {o : Nat} {σ : Sg} {Q : AV → Sg → Prop} (ho : o ≠ 0) : Rn d m_X5_guessWay 37 [vR o, l1, l2, l3] st σ Q ↔ Rn d m_X5_guessWay 38 [vR o, l1, l2, l3] (vR o :: st) σ Q := q5 (show fnd (pgm m_X5_guessWay) 37 = some (38, 5, 0, 0, 0, []) from rfl) rfl ho
set_option maxRecDepth 100000 in
theorem s_X5_guessWay_38 {d : Nat} {l0 l1 l2 l3 : AV} {st : List AV} {σ : Sg} {Q : AV → Sg → Prop}  : Rn d m_X5_guessWay 38 [l0, l1, l2, l3] st σ Q ↔ Rn d m_X5_guessWay 40 [l0, l1, l2, l3] (vI (-3) :: st) σ Q := q0 (show fnd (pgm m_X5_guessWay) 38 = some (40, 0, (-3), 1, 0, []) from rfl)
set_option maxRecDepth 100000 in
theorem s_X5_guessWay_40 {d : Nat} {l0 l1 l2 l3 : AV} {st : List AV} {σ : Sg} {Q : AV → Sg → Prop}  : Rn d m_X5_guessWay 40 [l0, l1, l2, l3] st σ Q ↔ Rn d m_X5_guessWay 42 [l0, l1, l2, l3] (vI (-3) :: st) σ Q := q0 (show fnd (pgm m_X5_guessWay) 40 = some (42, 0, (-3), 1, 0, []) from rfl)
set_option maxRecDepth 100000 in
theorem s_X5_guessWay_42 {d : Nat} {l0 l1 l2 l3 : AV} {st : List AV} {o : Nat} {a0 : Int} {a1 : Int} {σ : Sg} {Q : AV → Sg → Prop} (h4 : st.length ≤ 4) (hk : kn σ o = (0, 5)) : Rn d m_X5_guessWay 42 [l0, l1, l2, l3] (vI a1 :: vI a0 :: vR o :: st) σ Q ↔ ∃ r σ1, Ev d m_X5_refuse [vR o, vI a0, vI a1] σ r σ1 ∧ Rn d m_X5_guessWay 45 [l0, l1, l2, l3] (psh r st) σ1 Q := q35 (show fnd (pgm m_X5_guessWay) 42 = some (45, 35, 84, 92, 3, []) from rfl) ⟨⟨by simp, by simpa using h4⟩, (by simp only [List.take, List.reverse, List.reverseAux, rcv]; rw [if_neg (by decide +kernel)]; exact decide_eq_true hk)⟩
set_option maxRecDepth 100000 in
theorem s_X5_guessWay_45 {d : Nat} {l0 l1 l2 l3 : AV} {x : Int} {σ : Sg} {Q : AV → Sg → Prop}  : Rn d m_X5_guessWay 45 [l0, l1, l2, l3] [vI x] σ Q ↔ Q (vI x) σ := q37_1 (st := []) (show fnd (pgm m_X5_guessWay) 45 = some (46, 37, 0, 1, 0, []) from rfl)
set_option maxRecDepth 100000 in
theorem s_X5_guessWay_46 {d : Nat} {l1 l2 l3 : AV} {st : List AV} {o : Nat} {σ : Sg} {Q : AV → Sg → Prop} (ho : o ≠ 0) : Rn d m_X5_guessWay 46 [vR o, l1, l2, l3] st σ Q ↔ Rn d m_X5_guessWay 47 [vR o, l1, l2, l3] (vR o :: st) σ Q := q5 (show fnd (pgm m_X5_guessWay) 46 = some (47, 5, 0, 0, 0, []) from rfl) rfl ho
set_option maxRecDepth 100000 in
theorem s_X5_guessWay_47 {d : Nat} {l0 l2 l3 : AV} {st : List AV} {x : Int} {σ : Sg} {Q : AV → Sg → Prop}  : Rn d m_X5_guessWay 47 [l0, vI x, l2, l3] st σ Q ↔ Rn d m_X5_guessWay 48 [l0, vI x, l2, l3] (vI x :: st) σ Q := q3 (show fnd (pgm m_X5_guessWay) 47 = some (48, 3, 0, 1, 0, []) from rfl) rfl
set_option maxRecDepth 100000 in
theorem s_X5_guessWay_48 {d : Nat} {l0 l1 l2 l3 : AV} {st : List AV} {o : Nat} {a0 : Int} {σ : Sg} {Q : AV → Sg → Prop} (h4 : st.length ≤ 4) (hk : kn σ o = (0, 5)) : Rn d m_X5_guessWay 48 [l0, l1, l2, l3] (vI a0 :: vR o :: st) σ Q ↔ ∃ r σ1, Ev d m_X5_tryAllWeather [vR o, vI a0] σ r σ1 ∧ Rn d m_X5_guessWay 51 [l0, l1, l2, l3] (psh r st) σ1 Q := q35 (show fnd (pgm m_X5_guessWay) 48 = some (51, 35, 222, 97, 2, []) from rfl) ⟨⟨by simp, by simpa using h4⟩, (by simp only [List.take, List.reverse, List.reverseAux, rcv]; rw [if_neg (by decide +kernel)]; exact decide_eq_true hk)⟩
set_option maxRecDepth 100000 in
theorem s_X5_guessWay_51 {d : Nat} {l0 l1 l2 l3 : AV} {st : List AV} {x : Int} {σ : Sg} {Q : AV → Sg → Prop}  : Rn d m_X5_guessWay 51 [l0, l1, l2, l3] (vI x :: st) σ Q ↔ Rn d m_X5_guessWay 52 [l0, l1, l2, vI x] st σ Q := q6 (show fnd (pgm m_X5_guessWay) 51 = some (52, 6, 0, 3, 0, []) from rfl) (by decide : 3 < 4)
set_option maxRecDepth 100000 in
theorem s_X5_guessWay_52 {d : Nat} {l0 l1 l2 : AV} {st : List AV} {x : Int} {σ : Sg} {Q : AV → Sg → Prop}  : Rn d m_X5_guessWay 52 [l0, l1, l2, vI x] st σ Q ↔ Rn d m_X5_guessWay 53 [l0, l1, l2, vI x] (vI x :: st) σ Q := q3 (show fnd (pgm m_X5_guessWay) 52 = some (53, 3, 0, 3, 0, []) from rfl) rfl
set_option maxRecDepth 100000 in
theorem s_X5_guessWay_53 {d : Nat} {l0 l1 l2 l3 : AV} {st : List AV} {a : Int} {σ : Sg} {Q : AV → Sg → Prop}  : Rn d m_X5_guessWay 53 [l0, l1, l2, l3] (vI a :: st) σ Q ↔ if ¬ w32 a = 0 then Rn d m_X5_guessWay 65 [l0, l1, l2, l3] st σ Q else Rn d m_X5_guessWay 56 [l0, l1, l2, l3] st σ Q := q19_1 (show fnd (pgm m_X5_guessWay) 53 = some (56, 19, 0, 1, 65, []) from rfl)
set_option maxRecDepth 100000 in
theorem s_X5_guessWay_56 {d : Nat} {l1 l2 l3 : AV} {st : List AV} {o : Nat} {σ : Sg} {Q : AV → Sg → Prop} (ho : o ≠ 0) : Rn d m_X5_guessWay 56 [vR o, l1, l2, l3] st σ Q ↔ Rn d m_X5_guessWay 57 [vR o, l1, l2, l3] (vR o :: st) σ Q := q5 (show fnd (pgm m_X5_guessWay) 56 = some (57, 5, 0, 0, 0, []) from rfl) rfl ho
set_option maxRecDepth 100000 in
theorem s_X5_guessWay_57 {d : Nat} {l0 l1 l2 l3 : AV} {st : List AV} {σ : Sg} {Q : AV → Sg → Prop}  : Rn d m_X5_guessWay 57 [l0, l1, l2, l3] st σ Q ↔ Rn d m_X5_guessWay 59 [l0, l1, l2, l3] (vI (-3) :: st) σ Q := q0 (show fnd (pgm m_X5_guessWay) 57 = some (59, 0, (-3), 1, 0, []) from rfl)
set_option maxRecDepth 100000 in
theorem s_X5_guessWay_59 {d : Nat} {l0 l1 l2 l3 : AV} {st : List AV} {σ : Sg} {Q : AV → Sg → Prop}  : Rn d m_X5_guessWay 59 [l0, l1, l2, l3] st σ Q ↔ Rn d m_X5_guessWay 61 [l0, l1, l2, l3] (vI (-3) :: st) σ Q := q0 (show fnd (pgm m_X5_guessWay) 59 = some (61, 0, (-3), 1, 0, []) from rfl)
set_option maxRecDepth 100000 in
theorem s_X5_guessWay_61 {d : Nat} {l0 l1 l2 l3 : AV} {st : List AV} {o : Nat} {a0 : Int} {a1 : Int} {σ : Sg} {Q : AV → Sg → Prop} (h4 : st.length ≤ 4) (hk : kn σ o = (0, 5)) : Rn d m_X5_guessWay 61 [l0, l1, l2, l3] (vI a1 :: vI a0 :: vR o :: st) σ Q ↔ ∃ r σ1, Ev d m_X5_refuse [vR o, vI a0, vI a1] σ r σ1 ∧ Rn d m_X5_guessWay 64 [l0, l1, l2, l3] (psh r st) σ1 Q := q35 (show fnd (pgm m_X5_guessWay) 61 = some (64, 35, 84, 92, 3, []) from rfl) ⟨⟨by simp, by simpa using h4⟩, (by simp only [List.take, List.reverse, List.reverseAux, rcv]; rw [if_neg (by decide +kernel)]; exact decide_eq_true hk)⟩
set_option maxRecDepth 100000 in
theorem s_X5_guessWay_64 {d : Nat} {l0 l1 l2 l3 : AV} {x : Int} {σ : Sg} {Q : AV → Sg → Prop}  : Rn d m_X5_guessWay 64 [l0, l1, l2, l3] [vI x] σ Q ↔ Q (vI x) σ := q37_1 (st := []) (show fnd (pgm m_X5_guessWay) 64 = some (65, 37, 0, 1, 0, []) from rfl)
set_option maxRecDepth 100000 in
theorem s_X5_guessWay_65 {d : Nat} {l1 l2 l3 : AV} {st : List AV} {o : Nat} {σ : Sg} {Q : AV → Sg → Prop} (ho : o ≠ 0) : Rn d m_X5_guessWay 65 [vR o, l1, l2, l3] st σ Q ↔ Rn d m_X5_guessWay 66 [vR o, l1, l2, l3] (vR o :: st) σ Q := q5 (show fnd (pgm m_X5_guessWay) 65 = some (66, 5, 0, 0, 0, []) from rfl) rfl ho
set_option maxRecDepth 100000 in
theorem s_X5_guessWay_66 {d : Nat} {l1 l2 l3 : AV} {st : List AV} {o : Nat} {σ : Sg} {Q : AV → Sg → Prop} (ho : o ≠ 0) : Rn d m_X5_guessWay 66 [vR o, l1, l2, l3] st σ Q ↔ Rn d m_X5_guessWay 67 [vR o, l1, l2, l3] (vR o :: st) σ Q := q5 (show fnd (pgm m_X5_guessWay) 66 = some (67, 5, 0, 0, 0, []) from rfl) rfl ho
set_option maxRecDepth 100000 in
theorem s_X5_guessWay_67 {d : Nat} {l0 l1 l2 l3 : AV} {st : List AV} {o : Nat} {σ : Sg} {Q : AV → Sg → Prop} (hk : kn σ o = (0, 5)) : Rn d m_X5_guessWay 67 [l0, l1, l2, l3] (vR o :: st) σ Q ↔ Rn d m_X5_guessWay 70 [l0, l1, l2, l3] (vR (tp o 7) :: st) σ Q := q33 (show fnd (pgm m_X5_guessWay) 67 = some (70, 33, 45, 5, 7, []) from rfl) hk
set_option maxRecDepth 100000 in
theorem s_X5_guessWay_70 {d : Nat} {l0 l1 l3 : AV} {st : List AV} {x : Int} {σ : Sg} {Q : AV → Sg → Prop}  : Rn d m_X5_guessWay 70 [l0, l1, vI x, l3] st σ Q ↔ Rn d m_X5_guessWay 71 [l0, l1, vI x, l3] (vI x :: st) σ Q := q3 (show fnd (pgm m_X5_guessWay) 70 = some (71, 3, 0, 2, 0, []) from rfl) rfl
set_option maxRecDepth 100000 in
theorem s_X5_guessWay_71 {d : Nat} {l0 l1 l2 l3 : AV} {st : List AV} {i : Int} {o : Nat} {σ : Sg} {Q : AV → Sg → Prop} (hi : 0 ≤ w32 i ∧ w32 i < al σ 1 o) : Rn d m_X5_guessWay 71 [l0, l1, l2, l3] (vI i :: vR o :: st) σ Q ↔ Rn d m_X5_guessWay 72 [l0, l1, l2, l3] (vI (σ o (w32 i)) :: st) σ Q := q25 (show fnd (pgm m_X5_guessWay) 71 = some (72, 25, 0, 0, 0, []) from rfl) hi
set_option maxRecDepth 100000 in
theorem s_X5_guessWay_72 {d : Nat} {l0 l1 l2 l3 : AV} {st : List AV} {a : Int} {σ : Sg} {Q : AV → Sg → Prop}  : Rn d m_X5_guessWay 72 [l0, l1, l2, l3] (vI a :: st) σ Q ↔ Rn d m_X5_guessWay 73 [l0, l1, l2, l3] (vL (w32 a) :: st) σ Q := q14 (show fnd (pgm m_X5_guessWay) 72 = some (73, 14, 0, 0, 0, []) from rfl)
set_option maxRecDepth 100000 in
theorem s_X5_guessWay_73 {d : Nat} {l0 l1 l2 : AV} {st : List AV} {x : Int} {σ : Sg} {Q : AV → Sg → Prop}  : Rn d m_X5_guessWay 73 [l0, l1, l2, vI x] st σ Q ↔ Rn d m_X5_guessWay 74 [l0, l1, l2, vI x] (vI x :: st) σ Q := q3 (show fnd (pgm m_X5_guessWay) 73 = some (74, 3, 0, 3, 0, []) from rfl) rfl
set_option maxRecDepth 100000 in
theorem s_X5_guessWay_74 {d : Nat} {l0 l1 l2 l3 : AV} {st : List AV} {a : Int} {σ : Sg} {Q : AV → Sg → Prop}  : Rn d m_X5_guessWay 74 [l0, l1, l2, l3] (vI a :: st) σ Q ↔ Rn d m_X5_guessWay 75 [l0, l1, l2, l3] (vL (w32 a) :: st) σ Q := q14 (show fnd (pgm m_X5_guessWay) 74 = some (75, 14, 0, 0, 0, []) from rfl)
set_option maxRecDepth 100000 in
theorem s_X5_guessWay_75 {d : Nat} {l0 l1 l2 l3 : AV} {st : List AV} {o : Nat} {a0 : Int} {a1 : Int} {σ : Sg} {Q : AV → Sg → Prop} (h4 : st.length ≤ 4) (hk : kn σ o = (0, 5)) : Rn d m_X5_guessWay 75 [l0, l1, l2, l3] (vL a1 :: vL a0 :: vR o :: st) σ Q ↔ ∃ r σ1, Ev d m_X5_setFraction [vR o, vL a0, vL a1] σ r σ1 ∧ Rn d m_X5_guessWay 78 [l0, l1, l2, l3] (psh r st) σ1 Q := q35 (show fnd (pgm m_X5_guessWay) 75 = some (78, 35, 203, 101, 3, []) from rfl) ⟨⟨by simp, by simpa using h4⟩, (by simp only [List.take, List.reverse, List.reverseAux, rcv]; rw [if_neg (by decide +kernel)]; exact decide_eq_true hk)⟩
set_option maxRecDepth 100000 in
theorem s_X5_guessWay_78 {d : Nat} {l0 l1 l2 l3 : AV} {st : List AV} {σ : Sg} {Q : AV → Sg → Prop}  : Rn d m_X5_guessWay 78 [l0, l1, l2, l3] st σ Q ↔ Rn d m_X5_guessWay 79 [l0, l1, l2, l3] (vI 1 :: st) σ Q := q0 (show fnd (pgm m_X5_guessWay) 78 = some (79, 0, 1, 0, 0, []) from rfl)
set_option maxRecDepth 100000 in
theorem s_X5_guessWay_79 {d : Nat} {l0 l1 l2 l3 : AV} {x : Int} {σ : Sg} {Q : AV → Sg → Prop}  : Rn d m_X5_guessWay 79 [l0, l1, l2, l3] [vI x] σ Q ↔ Q (vI x) σ := q37_1 (st := []) (show fnd (pgm m_X5_guessWay) 79 = some (80, 37, 0, 1, 0, []) from rfl)
set_option maxRecDepth 100000 in
theorem en_X5_seeds {d : Nat} {o : Nat} {a0 : Int} {a1 : Int} {σ σ0 : Sg} {r0 : AV} (h : Rn d m_X5_seeds 0 [vR o, vI a0, vI a1, none] [] σ (fun r σ1 => r = r0 ∧ σ1 = σ0)) : Ev (d + 1) m_X5_seeds [vR o, vI a0, vI a1] σ r0 σ0 := Ev_is (Nat.le_of_ble_eq_true rfl) h
set_option maxRecDepth 100000 in
theorem eo_X5_seeds {d : Nat} {o : Nat} {a0 : Int} {a1 : Int} {σ : Sg} {Q : AV → Sg → Prop} (h : Rn d m_X5_seeds 0 [vR o, vI a0, vI a1, none] [] σ Q) : ∃ r σ1, Ev (d + 1) m_X5_seeds [vR o, vI a0, vI a1] σ r σ1 ∧ Q r σ1 := Ev_of (Nat.le_of_ble_eq_true rfl) h
set_option maxRecDepth 100000 in
theorem s_X5_seeds_0 {d : Nat} {l0 l2 l3 : AV} {st : List AV} {x : Int} {σ : Sg} {Q : AV → Sg → Prop}  : Rn d m_X5_seeds 0 [l0, vI x, l2, l3] st σ Q ↔ Rn d m_X5_seeds 1 [l0, vI x, l2, l3] (vI x :: st) σ Q := q3 (show fnd (pgm m_X5_seeds) 0 = some (1, 3, 0, 1, 0, []) from rfl) rfl
set_option maxRecDepth 100000 in
theorem s_X5_seeds_1 {d : Nat} {l0 l1 l2 l3 : AV} {st : List AV} {σ : Sg} {Q : AV → Sg → Prop}  : Rn d m_X5_seeds 1 [l0, l1, l2, l3] st σ Q ↔ Rn d m_X5_seeds 3 [l0, l1, l2, l3] (vI 1000000 :: st) σ Q := q0 (show fnd (pgm m_X5_seeds) 1 = some (3, 0, 1000000, 3, 112, []) from rfl)
set_option maxRecDepth 100000 in
theorem s_X5_seeds_3 {d : Nat} {l0 l1 l2 l3 : AV} {st : List AV}  {a0 : Int} {a1 : Int} {σ : Sg} {Q : AV → Sg → Prop} (h4 : st.length ≤ 4) : Rn d m_X5_seeds 3 [l0, l1, l2, l3] (vI a1 :: vI a0 :: st) σ Q ↔ ∃ r σ1, Ev d m_X5_within [vI a0, vI a1] σ r σ1 ∧ Rn d m_X5_seeds 6 [l0, l1, l2, l3] (psh r st) σ1 Q := q35 (show fnd (pgm m_X5_seeds) 3 = some (6, 35, 80, 89, 2, []) from rfl) ⟨⟨by simp, by simpa using h4⟩, rfl⟩
set_option maxRecDepth 100000 in
theorem s_X5_seeds_6 {d : Nat} {l0 l1 l2 l3 : AV} {st : List AV} {a : Int} {σ : Sg} {Q : AV → Sg → Prop}  : Rn d m_X5_seeds 6 [l0, l1, l2, l3] (vI a :: st) σ Q ↔ if w32 a = 0 then Rn d m_X5_seeds 18 [l0, l1, l2, l3] st σ Q else Rn d m_X5_seeds 9 [l0, l1, l2, l3] st σ Q := q19_0 (show fnd (pgm m_X5_seeds) 6 = some (9, 19, 0, 0, 18, []) from rfl)
set_option maxRecDepth 100000 in
theorem s_X5_seeds_9 {d : Nat} {l0 l1 l3 : AV} {st : List AV} {x : Int} {σ : Sg} {Q : AV → Sg → Prop}  : Rn d m_X5_seeds 9 [l0, l1, vI x, l3] st σ Q ↔ Rn d m_X5_seeds 10 [l0, l1, vI x, l3] (vI x :: st) σ Q := q3 (show fnd (pgm m_X5_seeds) 9 = some (10, 3, 0, 2, 0, []) from rfl) rfl
set_option maxRecDepth 100000 in
theorem s_X5_seeds_10 {d : Nat} {l0 l1 l2 l3 : AV} {st : List AV} {σ : Sg} {Q : AV → Sg → Prop}  : Rn d m_X5_seeds 10 [l0, l1, l2, l3] st σ Q ↔ Rn d m_X5_seeds 12 [l0, l1, l2, l3] (vI 100 :: st) σ Q := q0 (show fnd (pgm m_X5_seeds) 10 = some (12, 0, 100, 1, 0, []) from rfl)
set_option maxRecDepth 100000 in
theorem s_X5_seeds_12 {d : Nat} {l0 l1 l2 l3 : AV} {st : List AV}  {a0 : Int} {a1 : Int} {σ : Sg} {Q : AV → Sg → Prop} (h4 : st.length ≤ 4) : Rn d m_X5_seeds 12 [l0, l1, l2, l3] (vI a1 :: vI a0 :: st) σ Q ↔ ∃ r σ1, Ev d m_X5_within [vI a0, vI a1] σ r σ1 ∧ Rn d m_X5_seeds 15 [l0, l1, l2, l3] (psh r st) σ1 Q := q35 (show fnd (pgm m_X5_seeds) 12 = some (15, 35, 80, 89, 2, []) from rfl) ⟨⟨by simp, by simpa using h4⟩, rfl⟩
set_option maxRecDepth 100000 in
theorem s_X5_seeds_15 {d : Nat} {l0 l1 l2 l3 : AV} {st : List AV} {a : Int} {σ : Sg} {Q : AV → Sg → Prop}  : Rn d m_X5_seeds 15 [l0, l1, l2, l3] (vI a :: st) σ Q ↔ if ¬ w32 a = 0 then Rn d m_X5_seeds 27 [l0, l1, l2, l3] st σ Q else Rn d m_X5_seeds 18 [l0, l1, l2, l3] st σ Q := q19_1 (show fnd (pgm m_X5_seeds) 15 = some (18, 19, 0, 1, 27, []) from rfl)
set_option maxRecDepth 100000 in
theorem s_X5_seeds_18 {d : Nat} {l1 l2 l3 : AV} {st : List AV} {o : Nat} {σ : Sg} {Q : AV → Sg → Prop} (ho : o ≠ 0) : Rn d m_X5_seeds 18 [vR o, l1, l2, l3] st σ Q ↔ Rn d m_X5_seeds 19 [vR o, l1, l2, l3] (vR o :: st) σ Q := q5 (show fnd (pgm m_X5_seeds) 18 = some (19, 5, 0, 0, 0, []) from rfl) rfl ho
set_option maxRecDepth 100000 in
theorem s_X5_seeds_19 {d : Nat} {l0 l1 l2 l3 : AV} {st : List AV} {σ : Sg} {Q : AV → Sg → Prop}  : Rn d m_X5_seeds 19 [l0, l1, l2, l3] st σ Q ↔ Rn d m_X5_seeds 21 [l0, l1, l2, l3] (vI (-2) :: st) σ Q := q0 (show fnd (pgm m_X5_seeds) 19 = some (21, 0, (-2), 1, 0, []) from rfl)
set_option maxRecDepth 100000 in
theorem s_X5_seeds_21 {d : Nat} {l0 l1 l2 l3 : AV} {st : List AV} {σ : Sg} {Q : AV → Sg → Prop}  : Rn d m_X5_seeds 21 [l0, l1, l2, l3] st σ Q ↔ Rn d m_X5_seeds 23 [l0, l1, l2, l3] (vI (-10) :: st) σ Q := q0 (show fnd (pgm m_X5_seeds) 21 = some (23, 0, (-10), 1, 0, []) from rfl)
set_option maxRecDepth 100000 in
theorem s_X5_seeds_23 {d : Nat} {l0 l1 l2 l3 : AV} {st : List AV} {o : Nat} {a0 : Int} {a1 : Int} {σ : Sg} {Q : AV → Sg → Prop} (h4 : st.length ≤ 4) (hk : kn σ o = (0, 5)) : Rn d m_X5_seeds 23 [l0, l1, l2, l3] (vI a1 :: vI a0 :: vR o :: st) σ Q ↔ ∃ r σ1, Ev d m_X5_refuse [vR o, vI a0, vI a1] σ r σ1 ∧ Rn d m_X5_seeds 26 [l0, l1, l2, l3] (psh r st) σ1 Q := q35 (show fnd (pgm m_X5_seeds) 23 = some (26, 35, 84, 92, 3, []) from rfl) ⟨⟨by simp, by simpa using h4⟩, (by simp only [List.take, List.reverse, List.reverseAux, rcv]; rw [if_neg (by decide +kernel)]; exact decide_eq_true hk)⟩
set_option maxRecDepth 100000 in
theorem s_X5_seeds_26 {d : Nat} {l0 l1 l2 l3 : AV} {x : Int} {σ : Sg} {Q : AV → Sg → Prop}  : Rn d m_X5_seeds 26 [l0, l1, l2, l3] [vI x] σ Q ↔ Q (vI x) σ := q37_1 (st := []) (show fnd (pgm m_X5_seeds) 26 = some (27, 37, 0, 1, 0, []) from rfl)
set_option maxRecDepth 100000 in
theorem s_X5_seeds_27 {d : Nat} {l1 l2 l3 : AV} {st : List AV} {o : Nat} {σ : Sg} {Q : AV → Sg → Prop} (ho : o ≠ 0) : Rn d m_X5_seeds 27 [vR o, l1, l2, l3] st σ Q ↔ Rn d m_X5_seeds 28 [vR o, l1, l2, l3] (vR o :: st) σ Q := q5 (show fnd (pgm m_X5_seeds) 27 = some (28, 5, 0, 0, 0, []) from rfl) rfl ho
set_option maxRecDepth 100000 in
theorem s_X5_seeds_28 {d : Nat} {l0 l1 l2 l3 : AV} {st : List AV} {o : Nat} {σ : Sg} {Q : AV → Sg → Prop} (hk : kn σ o = (0, 5)) : Rn d m_X5_seeds 28 [l0, l1, l2, l3] (vR o :: st) σ Q ↔ Rn d m_X5_seeds 31 [l0, l1, l2, l3] (vR (tp o 0) :: st) σ Q := q33 (show fnd (pgm m_X5_seeds) 28 = some (31, 33, 12, 5, 0, []) from rfl) hk
set_option maxRecDepth 100000 in
theorem s_X5_seeds_31 {d : Nat} {l0 l1 l2 l3 : AV} {st : List AV} {o : Nat} {σ : Sg} {Q : AV → Sg → Prop} (hk : kn σ o = (0, 0)) : Rn d m_X5_seeds 31 [l0, l1, l2, l3] (vR o :: st) σ Q ↔ Rn d m_X5_seeds 34 [l0, l1, l2, l3] (vI (σ o 10) :: st) σ Q := q33 (show fnd (pgm m_X5_seeds) 31 = some (34, 33, 166, 0, 10, []) from rfl) hk
set_option maxRecDepth 100000 in
theorem s_X5_seeds_34 {d : Nat} {l0 l1 l2 l3 : AV} {st : List AV} {σ : Sg} {Q : AV → Sg → Prop}  : Rn d m_X5_seeds 34 [l0, l1, l2, l3] st σ Q ↔ Rn d m_X5_seeds 35 [l0, l1, l2, l3] (vI (-1) :: st) σ Q := q0 (show fnd (pgm m_X5_seeds) 34 = some (35, 0, (-1), 0, 0, []) from rfl)
set_option maxRecDepth 100000 in
theorem s_X5_seeds_35 {d : Nat} {l0 l1 l2 l3 : AV} {st : List AV} {a b : Int} {σ : Sg} {Q : AV → Sg → Prop}  : Rn d m_X5_seeds 35 [l0, l1, l2, l3] (vI b :: vI a :: st) σ Q ↔ if ¬ w32 a = w32 b then Rn d m_X5_seeds 47 [l0, l1, l2, l3] st σ Q else Rn d m_X5_seeds 38 [l0, l1, l2, l3] st σ Q := q20_1 (show fnd (pgm m_X5_seeds) 35 = some (38, 20, 0, 1, 47, []) from rfl)
set_option maxRecDepth 100000 in
theorem s_X5_seeds_38 {d : Nat} {l1 l2 l3 : AV} {st : List AV} {o : Nat} {σ : Sg} {Q : AV → Sg → Prop} (ho : o ≠ 0) : Rn d m_X5_seeds 38 [vR o, l1, l2, l3] st σ Q ↔ Rn d m_X5_seeds 39 [vR o, l1, l2, l3] (vR o :: st) σ Q := q5 (show fnd (pgm m_X5_seeds) 38 = some (39, 5, 0, 0, 0, []) from rfl) rfl ho
set_option maxRecDepth 100000 in
theorem s_X5_seeds_39 {d : Nat} {l0 l1 l2 l3 : AV} {st : List AV} {σ : Sg} {Q : AV → Sg → Prop}  : Rn d m_X5_seeds 39 [l0, l1, l2, l3] st σ Q ↔ Rn d m_X5_seeds 41 [l0, l1, l2, l3] (vI (-3) :: st) σ Q := q0 (show fnd (pgm m_X5_seeds) 39 = some (41, 0, (-3), 1, 0, []) from rfl)
set_option maxRecDepth 100000 in
theorem s_X5_seeds_41 {d : Nat} {l0 l1 l2 l3 : AV} {st : List AV} {σ : Sg} {Q : AV → Sg → Prop}  : Rn d m_X5_seeds 41 [l0, l1, l2, l3] st σ Q ↔ Rn d m_X5_seeds 43 [l0, l1, l2, l3] (vI (-20) :: st) σ Q := q0 (show fnd (pgm m_X5_seeds) 41 = some (43, 0, (-20), 1, 0, []) from rfl)
set_option maxRecDepth 100000 in
theorem s_X5_seeds_43 {d : Nat} {l0 l1 l2 l3 : AV} {st : List AV} {o : Nat} {a0 : Int} {a1 : Int} {σ : Sg} {Q : AV → Sg → Prop} (h4 : st.length ≤ 4) (hk : kn σ o = (0, 5)) : Rn d m_X5_seeds 43 [l0, l1, l2, l3] (vI a1 :: vI a0 :: vR o :: st) σ Q ↔ ∃ r σ1, Ev d m_X5_refuse [vR o, vI a0, vI a1] σ r σ1 ∧ Rn d m_X5_seeds 46 [l0, l1, l2, l3] (psh r st) σ1 Q := q35 (show fnd (pgm m_X5_seeds) 43 = some (46, 35, 84, 92, 3, []) from rfl) ⟨⟨by simp, by simpa using h4⟩, (by simp only [List.take, List.reverse, List.reverseAux, rcv]; rw [if_neg (by decide +kernel)]; exact decide_eq_true hk)⟩
set_option maxRecDepth 100000 in
theorem s_X5_seeds_46 {d : Nat} {l0 l1 l2 l3 : AV} {x : Int} {σ : Sg} {Q : AV → Sg → Prop}  : Rn d m_X5_seeds 46 [l0, l1, l2, l3] [vI x] σ Q ↔ Q (vI x) σ := q37_1 (st := []) (show fnd (pgm m_X5_seeds) 46 = some (47, 37, 0, 1, 0, []) from rfl)
set_option maxRecDepth 100000 in
theorem s_X5_seeds_47 {d : Nat} {l0 l2 l3 : AV} {st : List AV} {x : Int} {σ : Sg} {Q : AV → Sg → Prop}  : Rn d m_X5_seeds 47 [l0, vI x, l2, l3] st σ Q ↔ Rn d m_X5_seeds 48 [l0, vI x, l2, l3] (vI x :: st) σ Q := q3 (show fnd (pgm m_X5_seeds) 47 = some (48, 3, 0, 1, 0, []) from rfl) rfl
set_option maxRecDepth 100000 in
theorem s_X5_seeds_48 {d : Nat} {l0 l1 l2 l3 : AV} {st : List AV} {x : Int} {σ : Sg} {Q : AV → Sg → Prop}  : Rn d m_X5_seeds 48 [l0, l1, l2, l3] (vI x :: st) σ Q ↔ Rn d m_X5_seeds 49 [l0, l1, l2, vI x] st σ Q := q6 (show fnd (pgm m_X5_seeds) 48 = some (49, 6, 0, 3, 0, []) from rfl) (by decide : 3 < 4)
set_option maxRecDepth 100000 in
theorem s_X5_seeds_49 {d : Nat} {l0 l1 l2 : AV} {st : List AV} {x : Int} {σ : Sg} {Q : AV → Sg → Prop}  : Rn d m_X5_seeds 49 [l0, l1, l2, vI x] st σ Q ↔ Rn d m_X5_seeds 50 [l0, l1, l2, vI x] (vI x :: st) σ Q := q3 (show fnd (pgm m_X5_seeds) 49 = some (50, 3, 0, 3, 0, []) from rfl) rfl
set_option maxRecDepth 100000 in
theorem s_X5_seeds_50 {d : Nat} {l0 l2 l3 : AV} {st : List AV} {x : Int} {σ : Sg} {Q : AV → Sg → Prop}  : Rn d m_X5_seeds 50 [l0, vI x, l2, l3] st σ Q ↔ Rn d m_X5_seeds 51 [l0, vI x, l2, l3] (vI x :: st) σ Q := q3 (show fnd (pgm m_X5_seeds) 50 = some (51, 3, 0, 1, 0, []) from rfl) rfl
set_option maxRecDepth 100000 in
theorem s_X5_seeds_51 {d : Nat} {l0 l1 l3 : AV} {st : List AV} {x : Int} {σ : Sg} {Q : AV → Sg → Prop}  : Rn d m_X5_seeds 51 [l0, l1, vI x, l3] st σ Q ↔ Rn d m_X5_seeds 52 [l0, l1, vI x, l3] (vI x :: st) σ Q := q3 (show fnd (pgm m_X5_seeds) 51 = some (52, 3, 0, 2, 0, []) from rfl) rfl
set_option maxRecDepth 100000 in
theorem s_X5_seeds_52 {d : Nat} {l0 l1 l2 l3 : AV} {st : List AV} {a b : Int} {σ : Sg} {Q : AV → Sg → Prop}  : Rn d m_X5_seeds 52 [l0, l1, l2, l3] (vI b :: vI a :: st) σ Q ↔ Rn d m_X5_seeds 53 [l0, l1, l2, l3] (vI (a + b) :: st) σ Q := q10_0 (show fnd (pgm m_X5_seeds) 52 = some (53, 10, 0, 0, 0, []) from rfl)
set_option maxRecDepth 100000 in
theorem s_X5_seeds_53 {d : Nat} {l0 l1 l2 l3 : AV} {st : List AV} {a b : Int} {σ : Sg} {Q : AV → Sg → Prop}  : Rn d m_X5_seeds 53 [l0, l1, l2, l3] (vI b :: vI a :: st) σ Q ↔ if w32 b < w32 a then Rn d m_X5_seeds 134 [l0, l1, l2, l3] st σ Q else Rn d m_X5_seeds 56 [l0, l1, l2, l3] st σ Q := q20_4 (show fnd (pgm m_X5_seeds) 53 = some (56, 20, 0, 4, 134, []) from rfl)
set_option maxRecDepth 100000 in
theorem s_X5_seeds_56 {d : Nat} {l0 l1 l2 : AV} {st : List AV} {x : Int} {σ : Sg} {Q : AV → Sg → Prop}  : Rn d m_X5_seeds 56 [l0, l1, l2, vI x] st σ Q ↔ Rn d m_X5_seeds 57 [l0, l1, l2, vI x] (vI x :: st) σ Q := q3 (show fnd (pgm m_X5_seeds) 56 = some (57, 3, 0, 3, 0, []) from rfl) rfl
set_option maxRecDepth 100000 in
theorem s_X5_seeds_57 {d : Nat} {l0 l1 l2 l3 : AV} {st : List AV} {σ : Sg} {Q : AV → Sg → Prop}  : Rn d m_X5_seeds 57 [l0, l1, l2, l3] st σ Q ↔ Rn d m_X5_seeds 59 [l0, l1, l2, l3] (vI 1000000 :: st) σ Q := q0 (show fnd (pgm m_X5_seeds) 57 = some (59, 0, 1000000, 3, 112, []) from rfl)
set_option maxRecDepth 100000 in
theorem s_X5_seeds_59 {d : Nat} {l0 l1 l2 l3 : AV} {st : List AV} {a b : Int} {σ : Sg} {Q : AV → Sg → Prop}  : Rn d m_X5_seeds 59 [l0, l1, l2, l3] (vI b :: vI a :: st) σ Q ↔ if w32 b ≤ w32 a then Rn d m_X5_seeds 134 [l0, l1, l2, l3] st σ Q else Rn d m_X5_seeds 62 [l0, l1, l2, l3] st σ Q := q20_3 (show fnd (pgm m_X5_seeds) 59 = some (62, 20, 0, 3, 134, []) from rfl)
set_option maxRecDepth 100000 in
theorem s_X5_seeds_62 {d : Nat} {l1 l2 l3 : AV} {st : List AV} {o : Nat} {σ : Sg} {Q : AV → Sg → Prop} (ho : o ≠ 0) : Rn d m_X5_seeds 62 [vR o, l1, l2, l3] st σ Q ↔ Rn d m_X5_seeds 63 [vR o, l1, l2, l3] (vR o :: st) σ Q := q5 (show fnd (pgm m_X5_seeds) 62 = some (63, 5, 0, 0, 0, []) from rfl) rfl ho
set_option maxRecDepth 100000 in
theorem s_X5_seeds_63 {d : Nat} {l0 l1 l2 l3 : AV} {st : List AV} {o : Nat} {σ : Sg} {Q : AV → Sg → Prop} (hk : kn σ o = (0, 5)) : Rn d m_X5_seeds 63 [l0, l1, l2, l3] (vR o :: st) σ Q ↔ Rn d m_X5_seeds 66 [l0, l1, l2, l3] (vR (tp o 4) :: st) σ Q := q33 (show fnd (pgm m_X5_seeds) 63 = some (66, 33, 34, 5, 4, []) from rfl) hk
set_option maxRecDepth 100000 in
theorem s_X5_seeds_66 {d : Nat} {l0 l1 l2 : AV} {st : List AV} {x : Int} {σ : Sg} {Q : AV → Sg → Prop}  : Rn d m_X5_seeds 66 [l0, l1, l2, vI x] st σ Q ↔ Rn d m_X5_seeds 67 [l0, l1, l2, vI x] (vI x :: st) σ Q := q3 (show fnd (pgm m_X5_seeds) 66 = some (67, 3, 0, 3, 0, []) from rfl) rfl
set_option maxRecDepth 100000 in
theorem s_X5_seeds_67 {d : Nat} {l0 l1 l2 l3 : AV} {st : List AV} {o : Nat} {a0 : Int} {σ : Sg} {Q : AV → Sg → Prop} (h4 : st.length ≤ 4) (hk : kn σ o = (0, 2)) : Rn d m_X5_seeds 67 [l0, l1, l2, l3] (vI a0 :: vR o :: st) σ Q ↔ ∃ r σ1, Ev d m_X2_drawBy [vR o, vI a0] σ r σ1 ∧ Rn d m_X5_seeds 70 [l0, l1, l2, l3] (psh r st) σ1 Q := q35 (show fnd (pgm m_X5_seeds) 67 = some (70, 35, 113, 20, 2, []) from rfl) ⟨⟨by simp, by simpa using h4⟩, (by simp only [List.take, List.reverse, List.reverseAux, rcv]; rw [if_neg (by decide +kernel)]; exact decide_eq_true hk)⟩
set_option maxRecDepth 100000 in
theorem s_X5_seeds_70 {d : Nat} {l1 l2 l3 : AV} {st : List AV} {o : Nat} {σ : Sg} {Q : AV → Sg → Prop} (ho : o ≠ 0) : Rn d m_X5_seeds 70 [vR o, l1, l2, l3] st σ Q ↔ Rn d m_X5_seeds 71 [vR o, l1, l2, l3] (vR o :: st) σ Q := q5 (show fnd (pgm m_X5_seeds) 70 = some (71, 5, 0, 0, 0, []) from rfl) rfl ho
set_option maxRecDepth 100000 in
theorem s_X5_seeds_71 {d : Nat} {l0 l1 l2 l3 : AV} {st : List AV} {o : Nat} {σ : Sg} {Q : AV → Sg → Prop} (hk : kn σ o = (0, 5)) : Rn d m_X5_seeds 71 [l0, l1, l2, l3] (vR o :: st) σ Q ↔ Rn d m_X5_seeds 74 [l0, l1, l2, l3] (vR (tp o 3) :: st) σ Q := q33 (show fnd (pgm m_X5_seeds) 71 = some (74, 33, 27, 5, 3, []) from rfl) hk
set_option maxRecDepth 100000 in
theorem s_X5_seeds_74 {d : Nat} {l1 l2 l3 : AV} {st : List AV} {o : Nat} {σ : Sg} {Q : AV → Sg → Prop} (ho : o ≠ 0) : Rn d m_X5_seeds 74 [vR o, l1, l2, l3] st σ Q ↔ Rn d m_X5_seeds 75 [vR o, l1, l2, l3] (vR o :: st) σ Q := q5 (show fnd (pgm m_X5_seeds) 74 = some (75, 5, 0, 0, 0, []) from rfl) rfl ho
set_option maxRecDepth 100000 in
theorem s_X5_seeds_75 {d : Nat} {l0 l1 l2 l3 : AV} {st : List AV} {o : Nat} {σ : Sg} {Q : AV → Sg → Prop} (hk : kn σ o = (0, 5)) : Rn d m_X5_seeds 75 [l0, l1, l2, l3] (vR o :: st) σ Q ↔ Rn d m_X5_seeds 78 [l0, l1, l2, l3] (vR (tp o 0) :: st) σ Q := q33 (show fnd (pgm m_X5_seeds) 75 = some (78, 33, 12, 5, 0, []) from rfl) hk
set_option maxRecDepth 100000 in
theorem s_X5_seeds_78 {d : Nat} {l0 l1 l2 l3 : AV} {st : List AV} {σ : Sg} {Q : AV → Sg → Prop}  : Rn d m_X5_seeds 78 [l0, l1, l2, l3] st σ Q ↔ Rn d m_X5_seeds 80 [l0, l1, l2, l3] (vI 63 :: st) σ Q := q0 (show fnd (pgm m_X5_seeds) 78 = some (80, 0, 63, 1, 0, []) from rfl)
set_option maxRecDepth 100000 in
theorem s_X5_seeds_80 {d : Nat} {l1 l2 l3 : AV} {st : List AV} {o : Nat} {σ : Sg} {Q : AV → Sg → Prop} (ho : o ≠ 0) : Rn d m_X5_seeds 80 [vR o, l1, l2, l3] st σ Q ↔ Rn d m_X5_seeds 81 [vR o, l1, l2, l3] (vR o :: st) σ Q := q5 (show fnd (pgm m_X5_seeds) 80 = some (81, 5, 0, 0, 0, []) from rfl) rfl ho
set_option maxRecDepth 100000 in
theorem s_X5_seeds_81 {d : Nat} {l0 l1 l2 l3 : AV} {st : List AV} {o : Nat} {σ : Sg} {Q : AV → Sg → Prop} (hk : kn σ o = (0, 5)) : Rn d m_X5_seeds 81 [l0, l1, l2, l3] (vR o :: st) σ Q ↔ Rn d m_X5_seeds 84 [l0, l1, l2, l3] (vR (tp o 0) :: st) σ Q := q33 (show fnd (pgm m_X5_seeds) 81 = some (84, 33, 12, 5, 0, []) from rfl) hk
set_option maxRecDepth 100000 in
theorem s_X5_seeds_84 {d : Nat} {l0 l1 l2 l3 : AV} {st : List AV} {o : Nat} {σ : Sg} {Q : AV → Sg → Prop} (hk : kn σ o = (0, 0)) : Rn d m_X5_seeds 84 [l0, l1, l2, l3] (vR o :: st) σ Q ↔ Rn d m_X5_seeds 87 [l0, l1, l2, l3] (vR (tp o 2) :: st) σ Q := q33 (show fnd (pgm m_X5_seeds) 84 = some (87, 33, 181, 0, 2, []) from rfl) hk
set_option maxRecDepth 100000 in
theorem s_X5_seeds_87 {d : Nat} {l0 l1 l2 l3 : AV} {st : List AV} {o : Nat} {a0 : Nat} {a1 : Int} {a2 : Nat} {σ : Sg} {Q : AV → Sg → Prop} (h4 : st.length ≤ 4) (hk : kn σ o = (0, 4)) : Rn d m_X5_seeds 87 [l0, l1, l2, l3] (vR a2 :: vI a1 :: vR a0 :: vR o :: st) σ Q ↔ ∃ r σ1, Ev d m_X4_start [vR o, vR a0, vI a1, vR a2] σ r σ1 ∧ Rn d m_X5_seeds 90 [l0, l1, l2, l3] (psh r st) σ1 Q := q35 (show fnd (pgm m_X5_seeds) 87 = some (90, 35, 207, 34, 4, []) from rfl) ⟨⟨by simp, by simpa using h4⟩, (by simp only [List.take, List.reverse, List.reverseAux, rcv]; rw [if_neg (by decide +kernel)]; exact decide_eq_true hk)⟩
set_option maxRecDepth 100000 in
theorem s_X5_seeds_90 {d : Nat} {l1 l2 l3 : AV} {st : List AV} {o : Nat} {σ : Sg} {Q : AV → Sg → Prop} (ho : o ≠ 0) : Rn d m_X5_seeds 90 [vR o, l1, l2, l3] st σ Q ↔ Rn d m_X5_seeds 91 [vR o, l1, l2, l3] (vR o :: st) σ Q := q5 (show fnd (pgm m_X5_seeds) 90 = some (91, 5, 0, 0, 0, []) from rfl) rfl ho
set_option maxRecDepth 100000 in
theorem s_X5_seeds_91 {d : Nat} {l0 l1 l2 l3 : AV} {st : List AV} {o : Nat} {σ : Sg} {Q : AV → Sg → Prop} (hk : kn σ o = (0, 5)) : Rn d m_X5_seeds 91 [l0, l1, l2, l3] (vR o :: st) σ Q ↔ Rn d m_X5_seeds 94 [l0, l1, l2, l3] (vR (tp o 3) :: st) σ Q := q33 (show fnd (pgm m_X5_seeds) 91 = some (94, 33, 27, 5, 3, []) from rfl) hk
set_option maxRecDepth 100000 in
theorem s_X5_seeds_94 {d : Nat} {l1 l2 l3 : AV} {st : List AV} {o : Nat} {σ : Sg} {Q : AV → Sg → Prop} (ho : o ≠ 0) : Rn d m_X5_seeds 94 [vR o, l1, l2, l3] st σ Q ↔ Rn d m_X5_seeds 95 [vR o, l1, l2, l3] (vR o :: st) σ Q := q5 (show fnd (pgm m_X5_seeds) 94 = some (95, 5, 0, 0, 0, []) from rfl) rfl ho
set_option maxRecDepth 100000 in
theorem s_X5_seeds_95 {d : Nat} {l0 l1 l2 l3 : AV} {st : List AV} {o : Nat} {σ : Sg} {Q : AV → Sg → Prop} (hk : kn σ o = (0, 5)) : Rn d m_X5_seeds 95 [l0, l1, l2, l3] (vR o :: st) σ Q ↔ Rn d m_X5_seeds 98 [l0, l1, l2, l3] (vR (tp o 4) :: st) σ Q := q33 (show fnd (pgm m_X5_seeds) 95 = some (98, 33, 34, 5, 4, []) from rfl) hk
set_option maxRecDepth 100000 in
theorem s_X5_seeds_98 {d : Nat} {l0 l1 l2 l3 : AV} {st : List AV} {σ : Sg} {Q : AV → Sg → Prop}  : Rn d m_X5_seeds 98 [l0, l1, l2, l3] st σ Q ↔ Rn d m_X5_seeds 99 [l0, l1, l2, l3] (vI 0 :: st) σ Q := q0 (show fnd (pgm m_X5_seeds) 98 = some (99, 0, 0, 0, 0, []) from rfl)
set_option maxRecDepth 100000 in
theorem s_X5_seeds_99 {d : Nat} {l1 l2 l3 : AV} {st : List AV} {o : Nat} {σ : Sg} {Q : AV → Sg → Prop} (ho : o ≠ 0) : Rn d m_X5_seeds 99 [vR o, l1, l2, l3] st σ Q ↔ Rn d m_X5_seeds 100 [vR o, l1, l2, l3] (vR o :: st) σ Q := q5 (show fnd (pgm m_X5_seeds) 99 = some (100, 5, 0, 0, 0, []) from rfl) rfl ho
set_option maxRecDepth 100000 in
theorem s_X5_seeds_100 {d : Nat} {l0 l1 l2 l3 : AV} {st : List AV} {o : Nat} {σ : Sg} {Q : AV → Sg → Prop} (hk : kn σ o = (0, 5)) : Rn d m_X5_seeds 100 [l0, l1, l2, l3] (vR o :: st) σ Q ↔ Rn d m_X5_seeds 103 [l0, l1, l2, l3] (vR (tp o 0) :: st) σ Q := q33 (show fnd (pgm m_X5_seeds) 100 = some (103, 33, 12, 5, 0, []) from rfl) hk
set_option maxRecDepth 100000 in
theorem s_X5_seeds_103 {d : Nat} {l0 l1 l2 l3 : AV} {st : List AV} {o : Nat} {σ : Sg} {Q : AV → Sg → Prop} (hk : kn σ o = (0, 0)) : Rn d m_X5_seeds 103 [l0, l1, l2, l3] (vR o :: st) σ Q ↔ Rn d m_X5_seeds 106 [l0, l1, l2, l3] (vI (σ o 10) :: st) σ Q := q33 (show fnd (pgm m_X5_seeds) 103 = some (106, 33, 166, 0, 10, []) from rfl) hk
set_option maxRecDepth 100000 in
theorem s_X5_seeds_106 {d : Nat} {l0 l1 l2 l3 : AV} {st : List AV} {o : Nat} {a0 : Nat} {a1 : Int} {a2 : Int} {σ : Sg} {Q : AV → Sg → Prop} (h4 : st.length ≤ 4) (hk : kn σ o = (0, 4)) : Rn d m_X5_seeds 106 [l0, l1, l2, l3] (vI a2 :: vI a1 :: vR a0 :: vR o :: st) σ Q ↔ ∃ r σ1, Ev d m_X4_go [vR o, vR a0, vI a1, vI a2] σ r σ1 ∧ Rn d m_X5_seeds 109 [l0, l1, l2, l3] (psh r st) σ1 Q := q35 (show fnd (pgm m_X5_seeds) 106 = some (109, 35, 211, 35, 4, []) from rfl) ⟨⟨by simp, by simpa using h4⟩, (by simp only [List.take, List.reverse, List.reverseAux, rcv]; rw [if_neg (by decide +kernel)]; exact decide_eq_true hk)⟩
set_option maxRecDepth 100000 in
theorem s_X5_seeds_109 {d : Nat} {l1 l2 l3 : AV} {st : List AV} {o : Nat} {σ : Sg} {Q : AV → Sg → Prop} (ho : o ≠ 0) : Rn d m_X5_seeds 109 [vR o, l1, l2, l3] st σ Q ↔ Rn d m_X5_seeds 110 [vR o, l1, l2, l3] (vR o :: st) σ Q := q5 (show fnd (pgm m_X5_seeds) 109 = some (110, 5, 0, 0, 0, []) from rfl) rfl ho
set_option maxRecDepth 100000 in
theorem s_X5_seeds_110 {d : Nat} {l0 l1 l2 l3 : AV} {st : List AV} {o : Nat} {σ : Sg} {Q : AV → Sg → Prop} (hk : kn σ o = (0, 5)) : Rn d m_X5_seeds 110 [l0, l1, l2, l3] (vR o :: st) σ Q ↔ Rn d m_X5_seeds 113 [l0, l1, l2, l3] (vR (tp o 0) :: st) σ Q := q33 (show fnd (pgm m_X5_seeds) 110 = some (113, 33, 12, 5, 0, []) from rfl) hk
set_option maxRecDepth 100000 in
theorem s_X5_seeds_113 {d : Nat} {l1 l2 l3 : AV} {st : List AV} {o : Nat} {σ : Sg} {Q : AV → Sg → Prop} (ho : o ≠ 0) : Rn d m_X5_seeds 113 [vR o, l1, l2, l3] st σ Q ↔ Rn d m_X5_seeds 114 [vR o, l1, l2, l3] (vR o :: st) σ Q := q5 (show fnd (pgm m_X5_seeds) 113 = some (114, 5, 0, 0, 0, []) from rfl) rfl ho
set_option maxRecDepth 100000 in
theorem s_X5_seeds_114 {d : Nat} {l0 l1 l2 l3 : AV} {st : List AV} {o : Nat} {σ : Sg} {Q : AV → Sg → Prop} (hk : kn σ o = (0, 5)) : Rn d m_X5_seeds 114 [l0, l1, l2, l3] (vR o :: st) σ Q ↔ Rn d m_X5_seeds 117 [l0, l1, l2, l3] (vR (tp o 3) :: st) σ Q := q33 (show fnd (pgm m_X5_seeds) 114 = some (117, 33, 27, 5, 3, []) from rfl) hk
set_option maxRecDepth 100000 in
theorem s_X5_seeds_117 {d : Nat} {l0 l1 l2 l3 : AV} {st : List AV} {o : Nat} {σ : Sg} {Q : AV → Sg → Prop} (hk : kn σ o = (0, 4)) : Rn d m_X5_seeds 117 [l0, l1, l2, l3] (vR o :: st) σ Q ↔ Rn d m_X5_seeds 120 [l0, l1, l2, l3] (vR (tp o 0) :: st) σ Q := q33 (show fnd (pgm m_X5_seeds) 117 = some (120, 33, 141, 4, 0, []) from rfl) hk
set_option maxRecDepth 100000 in
theorem s_X5_seeds_120 {d : Nat} {l0 l1 l2 l3 : AV} {st : List AV} {o : Nat} {a0 : Nat} {σ : Sg} {Q : AV → Sg → Prop} (h4 : st.length ≤ 4) (hk : kn σ o = (0, 0)) : Rn d m_X5_seeds 120 [l0, l1, l2, l3] (vR a0 :: vR o :: st) σ Q ↔ ∃ r σ1, Ev d m_X0_foundElsewhere [vR o, vR a0] σ r σ1 ∧ Rn d m_X5_seeds 123 [l0, l1, l2, l3] (psh r st) σ1 Q := q35 (show fnd (pgm m_X5_seeds) 120 = some (123, 35, 169, 6, 2, []) from rfl) ⟨⟨by simp, by simpa using h4⟩, (by simp only [List.take, List.reverse, List.reverseAux, rcv]; rw [if_neg (by decide +kernel)]; exact decide_eq_true hk)⟩
set_option maxRecDepth 100000 in
theorem s_X5_seeds_123 {d : Nat} {l0 l1 l2 l3 : AV} {st : List AV} {a : Int} {σ : Sg} {Q : AV → Sg → Prop}  : Rn d m_X5_seeds 123 [l0, l1, l2, l3] (vI a :: st) σ Q ↔ if ¬ w32 a = 0 then Rn d m_X5_seeds 128 [l0, l1, l2, l3] st σ Q else Rn d m_X5_seeds 126 [l0, l1, l2, l3] st σ Q := q19_1 (show fnd (pgm m_X5_seeds) 123 = some (126, 19, 0, 1, 128, []) from rfl)
set_option maxRecDepth 100000 in
theorem s_X5_seeds_126 {d : Nat} {l0 l1 l2 : AV} {st : List AV} {x : Int} {σ : Sg} {Q : AV → Sg → Prop}  : Rn d m_X5_seeds 126 [l0, l1, l2, vI x] st σ Q ↔ Rn d m_X5_seeds 127 [l0, l1, l2, vI x] (vI x :: st) σ Q := q3 (show fnd (pgm m_X5_seeds) 126 = some (127, 3, 0, 3, 0, []) from rfl) rfl
set_option maxRecDepth 100000 in
theorem s_X5_seeds_127 {d : Nat} {l0 l1 l2 l3 : AV} {x : Int} {σ : Sg} {Q : AV → Sg → Prop}  : Rn d m_X5_seeds 127 [l0, l1, l2, l3] [vI x] σ Q ↔ Q (vI x) σ := q37_1 (st := []) (show fnd (pgm m_X5_seeds) 127 = some (128, 37, 0, 1, 0, []) from rfl)
set_option maxRecDepth 100000 in
theorem s_X5_seeds_128 {d : Nat} {l0 l1 l2 : AV} {st : List AV} {x : Int} {σ : Sg} {Q : AV → Sg → Prop}  : Rn d m_X5_seeds 128 [l0, l1, l2, vI x] st σ Q ↔ Rn d m_X5_seeds 131 [l0, l1, l2, vI (x + 1)] st σ Q := q9 (show fnd (pgm m_X5_seeds) 128 = some (131, 9, 1, 3, 0, []) from rfl) rfl
set_option maxRecDepth 100000 in
theorem s_X5_seeds_131 {d : Nat} {l0 l1 l2 l3 : AV} {st : List AV} {σ : Sg} {Q : AV → Sg → Prop}  : Rn d m_X5_seeds 131 [l0, l1, l2, l3] st σ Q ↔ Rn d m_X5_seeds 49 [l0, l1, l2, l3] st σ Q := q21 (show fnd (pgm m_X5_seeds) 131 = some (134, 21, 0, 0, 49, []) from rfl)
set_option maxRecDepth 100000 in
theorem s_X5_seeds_134 {d : Nat} {l0 l1 l2 l3 : AV} {st : List AV} {σ : Sg} {Q : AV → Sg → Prop}  : Rn d m_X5_seeds 134 [l0, l1, l2, l3] st σ Q ↔ Rn d m_X5_seeds 135 [l0, l1, l2, l3] (vI (-1) :: st) σ Q := q0 (show fnd (pgm m_X5_seeds) 134 = some (135, 0, (-1), 0, 0, []) from rfl)
set_option maxRecDepth 100000 in
theorem s_X5_seeds_135 {d : Nat} {l0 l1 l2 l3 : AV} {x : Int} {σ : Sg} {Q : AV → Sg → Prop}  : Rn d m_X5_seeds 135 [l0, l1, l2, l3] [vI x] σ Q ↔ Q (vI x) σ := q37_1 (st := []) (show fnd (pgm m_X5_seeds) 135 = some (136, 37, 0, 1, 0, []) from rfl)
set_option maxRecDepth 100000 in
theorem en_X5_type {d : Nat} {o : Nat} {a0 : Int} {a1 : Int} {σ σ0 : Sg} {r0 : AV} (h : Rn d m_X5_type 0 [vR o, vL a0, none, vI a1, none] [] σ (fun r σ1 => r = r0 ∧ σ1 = σ0)) : Ev (d + 1) m_X5_type [vR o, vL a0, vI a1] σ r0 σ0 := Ev_is (Nat.le_of_ble_eq_true rfl) h
set_option maxRecDepth 100000 in
theorem eo_X5_type {d : Nat} {o : Nat} {a0 : Int} {a1 : Int} {σ : Sg} {Q : AV → Sg → Prop} (h : Rn d m_X5_type 0 [vR o, vL a0, none, vI a1, none] [] σ Q) : ∃ r σ1, Ev (d + 1) m_X5_type [vR o, vL a0, vI a1] σ r σ1 ∧ Q r σ1 := Ev_of (Nat.le_of_ble_eq_true rfl) h
set_option maxRecDepth 100000 in
theorem s_X5_type_0 {d : Nat} {l0 l1 l2 l4 : AV} {st : List AV} {x : Int} {σ : Sg} {Q : AV → Sg → Prop}  : Rn d m_X5_type 0 [l0, l1, l2, vI x, l4] st σ Q ↔ Rn d m_X5_type 1 [l0, l1, l2, vI x, l4] (vI x :: st) σ Q := q3 (show fnd (pgm m_X5_type) 0 = some (1, 3, 0, 3, 0, []) from rfl) rfl
set_option maxRecDepth 100000 in
theorem s_X5_type_1 {d : Nat} {l0 l1 l2 l3 l4 : AV} {st : List AV} {σ : Sg} {Q : AV → Sg → Prop}  : Rn d m_X5_type 1 [l0, l1, l2, l3, l4] st σ Q ↔ Rn d m_X5_type 2 [l0, l1, l2, l3, l4] (vI 1 :: st) σ Q := q0 (show fnd (pgm m_X5_type) 1 = some (2, 0, 1, 0, 0, []) from rfl)
set_option maxRecDepth 100000 in
theorem s_X5_type_2 {d : Nat} {l0 l1 l2 l3 l4 : AV} {st : List AV} {a b : Int} {σ : Sg} {Q : AV → Sg → Prop}  : Rn d m_X5_type 2 [l0, l1, l2, l3, l4] (vI b :: vI a :: st) σ Q ↔ if w32 a < w32 b then Rn d m_X5_type 11 [l0, l1, l2, l3, l4] st σ Q else Rn d m_X5_type 5 [l0, l1, l2, l3, l4] st σ Q := q20_2 (show fnd (pgm m_X5_type) 2 = some (5, 20, 0, 2, 11, []) from rfl)
set_option maxRecDepth 100000 in
theorem s_X5_type_5 {d : Nat} {l0 l1 l2 l4 : AV} {st : List AV} {x : Int} {σ : Sg} {Q : AV → Sg → Prop}  : Rn d m_X5_type 5 [l0, l1, l2, vI x, l4] st σ Q ↔ Rn d m_X5_type 6 [l0, l1, l2, vI x, l4] (vI x :: st) σ Q := q3 (show fnd (pgm m_X5_type) 5 = some (6, 3, 0, 3, 0, []) from rfl) rfl
set_option maxRecDepth 100000 in
theorem s_X5_type_6 {d : Nat} {l0 l1 l2 l3 l4 : AV} {st : List AV} {σ : Sg} {Q : AV → Sg → Prop}  : Rn d m_X5_type 6 [l0, l1, l2, l3, l4] st σ Q ↔ Rn d m_X5_type 8 [l0, l1, l2, l3, l4] (vI 8 :: st) σ Q := q0 (show fnd (pgm m_X5_type) 6 = some (8, 0, 8, 1, 0, []) from rfl)
set_option maxRecDepth 100000 in
theorem s_X5_type_8 {d : Nat} {l0 l1 l2 l3 l4 : AV} {st : List AV} {a b : Int} {σ : Sg} {Q : AV → Sg → Prop}  : Rn d m_X5_type 8 [l0, l1, l2, l3, l4] (vI b :: vI a :: st) σ Q ↔ if w32 a ≤ w32 b then Rn d m_X5_type 20 [l0, l1, l2, l3, l4] st σ Q else Rn d m_X5_type 11 [l0, l1, l2, l3, l4] st σ Q := q20_5 (show fnd (pgm m_X5_type) 8 = some (11, 20, 0, 5, 20, []) from rfl)
set_option maxRecDepth 100000 in
theorem s_X5_type_11 {d : Nat} {l1 l2 l3 l4 : AV} {st : List AV} {o : Nat} {σ : Sg} {Q : AV → Sg → Prop} (ho : o ≠ 0) : Rn d m_X5_type 11 [vR o, l1, l2, l3, l4] st σ Q ↔ Rn d m_X5_type 12 [vR o, l1, l2, l3, l4] (vR o :: st) σ Q := q5 (show fnd (pgm m_X5_type) 11 = some (12, 5, 0, 0, 0, []) from rfl) rfl ho
set_option maxRecDepth 100000 in
theorem s_X5_type_12 {d : Nat} {l0 l1 l2 l3 l4 : AV} {st : List AV} {σ : Sg} {Q : AV → Sg → Prop}  : Rn d m_X5_type 12 [l0, l1, l2, l3, l4] st σ Q ↔ Rn d m_X5_type 14 [l0, l1, l2, l3, l4] (vI (-2) :: st) σ Q := q0 (show fnd (pgm m_X5_type) 12 = some (14, 0, (-2), 1, 0, []) from rfl)
set_option maxRecDepth 100000 in
theorem s_X5_type_14 {d : Nat} {l0 l1 l2 l3 l4 : AV} {st : List AV} {σ : Sg} {Q : AV → Sg → Prop}  : Rn d m_X5_type 14 [l0, l1, l2, l3, l4] st σ Q ↔ Rn d m_X5_type 16 [l0, l1, l2, l3, l4] (vI (-2) :: st) σ Q := q0 (show fnd (pgm m_X5_type) 14 = some (16, 0, (-2), 1, 0, []) from rfl)
set_option maxRecDepth 100000 in
theorem s_X5_type_16 {d : Nat} {l0 l1 l2 l3 l4 : AV} {st : List AV} {o : Nat} {a0 : Int} {a1 : Int} {σ : Sg} {Q : AV → Sg → Prop} (h4 : st.length ≤ 4) (hk : kn σ o = (0, 5)) : Rn d m_X5_type 16 [l0, l1, l2, l3, l4] (vI a1 :: vI a0 :: vR o :: st) σ Q ↔ ∃ r σ1, Ev d m_X5_refuse [vR o, vI a0, vI a1] σ r σ1 ∧ Rn d m_X5_type 19 [l0, l1, l2, l3, l4] (psh r st) σ1 Q := q35 (show fnd (pgm m_X5_type) 16 = some (19, 35, 84, 92, 3, []) from rfl) ⟨⟨by simp, by simpa using h4⟩, (by simp only [List.take, List.reverse, List.reverseAux, rcv]; rw [if_neg (by decide +kernel)]; exact decide_eq_true hk)⟩
set_option maxRecDepth 100000 in
theorem s_X5_type_19 {d : Nat} {l0 l1 l2 l3 l4 : AV} {x : Int} {σ : Sg} {Q : AV → Sg → Prop}  : Rn d m_X5_type 19 [l0, l1, l2, l3, l4] [vI x] σ Q ↔ Q (vI x) σ := q37_1 (st := []) (show fnd (pgm m_X5_type) 19 = some (20, 37, 0, 1, 0, []) from rfl)
set_option maxRecDepth 100000 in
theorem s_X5_type_20 {d : Nat} {l1 l2 l3 l4 : AV} {st : List AV} {o : Nat} {σ : Sg} {Q : AV → Sg → Prop} (ho : o ≠ 0) : Rn d m_X5_type 20 [vR o, l1, l2, l3, l4] st σ Q ↔ Rn d m_X5_type 21 [vR o, l1, l2, l3, l4] (vR o :: st) σ Q := q5 (show fnd (pgm m_X5_type) 20 = some (21, 5, 0, 0, 0, []) from rfl) rfl ho
set_option maxRecDepth 100000 in
theorem s_X5_type_21 {d : Nat} {l0 l1 l2 l3 l4 : AV} {st : List AV} {o : Nat} {σ : Sg} {Q : AV → Sg → Prop} (hk : kn σ o = (0, 5)) : Rn d m_X5_type 21 [l0, l1, l2, l3, l4] (vR o :: st) σ Q ↔ Rn d m_X5_type 24 [l0, l1, l2, l3, l4] (vR (tp o 0) :: st) σ Q := q33 (show fnd (pgm m_X5_type) 21 = some (24, 33, 12, 5, 0, []) from rfl) hk
set_option maxRecDepth 100000 in
theorem s_X5_type_24 {d : Nat} {l0 l1 l2 l3 l4 : AV} {st : List AV} {o : Nat} {σ : Sg} {Q : AV → Sg → Prop} (hk : kn σ o = (0, 0)) : Rn d m_X5_type 24 [l0, l1, l2, l3, l4] (vR o :: st) σ Q ↔ Rn d m_X5_type 27 [l0, l1, l2, l3, l4] (vI (σ o 9) :: st) σ Q := q33 (show fnd (pgm m_X5_type) 24 = some (27, 33, 225, 0, 9, []) from rfl) hk
set_option maxRecDepth 100000 in
theorem s_X5_type_27 {d : Nat} {l0 l1 l2 l4 : AV} {st : List AV} {x : Int} {σ : Sg} {Q : AV → Sg → Prop}  : Rn d m_X5_type 27 [l0, l1, l2, vI x, l4] st σ Q ↔ Rn d m_X5_type 28 [l0, l1, l2, vI x, l4] (vI x :: st) σ Q := q3 (show fnd (pgm m_X5_type) 27 = some (28, 3, 0, 3, 0, []) from rfl) rfl
set_option maxRecDepth 100000 in
theorem s_X5_type_28 {d : Nat} {l0 l1 l2 l3 l4 : AV} {st : List AV} {a b : Int} {σ : Sg} {Q : AV → Sg → Prop}  : Rn d m_X5_type 28 [l0, l1, l2, l3, l4] (vI b :: vI a :: st) σ Q ↔ Rn d m_X5_type 29 [l0, l1, l2, l3, l4] (vI (a + b) :: st) σ Q := q10_0 (show fnd (pgm m_X5_type) 28 = some (29, 10, 0, 0, 0, []) from rfl)
set_option maxRecDepth 100000 in
theorem s_X5_type_29 {d : Nat} {l0 l1 l2 l3 l4 : AV} {st : List AV} {σ : Sg} {Q : AV → Sg → Prop}  : Rn d m_X5_type 29 [l0, l1, l2, l3, l4] st σ Q ↔ Rn d m_X5_type 32 [l0, l1, l2, l3, l4] (vI 200 :: st) σ Q := q0 (show fnd (pgm m_X5_type) 29 = some (32, 0, 200, 2, 0, []) from rfl)
set_option maxRecDepth 100000 in
theorem s_X5_type_32 {d : Nat} {l0 l1 l2 l3 l4 : AV} {st : List AV} {a b : Int} {σ : Sg} {Q : AV → Sg → Prop}  : Rn d m_X5_type 32 [l0, l1, l2, l3, l4] (vI b :: vI a :: st) σ Q ↔ if w32 a ≤ w32 b then Rn d m_X5_type 44 [l0, l1, l2, l3, l4] st σ Q else Rn d m_X5_type 35 [l0, l1, l2, l3, l4] st σ Q := q20_5 (show fnd (pgm m_X5_type) 32 = some (35, 20, 0, 5, 44, []) from rfl)
set_option maxRecDepth 100000 in
theorem s_X5_type_35 {d : Nat} {l1 l2 l3 l4 : AV} {st : List AV} {o : Nat} {σ : Sg} {Q : AV → Sg → Prop} (ho : o ≠ 0) : Rn d m_X5_type 35 [vR o, l1, l2, l3, l4] st σ Q ↔ Rn d m_X5_type 36 [vR o, l1, l2, l3, l4] (vR o :: st) σ Q := q5 (show fnd (pgm m_X5_type) 35 = some (36, 5, 0, 0, 0, []) from rfl) rfl ho
set_option maxRecDepth 100000 in
theorem s_X5_type_36 {d : Nat} {l0 l1 l2 l3 l4 : AV} {st : List AV} {σ : Sg} {Q : AV → Sg → Prop}  : Rn d m_X5_type 36 [l0, l1, l2, l3, l4] st σ Q ↔ Rn d m_X5_type 38 [l0, l1, l2, l3, l4] (vI (-4) :: st) σ Q := q0 (show fnd (pgm m_X5_type) 36 = some (38, 0, (-4), 1, 0, []) from rfl)
set_option maxRecDepth 100000 in
theorem s_X5_type_38 {d : Nat} {l0 l1 l2 l3 l4 : AV} {st : List AV} {σ : Sg} {Q : AV → Sg → Prop}  : Rn d m_X5_type 38 [l0, l1, l2, l3, l4] st σ Q ↔ Rn d m_X5_type 40 [l0, l1, l2, l3, l4] (vI (-4) :: st) σ Q := q0 (show fnd (pgm m_X5_type) 38 = some (40, 0, (-4), 1, 0, []) from rfl)
set_option maxRecDepth 100000 in
theorem s_X5_type_40 {d : Nat} {l0 l1 l2 l3 l4 : AV} {st : List AV} {o : Nat} {a0 : Int} {a1 : Int} {σ : Sg} {Q : AV → Sg → Prop} (h4 : st.length ≤ 4) (hk : kn σ o = (0, 5)) : Rn d m_X5_type 40 [l0, l1, l2, l3, l4] (vI a1 :: vI a0 :: vR o :: st) σ Q ↔ ∃ r σ1, Ev d m_X5_refuse [vR o, vI a0, vI a1] σ r σ1 ∧ Rn d m_X5_type 43 [l0, l1, l2, l3, l4] (psh r st) σ1 Q := q35 (show fnd (pgm m_X5_type) 40 = some (43, 35, 84, 92, 3, []) from rfl) ⟨⟨by simp, by simpa using h4⟩, (by simp only [List.take, List.reverse, List.reverseAux, rcv]; rw [if_neg (by decide +kernel)]; exact decide_eq_true hk)⟩
set_option maxRecDepth 100000 in
theorem s_X5_type_43 {d : Nat} {l0 l1 l2 l3 l4 : AV} {x : Int} {σ : Sg} {Q : AV → Sg → Prop}  : Rn d m_X5_type 43 [l0, l1, l2, l3, l4] [vI x] σ Q ↔ Q (vI x) σ := q37_1 (st := []) (show fnd (pgm m_X5_type) 43 = some (44, 37, 0, 1, 0, []) from rfl)
set_option maxRecDepth 100000 in
theorem s_X5_type_44 {d : Nat} {l0 l1 l2 l4 : AV} {st : List AV} {x : Int} {σ : Sg} {Q : AV → Sg → Prop}  : Rn d m_X5_type 44 [l0, l1, l2, vI x, l4] st σ Q ↔ Rn d m_X5_type 45 [l0, l1, l2, vI x, l4] (vI x :: st) σ Q := q3 (show fnd (pgm m_X5_type) 44 = some (45, 3, 0, 3, 0, []) from rfl) rfl
set_option maxRecDepth 100000 in
theorem s_X5_type_45 {d : Nat} {l0 l1 l2 l3 l4 : AV} {st : List AV} {σ : Sg} {Q : AV → Sg → Prop}  : Rn d m_X5_type 45 [l0, l1, l2, l3, l4] st σ Q ↔ Rn d m_X5_type 46 [l0, l1, l2, l3, l4] (vI 1 :: st) σ Q := q0 (show fnd (pgm m_X5_type) 45 = some (46, 0, 1, 0, 0, []) from rfl)
set_option maxRecDepth 100000 in
theorem s_X5_type_46 {d : Nat} {l0 l1 l2 l3 l4 : AV} {st : List AV} {a b : Int} {σ : Sg} {Q : AV → Sg → Prop}  : Rn d m_X5_type 46 [l0, l1, l2, l3, l4] (vI b :: vI a :: st) σ Q ↔ Rn d m_X5_type 47 [l0, l1, l2, l3, l4] (vI (a - b) :: st) σ Q := q10_1 (show fnd (pgm m_X5_type) 46 = some (47, 10, 0, 1, 0, []) from rfl)
set_option maxRecDepth 100000 in
theorem s_X5_type_47 {d : Nat} {l0 l1 l2 l3 l4 : AV} {st : List AV} {x : Int} {σ : Sg} {Q : AV → Sg → Prop}  : Rn d m_X5_type 47 [l0, l1, l2, l3, l4] (vI x :: st) σ Q ↔ Rn d m_X5_type 49 [l0, l1, l2, l3, vI x] st σ Q := q6 (show fnd (pgm m_X5_type) 47 = some (49, 6, 0, 4, 1, []) from rfl) (by decide : 4 < 5)
set_option maxRecDepth 100000 in
theorem s_X5_type_49 {d : Nat} {l0 l1 l2 l3 : AV} {st : List AV} {x : Int} {σ : Sg} {Q : AV → Sg → Prop}  : Rn d m_X5_type 49 [l0, l1, l2, l3, vI x] st σ Q ↔ Rn d m_X5_type 51 [l0, l1, l2, l3, vI x] (vI x :: st) σ Q := q3 (show fnd (pgm m_X5_type) 49 = some (51, 3, 0, 4, 1, []) from rfl) rfl
set_option maxRecDepth 100000 in
theorem s_X5_type_51 {d : Nat} {l0 l1 l2 l3 l4 : AV} {st : List AV} {a : Int} {σ : Sg} {Q : AV → Sg → Prop}  : Rn d m_X5_type 51 [l0, l1, l2, l3, l4] (vI a :: st) σ Q ↔ if w32 a < 0 then Rn d m_X5_type 100 [l0, l1, l2, l3, l4] st σ Q else Rn d m_X5_type 54 [l0, l1, l2, l3, l4] st σ Q := q19_2 (show fnd (pgm m_X5_type) 51 = some (54, 19, 0, 2, 100, []) from rfl)
set_option maxRecDepth 100000 in
theorem s_X5_type_54 {d : Nat} {l1 l2 l3 l4 : AV} {st : List AV} {o : Nat} {σ : Sg} {Q : AV → Sg → Prop} (ho : o ≠ 0) : Rn d m_X5_type 54 [vR o, l1, l2, l3, l4] st σ Q ↔ Rn d m_X5_type 55 [vR o, l1, l2, l3, l4] (vR o :: st) σ Q := q5 (show fnd (pgm m_X5_type) 54 = some (55, 5, 0, 0, 0, []) from rfl) rfl ho
set_option maxRecDepth 100000 in
theorem s_X5_type_55 {d : Nat} {l0 l1 l2 l3 l4 : AV} {st : List AV} {o : Nat} {σ : Sg} {Q : AV → Sg → Prop} (hk : kn σ o = (0, 5)) : Rn d m_X5_type 55 [l0, l1, l2, l3, l4] (vR o :: st) σ Q ↔ Rn d m_X5_type 58 [l0, l1, l2, l3, l4] (vR (tp o 0) :: st) σ Q := q33 (show fnd (pgm m_X5_type) 55 = some (58, 33, 12, 5, 0, []) from rfl) hk
set_option maxRecDepth 100000 in
theorem s_X5_type_58 {d : Nat} {l0 l1 l2 l3 l4 : AV} {st : List AV} {o : Nat} {σ : Sg} {Q : AV → Sg → Prop} (hk : kn σ o = (0, 0)) : Rn d m_X5_type 58 [l0, l1, l2, l3, l4] (vR o :: st) σ Q ↔ Rn d m_X5_type 61 [l0, l1, l2, l3, l4] (vR (tp o 8) :: st) σ Q := q33 (show fnd (pgm m_X5_type) 58 = some (61, 33, 228, 0, 8, []) from rfl) hk
set_option maxRecDepth 100000 in
theorem s_X5_type_61 {d : Nat} {l1 l2 l3 l4 : AV} {st : List AV} {o : Nat} {σ : Sg} {Q : AV → Sg → Prop} (ho : o ≠ 0) : Rn d m_X5_type 61 [vR o, l1, l2, l3, l4] st σ Q ↔ Rn d m_X5_type 62 [vR o, l1, l2, l3, l4] (vR o :: st) σ Q := q5 (show fnd (pgm m_X5_type) 61 = some (62, 5, 0, 0, 0, []) from rfl) rfl ho
set_option maxRecDepth 100000 in
theorem s_X5_type_62 {d : Nat} {l0 l1 l2 l3 l4 : AV} {st : List AV} {o : Nat} {σ : Sg} {Q : AV → Sg → Prop} (hk : kn σ o = (0, 5)) : Rn d m_X5_type 62 [l0, l1, l2, l3, l4] (vR o :: st) σ Q ↔ Rn d m_X5_type 65 [l0, l1, l2, l3, l4] (vR (tp o 0) :: st) σ Q := q33 (show fnd (pgm m_X5_type) 62 = some (65, 33, 12, 5, 0, []) from rfl) hk
set_option maxRecDepth 100000 in
theorem s_X5_type_65 {d : Nat} {l0 l1 l2 l3 l4 : AV} {st : List AV} {o : Nat} {σ : Sg} {Q : AV → Sg → Prop} (hk : kn σ o = (0, 0)) : Rn d m_X5_type 65 [l0, l1, l2, l3, l4] (vR o :: st) σ Q ↔ Rn d m_X5_type 68 [l0, l1, l2, l3, l4] (vI (σ o 9) :: st) σ Q := q33 (show fnd (pgm m_X5_type) 65 = some (68, 33, 225, 0, 9, []) from rfl) hk
set_option maxRecDepth 100000 in
theorem s_X5_type_68 {d : Nat} {l0 l3 l4 : AV} {st : List AV} {x : Int} {σ : Sg} {Q : AV → Sg → Prop}  : Rn d m_X5_type 68 [l0, vL x, none, l3, l4] st σ Q ↔ Rn d m_X5_type 69 [l0, vL x, none, l3, l4] (vL x :: st) σ Q := q4 (show fnd (pgm m_X5_type) 68 = some (69, 4, 0, 1, 0, []) from rfl) rfl rfl
set_option maxRecDepth 100000 in
theorem s_X5_type_69 {d : Nat} {l0 l1 l2 l3 l4 : AV} {st : List AV} {σ : Sg} {Q : AV → Sg → Prop}  : Rn d m_X5_type 69 [l0, l1, l2, l3, l4] st σ Q ↔ Rn d m_X5_type 71 [l0, l1, l2, l3, l4] (vI 8 :: st) σ Q := q0 (show fnd (pgm m_X5_type) 69 = some (71, 0, 8, 1, 0, []) from rfl)
set_option maxRecDepth 100000 in
theorem s_X5_type_71 {d : Nat} {l0 l1 l2 l3 : AV} {st : List AV} {x : Int} {σ : Sg} {Q : AV → Sg → Prop}  : Rn d m_X5_type 71 [l0, l1, l2, l3, vI x] st σ Q ↔ Rn d m_X5_type 73 [l0, l1, l2, l3, vI x] (vI x :: st) σ Q := q3 (show fnd (pgm m_X5_type) 71 = some (73, 3, 0, 4, 1, []) from rfl) rfl
set_option maxRecDepth 100000 in
theorem s_X5_type_73 {d : Nat} {l0 l1 l2 l3 l4 : AV} {st : List AV} {a b : Int} {σ : Sg} {Q : AV → Sg → Prop}  : Rn d m_X5_type 73 [l0, l1, l2, l3, l4] (vI b :: vI a :: st) σ Q ↔ Rn d m_X5_type 74 [l0, l1, l2, l3, l4] (vI (a * b) :: st) σ Q := q10_2 (show fnd (pgm m_X5_type) 73 = some (74, 10, 0, 2, 0, []) from rfl)
set_option maxRecDepth 100000 in
theorem s_X5_type_74 {d : Nat} {l0 l1 l2 l3 l4 : AV} {st : List AV} {a b : Int} {σ : Sg} {Q : AV → Sg → Prop}  : Rn d m_X5_type 74 [l0, l1, l2, l3, l4] (vI b :: vL a :: st) σ Q ↔ Rn d m_X5_type 75 [l0, l1, l2, l3, l4] (vL (shr64 a b) :: st) σ Q := q12_1 (show fnd (pgm m_X5_type) 74 = some (75, 12, 0, 1, 0, []) from rfl)
set_option maxRecDepth 100000 in
theorem s_X5_type_75 {d : Nat} {l0 l1 l2 l3 l4 : AV} {st : List AV} {a : Int} {σ : Sg} {Q : AV → Sg → Prop}  : Rn d m_X5_type 75 [l0, l1, l2, l3, l4] (vL a :: st) σ Q ↔ Rn d m_X5_type 76 [l0, l1, l2, l3, l4] (vI a :: st) σ Q := q15 (show fnd (pgm m_X5_type) 75 = some (76, 15, 0, 0, 0, []) from rfl)
set_option maxRecDepth 100000 in
theorem s_X5_type_76 {d : Nat} {l0 l1 l2 l3 l4 : AV} {st : List AV} {σ : Sg} {Q : AV → Sg → Prop}  : Rn d m_X5_type 76 [l0, l1, l2, l3, l4] st σ Q ↔ Rn d m_X5_type 79 [l0, l1, l2, l3, l4] (vI 255 :: st) σ Q := q0 (show fnd (pgm m_X5_type) 76 = some (79, 0, 255, 2, 0, []) from rfl)
set_option maxRecDepth 100000 in
theorem s_X5_type_79 {d : Nat} {l0 l1 l2 l3 l4 : AV} {st : List AV} {a b : Int} {σ : Sg} {Q : AV → Sg → Prop}  : Rn d m_X5_type 79 [l0, l1, l2, l3, l4] (vI b :: vI a :: st) σ Q ↔ Rn d m_X5_type 80 [l0, l1, l2, l3, l4] (vI (and32 a b) :: st) σ Q := q10_5 (show fnd (pgm m_X5_type) 79 = some (80, 10, 0, 5, 0, []) from rfl)
set_option maxRecDepth 100000 in
theorem s_X5_type_80 {d : Nat} {l0 l1 l2 l3 l4 : AV} {st : List AV} {i x : Int} {o : Nat} {σ : Sg} {Q : AV → Sg → Prop} (hi : 0 ≤ w32 i ∧ w32 i < al σ 1 o) : Rn d m_X5_type 80 [l0, l1, l2, l3, l4] (vI x :: vI i :: vR o :: st) σ Q ↔ Rn d m_X5_type 81 [l0, l1, l2, l3, l4] st (up σ o (w32 i) x) Q := q29 (show fnd (pgm m_X5_type) 80 = some (81, 29, 0, 0, 0, []) from rfl) hi
set_option maxRecDepth 100000 in
theorem s_X5_type_81 {d : Nat} {l1 l2 l3 l4 : AV} {st : List AV} {o : Nat} {σ : Sg} {Q : AV → Sg → Prop} (ho : o ≠ 0) : Rn d m_X5_type 81 [vR o, l1, l2, l3, l4] st σ Q ↔ Rn d m_X5_type 82 [vR o, l1, l2, l3, l4] (vR o :: st) σ Q := q5 (show fnd (pgm m_X5_type) 81 = some (82, 5, 0, 0, 0, []) from rfl) rfl ho
set_option maxRecDepth 100000 in
theorem s_X5_type_82 {d : Nat} {l0 l1 l2 l3 l4 : AV} {st : List AV} {o : Nat} {σ : Sg} {Q : AV → Sg → Prop} (hk : kn σ o = (0, 5)) : Rn d m_X5_type 82 [l0, l1, l2, l3, l4] (vR o :: st) σ Q ↔ Rn d m_X5_type 85 [l0, l1, l2, l3, l4] (vR (tp o 0) :: st) σ Q := q33 (show fnd (pgm m_X5_type) 82 = some (85, 33, 12, 5, 0, []) from rfl) hk
set_option maxRecDepth 100000 in
theorem s_X5_type_85 {d : Nat} {l0 l1 l2 l3 l4 : AV} {st : List AV} {a : Int} {σ : Sg} {Q : AV → Sg → Prop} : Rn d m_X5_type 85 [l0, l1, l2, l3, l4] (vI a :: st) σ Q ↔ Rn d m_X5_type 86 [l0, l1, l2, l3, l4] (vI a :: vI a :: st) σ Q := q17i (show fnd (pgm m_X5_type) 85 = some (86, 17, 0, 0, 0, []) from rfl)
set_option maxRecDepth 100000 in
theorem s_X5_type_85r {d : Nat} {l0 l1 l2 l3 l4 : AV} {st : List AV} {o : Nat} {σ : Sg} {Q : AV → Sg → Prop} : Rn d m_X5_type 85 [l0, l1, l2, l3, l4] (vR o :: st) σ Q ↔ Rn d m_X5_type 86 [l0, l1, l2, l3, l4] (vR o :: vR o :: st) σ Q := q17r (show fnd (pgm m_X5_type) 85 = some (86, 17, 0, 0, 0, []) from rfl)
set_option maxRecDepth 100000 in
theorem s_X5_type_86 {d : Nat} {l0 l1 l2 l3 l4 : AV} {st : List AV} {o : Nat} {σ : Sg} {Q : AV → Sg → Prop} (hk : kn σ o = (0, 0)) : Rn d m_X5_type 86 [l0, l1, l2, l3, l4] (vR o :: st) σ Q ↔ Rn d m_X5_type 89 [l0, l1, l2, l3, l4] (vI (σ o 9) :: st) σ Q := q33 (show fnd (pgm m_X5_type) 86 = some (89, 33, 225, 0, 9, []) from rfl) hk
set_option maxRecDepth 100000 in
theorem s_X5_type_89 {d : Nat} {l0 l1 l2 l3 l4 : AV} {st : List AV} {σ : Sg} {Q : AV → Sg → Prop}  : Rn d m_X5_type 89 [l0, l1, l2, l3, l4] st σ Q ↔ Rn d m_X5_type 90 [l0, l1, l2, l3, l4] (vI 1 :: st) σ Q := q0 (show fnd (pgm m_X5_type) 89 = some (90, 0, 1, 0, 0, []) from rfl)
set_option maxRecDepth 100000 in
theorem s_X5_type_90 {d : Nat} {l0 l1 l2 l3 l4 : AV} {st : List AV} {a b : Int} {σ : Sg} {Q : AV → Sg → Prop}  : Rn d m_X5_type 90 [l0, l1, l2, l3, l4] (vI b :: vI a :: st) σ Q ↔ Rn d m_X5_type 91 [l0, l1, l2, l3, l4] (vI (a + b) :: st) σ Q := q10_0 (show fnd (pgm m_X5_type) 90 = some (91, 10, 0, 0, 0, []) from rfl)
set_option maxRecDepth 100000 in
theorem s_X5_type_91 {d : Nat} {l0 l1 l2 l3 l4 : AV} {st : List AV} {o : Nat} {x : Int} {σ : Sg} {Q : AV → Sg → Prop} (hk : kn σ o = (0, 0)) : Rn d m_X5_type 91 [l0, l1, l2, l3, l4] (vI x :: vR o :: st) σ Q ↔ Rn d m_X5_type 94 [l0, l1, l2, l3, l4] st (up σ o 9 x) Q := q34i (show fnd (pgm m_X5_type) 91 = some (94, 34, 225, 0, 9, []) from rfl) hk rfl
set_option maxRecDepth 100000 in
theorem s_X5_type_94 {d : Nat} {l0 l1 l2 l3 : AV} {st : List AV} {x : Int} {σ : Sg} {Q : AV → Sg → Prop}  : Rn d m_X5_type 94 [l0, l1, l2, l3, vI x] st σ Q ↔ Rn d m_X5_type 97 [l0, l1, l2, l3, vI (x + (-1))] st σ Q := q9 (show fnd (pgm m_X5_type) 94 = some (97, 9, (-1), 4, 0, []) from rfl) rfl
set_option maxRecDepth 100000 in
theorem s_X5_type_97 {d : Nat} {l0 l1 l2 l3 l4 : AV} {st : List AV} {σ : Sg} {Q : AV → Sg → Prop}  : Rn d m_X5_type 97 [l0, l1, l2, l3, l4] st σ Q ↔ Rn d m_X5_type 49 [l0, l1, l2, l3, l4] st σ Q := q21 (show fnd (pgm m_X5_type) 97 = some (100, 21, 0, 0, 49, []) from rfl)
set_option maxRecDepth 100000 in
theorem s_X5_type_100 {d : Nat} {l1 l2 l3 l4 : AV} {st : List AV} {o : Nat} {σ : Sg} {Q : AV → Sg → Prop} (ho : o ≠ 0) : Rn d m_X5_type 100 [vR o, l1, l2, l3, l4] st σ Q ↔ Rn d m_X5_type 101 [vR o, l1, l2, l3, l4] (vR o :: st) σ Q := q5 (show fnd (pgm m_X5_type) 100 = some (101, 5, 0, 0, 0, []) from rfl) rfl ho
set_option maxRecDepth 100000 in
theorem s_X5_type_101 {d : Nat} {l0 l1 l2 l3 l4 : AV} {st : List AV} {o : Nat} {σ : Sg} {Q : AV → Sg → Prop} (hk : kn σ o = (0, 5)) : Rn d m_X5_type 101 [l0, l1, l2, l3, l4] (vR o :: st) σ Q ↔ Rn d m_X5_type 104 [l0, l1, l2, l3, l4] (vR (tp o 0) :: st) σ Q := q33 (show fnd (pgm m_X5_type) 101 = some (104, 33, 12, 5, 0, []) from rfl) hk
set_option maxRecDepth 100000 in
theorem s_X5_type_104 {d : Nat} {l0 l1 l2 l3 l4 : AV} {st : List AV} {o : Nat} {σ : Sg} {Q : AV → Sg → Prop} (hk : kn σ o = (0, 0)) : Rn d m_X5_type 104 [l0, l1, l2, l3, l4] (vR o :: st) σ Q ↔ Rn d m_X5_type 107 [l0, l1, l2, l3, l4] (vI (σ o 9) :: st) σ Q := q33 (show fnd (pgm m_X5_type) 104 = some (107, 33, 225, 0, 9, []) from rfl) hk
set_option maxRecDepth 100000 in
theorem s_X5_type_107 {d : Nat} {l0 l1 l2 l3 l4 : AV} {x : Int} {σ : Sg} {Q : AV → Sg → Prop}  : Rn d m_X5_type 107 [l0, l1, l2, l3, l4] [vI x] σ Q ↔ Q (vI x) σ := q37_1 (st := []) (show fnd (pgm m_X5_type) 107 = some (108, 37, 0, 1, 0, []) from rfl)
set_option maxRecDepth 100000 in
theorem en_X5_clear {d : Nat} {o : Nat} {σ σ0 : Sg} {r0 : AV} (h : Rn d m_X5_clear 0 [vR o, none] [] σ (fun r σ1 => r = r0 ∧ σ1 = σ0)) : Ev (d + 1) m_X5_clear [vR o] σ r0 σ0 := Ev_is (Nat.le_of_ble_eq_true rfl) h
set_option maxRecDepth 100000 in
theorem eo_X5_clear {d : Nat} {o : Nat} {σ : Sg} {Q : AV → Sg → Prop} (h : Rn d m_X5_clear 0 [vR o, none] [] σ Q) : ∃ r σ1, Ev (d + 1) m_X5_clear [vR o] σ r σ1 ∧ Q r σ1 := Ev_of (Nat.le_of_ble_eq_true rfl) h
set_option maxRecDepth 100000 in
theorem s_X5_clear_0 {d : Nat} {l1 : AV} {st : List AV} {o : Nat} {σ : Sg} {Q : AV → Sg → Prop} (ho : o ≠ 0) : Rn d m_X5_clear 0 [vR o, l1] st σ Q ↔ Rn d m_X5_clear 1 [vR o, l1] (vR o :: st) σ Q := q5 (show fnd (pgm m_X5_clear) 0 = some (1, 5, 0, 0, 0, []) from rfl) rfl ho
set_option maxRecDepth 100000 in
theorem s_X5_clear_1 {d : Nat} {l0 l1 : AV} {st : List AV} {o : Nat} {σ : Sg} {Q : AV → Sg → Prop} (hk : kn σ o = (0, 5)) : Rn d m_X5_clear 1 [l0, l1] (vR o :: st) σ Q ↔ Rn d m_X5_clear 4 [l0, l1] (vR (tp o 0) :: st) σ Q := q33 (show fnd (pgm m_X5_clear) 1 = some (4, 33, 12, 5, 0, []) from rfl) hk
set_option maxRecDepth 100000 in
theorem s_X5_clear_4 {d : Nat} {l0 l1 : AV} {st : List AV} {o : Nat} {σ : Sg} {Q : AV → Sg → Prop} (hk : kn σ o = (0, 0)) : Rn d m_X5_clear 4 [l0, l1] (vR o :: st) σ Q ↔ Rn d m_X5_clear 7 [l0, l1] (vI (σ o 9) :: st) σ Q := q33 (show fnd (pgm m_X5_clear) 4 = some (7, 33, 225, 0, 9, []) from rfl) hk
set_option maxRecDepth 100000 in
theorem s_X5_clear_7 {d : Nat} {l0 l1 : AV} {st : List AV} {x : Int} {σ : Sg} {Q : AV → Sg → Prop}  : Rn d m_X5_clear 7 [l0, l1] (vI x :: st) σ Q ↔ Rn d m_X5_clear 8 [l0, vI x] st σ Q := q6 (show fnd (pgm m_X5_clear) 7 = some (8, 6, 0, 1, 0, []) from rfl) (by decide : 1 < 2)
set_option maxRecDepth 100000 in
theorem s_X5_clear_8 {d : Nat} {l1 : AV} {st : List AV} {o : Nat} {σ : Sg} {Q : AV → Sg → Prop} (ho : o ≠ 0) : Rn d m_X5_clear 8 [vR o, l1] st σ Q ↔ Rn d m_X5_clear 9 [vR o, l1] (vR o :: st) σ Q := q5 (show fnd (pgm m_X5_clear) 8 = some (9, 5, 0, 0, 0, []) from rfl) rfl ho
set_option maxRecDepth 100000 in
theorem s_X5_clear_9 {d : Nat} {l0 l1 : AV} {st : List AV} {o : Nat} {σ : Sg} {Q : AV → Sg → Prop} (hk : kn σ o = (0, 5)) : Rn d m_X5_clear 9 [l0, l1] (vR o :: st) σ Q ↔ Rn d m_X5_clear 12 [l0, l1] (vR (tp o 0) :: st) σ Q := q33 (show fnd (pgm m_X5_clear) 9 = some (12, 33, 12, 5, 0, []) from rfl) hk
set_option maxRecDepth 100000 in
theorem s_X5_clear_12 {d : Nat} {l0 l1 : AV} {st : List AV} {σ : Sg} {Q : AV → Sg → Prop}  : Rn d m_X5_clear 12 [l0, l1] st σ Q ↔ Rn d m_X5_clear 13 [l0, l1] (vI 0 :: st) σ Q := q0 (show fnd (pgm m_X5_clear) 12 = some (13, 0, 0, 0, 0, []) from rfl)
set_option maxRecDepth 100000 in
theorem s_X5_clear_13 {d : Nat} {l0 l1 : AV} {st : List AV} {o : Nat} {x : Int} {σ : Sg} {Q : AV → Sg → Prop} (hk : kn σ o = (0, 0)) : Rn d m_X5_clear 13 [l0, l1] (vI x :: vR o :: st) σ Q ↔ Rn d m_X5_clear 16 [l0, l1] st (up σ o 9 x) Q := q34i (show fnd (pgm m_X5_clear) 13 = some (16, 34, 225, 0, 9, []) from rfl) hk rfl
set_option maxRecDepth 100000 in
theorem s_X5_clear_16 {d : Nat} {l0 : AV} {st : List AV} {x : Int} {σ : Sg} {Q : AV → Sg → Prop}  : Rn d m_X5_clear 16 [l0, vI x] st σ Q ↔ Rn d m_X5_clear 17 [l0, vI x] (vI x :: st) σ Q := q3 (show fnd (pgm m_X5_clear) 16 = some (17, 3, 0, 1, 0, []) from rfl) rfl
set_option maxRecDepth 100000 in
theorem s_X5_clear_17 {d : Nat} {l0 l1 : AV} {x : Int} {σ : Sg} {Q : AV → Sg → Prop}  : Rn d m_X5_clear 17 [l0, l1] [vI x] σ Q ↔ Q (vI x) σ := q37_1 (st := []) (show fnd (pgm m_X5_clear) 17 = some (18, 37, 0, 1, 0, []) from rfl)
set_option maxRecDepth 100000 in
theorem en_X5_fault {d : Nat} {o : Nat} {σ σ0 : Sg} {r0 : AV} (h : Rn d m_X5_fault 0 [vR o] [] σ (fun r σ1 => r = r0 ∧ σ1 = σ0)) : Ev (d + 1) m_X5_fault [vR o] σ r0 σ0 := Ev_is (Nat.le_of_ble_eq_true rfl) h
set_option maxRecDepth 100000 in
theorem eo_X5_fault {d : Nat} {o : Nat} {σ : Sg} {Q : AV → Sg → Prop} (h : Rn d m_X5_fault 0 [vR o] [] σ Q) : ∃ r σ1, Ev (d + 1) m_X5_fault [vR o] σ r σ1 ∧ Q r σ1 := Ev_of (Nat.le_of_ble_eq_true rfl) h
set_option maxRecDepth 100000 in
theorem s_X5_fault_0 {d : Nat} {st : List AV} {o : Nat} {σ : Sg} {Q : AV → Sg → Prop} (ho : o ≠ 0) : Rn d m_X5_fault 0 [vR o] st σ Q ↔ Rn d m_X5_fault 1 [vR o] (vR o :: st) σ Q := q5 (show fnd (pgm m_X5_fault) 0 = some (1, 5, 0, 0, 0, []) from rfl) rfl ho
set_option maxRecDepth 100000 in
theorem s_X5_fault_1 {d : Nat} {l0 : AV} {st : List AV} {o : Nat} {σ : Sg} {Q : AV → Sg → Prop} (hk : kn σ o = (0, 5)) : Rn d m_X5_fault 1 [l0] (vR o :: st) σ Q ↔ Rn d m_X5_fault 4 [l0] (vR (tp o 11) :: st) σ Q := q33 (show fnd (pgm m_X5_fault) 1 = some (4, 33, 62, 5, 11, []) from rfl) hk
set_option maxRecDepth 100000 in
theorem s_X5_fault_4 {d : Nat} {st : List AV} {o : Nat} {σ : Sg} {Q : AV → Sg → Prop} (ho : o ≠ 0) : Rn d m_X5_fault 4 [vR o] st σ Q ↔ Rn d m_X5_fault 5 [vR o] (vR o :: st) σ Q := q5 (show fnd (pgm m_X5_fault) 4 = some (5, 5, 0, 0, 0, []) from rfl) rfl ho
set_option maxRecDepth 100000 in
theorem s_X5_fault_5 {d : Nat} {l0 : AV} {st : List AV} {o : Nat} {σ : Sg} {Q : AV → Sg → Prop} (hk : kn σ o = (0, 5)) : Rn d m_X5_fault 5 [l0] (vR o :: st) σ Q ↔ Rn d m_X5_fault 8 [l0] (vR (tp o 0) :: st) σ Q := q33 (show fnd (pgm m_X5_fault) 5 = some (8, 33, 12, 5, 0, []) from rfl) hk
set_option maxRecDepth 100000 in
theorem s_X5_fault_8 {d : Nat} {st : List AV} {o : Nat} {σ : Sg} {Q : AV → Sg → Prop} (ho : o ≠ 0) : Rn d m_X5_fault 8 [vR o] st σ Q ↔ Rn d m_X5_fault 9 [vR o] (vR o :: st) σ Q := q5 (show fnd (pgm m_X5_fault) 8 = some (9, 5, 0, 0, 0, []) from rfl) rfl ho
set_option maxRecDepth 100000 in
theorem s_X5_fault_9 {d : Nat} {l0 : AV} {st : List AV} {o : Nat} {σ : Sg} {Q : AV → Sg → Prop} (hk : kn σ o = (0, 5)) : Rn d m_X5_fault 9 [l0] (vR o :: st) σ Q ↔ Rn d m_X5_fault 12 [l0] (vR (tp o 12) :: st) σ Q := q33 (show fnd (pgm m_X5_fault) 9 = some (12, 33, 69, 5, 12, []) from rfl) hk
set_option maxRecDepth 100000 in
theorem s_X5_fault_12 {d : Nat} {l0 : AV} {st : List AV} {o : Nat} {a0 : Nat} {a1 : Nat} {σ : Sg} {Q : AV → Sg → Prop} (h4 : st.length ≤ 4) (hk : kn σ o = (0, 3)) : Rn d m_X5_fault 12 [l0] (vR a1 :: vR a0 :: vR o :: st) σ Q ↔ ∃ r σ1, Ev d m_X3_read [vR o, vR a0, vR a1] σ r σ1 ∧ Rn d m_X5_fault 15 [l0] (psh r st) σ1 Q := q35 (show fnd (pgm m_X5_fault) 12 = some (15, 35, 231, 25, 3, []) from rfl) ⟨⟨by simp, by simpa using h4⟩, (by simp only [List.take, List.reverse, List.reverseAux, rcv]; rw [if_neg (by decide +kernel)]; exact decide_eq_true hk)⟩
set_option maxRecDepth 100000 in
theorem s_X5_fault_15 {d : Nat} {l0 : AV} {x : Int} {σ : Sg} {Q : AV → Sg → Prop}  : Rn d m_X5_fault 15 [l0] [vI x] σ Q ↔ Q (vI x) σ := q37_1 (st := []) (show fnd (pgm m_X5_fault) 15 = some (16, 37, 0, 1, 0, []) from rfl)
set_option maxRecDepth 100000 in
theorem en_X5_claims {d : Nat} {o : Nat} {a0 : Int} {σ σ0 : Sg} {r0 : AV} (h : Rn d m_X5_claims 0 [vR o, vI a0] [] σ (fun r σ1 => r = r0 ∧ σ1 = σ0)) : Ev (d + 1) m_X5_claims [vR o, vI a0] σ r0 σ0 := Ev_is (Nat.le_of_ble_eq_true rfl) h
set_option maxRecDepth 100000 in
theorem eo_X5_claims {d : Nat} {o : Nat} {a0 : Int} {σ : Sg} {Q : AV → Sg → Prop} (h : Rn d m_X5_claims 0 [vR o, vI a0] [] σ Q) : ∃ r σ1, Ev (d + 1) m_X5_claims [vR o, vI a0] σ r σ1 ∧ Q r σ1 := Ev_of (Nat.le_of_ble_eq_true rfl) h
set_option maxRecDepth 100000 in
theorem s_X5_claims_0 {d : Nat} {l0 : AV} {st : List AV} {x : Int} {σ : Sg} {Q : AV → Sg → Prop}  : Rn d m_X5_claims 0 [l0, vI x] st σ Q ↔ Rn d m_X5_claims 1 [l0, vI x] (vI x :: st) σ Q := q3 (show fnd (pgm m_X5_claims) 0 = some (1, 3, 0, 1, 0, []) from rfl) rfl
set_option maxRecDepth 100000 in
theorem s_X5_claims_1 {d : Nat} {l0 l1 : AV} {st : List AV} {σ : Sg} {Q : AV → Sg → Prop}  : Rn d m_X5_claims 1 [l0, l1] st σ Q ↔ Rn d m_X5_claims 2 [l0, l1] (vI 3 :: st) σ Q := q0 (show fnd (pgm m_X5_claims) 1 = some (2, 0, 3, 0, 0, []) from rfl)
set_option maxRecDepth 100000 in
theorem s_X5_claims_2 {d : Nat} {l0 l1 : AV} {st : List AV}  {a0 : Int} {a1 : Int} {σ : Sg} {Q : AV → Sg → Prop} (h4 : st.length ≤ 4) : Rn d m_X5_claims 2 [l0, l1] (vI a1 :: vI a0 :: st) σ Q ↔ ∃ r σ1, Ev d m_X5_within [vI a0, vI a1] σ r σ1 ∧ Rn d m_X5_claims 5 [l0, l1] (psh r st) σ1 Q := q35 (show fnd (pgm m_X5_claims) 2 = some (5, 35, 80, 89, 2, []) from rfl) ⟨⟨by simp, by simpa using h4⟩, rfl⟩
set_option maxRecDepth 100000 in
theorem s_X5_claims_5 {d : Nat} {l0 l1 : AV} {st : List AV} {a : Int} {σ : Sg} {Q : AV → Sg → Prop}  : Rn d m_X5_claims 5 [l0, l1] (vI a :: st) σ Q ↔ if ¬ w32 a = 0 then Rn d m_X5_claims 17 [l0, l1] st σ Q else Rn d m_X5_claims 8 [l0, l1] st σ Q := q19_1 (show fnd (pgm m_X5_claims) 5 = some (8, 19, 0, 1, 17, []) from rfl)
set_option maxRecDepth 100000 in
theorem s_X5_claims_8 {d : Nat} {l1 : AV} {st : List AV} {o : Nat} {σ : Sg} {Q : AV → Sg → Prop} (ho : o ≠ 0) : Rn d m_X5_claims 8 [vR o, l1] st σ Q ↔ Rn d m_X5_claims 9 [vR o, l1] (vR o :: st) σ Q := q5 (show fnd (pgm m_X5_claims) 8 = some (9, 5, 0, 0, 0, []) from rfl) rfl ho
set_option maxRecDepth 100000 in
theorem s_X5_claims_9 {d : Nat} {l0 l1 : AV} {st : List AV} {σ : Sg} {Q : AV → Sg → Prop}  : Rn d m_X5_claims 9 [l0, l1] st σ Q ↔ Rn d m_X5_claims 11 [l0, l1] (vI (-2) :: st) σ Q := q0 (show fnd (pgm m_X5_claims) 9 = some (11, 0, (-2), 1, 0, []) from rfl)
set_option maxRecDepth 100000 in
theorem s_X5_claims_11 {d : Nat} {l0 l1 : AV} {st : List AV} {σ : Sg} {Q : AV → Sg → Prop}  : Rn d m_X5_claims 11 [l0, l1] st σ Q ↔ Rn d m_X5_claims 13 [l0, l1] (vI (-2) :: st) σ Q := q0 (show fnd (pgm m_X5_claims) 11 = some (13, 0, (-2), 1, 0, []) from rfl)
set_option maxRecDepth 100000 in
theorem s_X5_claims_13 {d : Nat} {l0 l1 : AV} {st : List AV} {o : Nat} {a0 : Int} {a1 : Int} {σ : Sg} {Q : AV → Sg → Prop} (h4 : st.length ≤ 4) (hk : kn σ o = (0, 5)) : Rn d m_X5_claims 13 [l0, l1] (vI a1 :: vI a0 :: vR o :: st) σ Q ↔ ∃ r σ1, Ev d m_X5_refuse [vR o, vI a0, vI a1] σ r σ1 ∧ Rn d m_X5_claims 16 [l0, l1] (psh r st) σ1 Q := q35 (show fnd (pgm m_X5_claims) 13 = some (16, 35, 84, 92, 3, []) from rfl) ⟨⟨by simp, by simpa using h4⟩, (by simp only [List.take, List.reverse, List.reverseAux, rcv]; rw [if_neg (by decide +kernel)]; exact decide_eq_true hk)⟩
set_option maxRecDepth 100000 in
theorem s_X5_claims_16 {d : Nat} {l0 l1 : AV} {x : Int} {σ : Sg} {Q : AV → Sg → Prop}  : Rn d m_X5_claims 16 [l0, l1] [vI x] σ Q ↔ Q (vI x) σ := q37_1 (st := []) (show fnd (pgm m_X5_claims) 16 = some (17, 37, 0, 1, 0, []) from rfl)
set_option maxRecDepth 100000 in
theorem s_X5_claims_17 {d : Nat} {l1 : AV} {st : List AV} {o : Nat} {σ : Sg} {Q : AV → Sg → Prop} (ho : o ≠ 0) : Rn d m_X5_claims 17 [vR o, l1] st σ Q ↔ Rn d m_X5_claims 18 [vR o, l1] (vR o :: st) σ Q := q5 (show fnd (pgm m_X5_claims) 17 = some (18, 5, 0, 0, 0, []) from rfl) rfl ho
set_option maxRecDepth 100000 in
theorem s_X5_claims_18 {d : Nat} {l0 l1 : AV} {st : List AV} {o : Nat} {σ : Sg} {Q : AV → Sg → Prop} (h4 : st.length ≤ 4) (hk : kn σ o = (0, 5)) : Rn d m_X5_claims 18 [l0, l1] (vR o :: st) σ Q ↔ ∃ r σ1, Ev d m_X5_settle [vR o] σ r σ1 ∧ Rn d m_X5_claims 21 [l0, l1] (psh r st) σ1 Q := q35 (show fnd (pgm m_X5_claims) 18 = some (21, 35, 235, 100, 1, []) from rfl) ⟨⟨by simp, by simpa using h4⟩, (by simp only [List.take, List.reverse, List.reverseAux, rcv]; rw [if_neg (by decide +kernel)]; exact decide_eq_true hk)⟩
set_option maxRecDepth 100000 in
theorem s_X5_claims_21 {d : Nat} {l0 l1 : AV} {st : List AV} {a : Int} {σ : Sg} {Q : AV → Sg → Prop}  : Rn d m_X5_claims 21 [l0, l1] (vI a :: st) σ Q ↔ if ¬ w32 a = 0 then Rn d m_X5_claims 33 [l0, l1] st σ Q else Rn d m_X5_claims 24 [l0, l1] st σ Q := q19_1 (show fnd (pgm m_X5_claims) 21 = some (24, 19, 0, 1, 33, []) from rfl)
set_option maxRecDepth 100000 in
theorem s_X5_claims_24 {d : Nat} {l1 : AV} {st : List AV} {o : Nat} {σ : Sg} {Q : AV → Sg → Prop} (ho : o ≠ 0) : Rn d m_X5_claims 24 [vR o, l1] st σ Q ↔ Rn d m_X5_claims 25 [vR o, l1] (vR o :: st) σ Q := q5 (show fnd (pgm m_X5_claims) 24 = some (25, 5, 0, 0, 0, []) from rfl) rfl ho
set_option maxRecDepth 100000 in
theorem s_X5_claims_25 {d : Nat} {l0 l1 : AV} {st : List AV} {σ : Sg} {Q : AV → Sg → Prop}  : Rn d m_X5_claims 25 [l0, l1] st σ Q ↔ Rn d m_X5_claims 27 [l0, l1] (vI (-3) :: st) σ Q := q0 (show fnd (pgm m_X5_claims) 25 = some (27, 0, (-3), 1, 0, []) from rfl)
set_option maxRecDepth 100000 in
theorem s_X5_claims_27 {d : Nat} {l0 l1 : AV} {st : List AV} {σ : Sg} {Q : AV → Sg → Prop}  : Rn d m_X5_claims 27 [l0, l1] st σ Q ↔ Rn d m_X5_claims 29 [l0, l1] (vI (-3) :: st) σ Q := q0 (show fnd (pgm m_X5_claims) 27 = some (29, 0, (-3), 1, 0, []) from rfl)
set_option maxRecDepth 100000 in
theorem s_X5_claims_29 {d : Nat} {l0 l1 : AV} {st : List AV} {o : Nat} {a0 : Int} {a1 : Int} {σ : Sg} {Q : AV → Sg → Prop} (h4 : st.length ≤ 4) (hk : kn σ o = (0, 5)) : Rn d m_X5_claims 29 [l0, l1] (vI a1 :: vI a0 :: vR o :: st) σ Q ↔ ∃ r σ1, Ev d m_X5_refuse [vR o, vI a0, vI a1] σ r σ1 ∧ Rn d m_X5_claims 32 [l0, l1] (psh r st) σ1 Q := q35 (show fnd (pgm m_X5_claims) 29 = some (32, 35, 84, 92, 3, []) from rfl) ⟨⟨by simp, by simpa using h4⟩, (by simp only [List.take, List.reverse, List.reverseAux, rcv]; rw [if_neg (by decide +kernel)]; exact decide_eq_true hk)⟩
set_option maxRecDepth 100000 in
theorem s_X5_claims_32 {d : Nat} {l0 l1 : AV} {x : Int} {σ : Sg} {Q : AV → Sg → Prop}  : Rn d m_X5_claims 32 [l0, l1] [vI x] σ Q ↔ Q (vI x) σ := q37_1 (st := []) (show fnd (pgm m_X5_claims) 32 = some (33, 37, 0, 1, 0, []) from rfl)
set_option maxRecDepth 100000 in
theorem s_X5_claims_33 {d : Nat} {l0 : AV} {st : List AV} {x : Int} {σ : Sg} {Q : AV → Sg → Prop}  : Rn d m_X5_claims 33 [l0, vI x] st σ Q ↔ Rn d m_X5_claims 34 [l0, vI x] (vI x :: st) σ Q := q3 (show fnd (pgm m_X5_claims) 33 = some (34, 3, 0, 1, 0, []) from rfl) rfl
set_option maxRecDepth 100000 in
theorem s_X5_claims_34 {d : Nat} {l0 l1 : AV} {st : List AV} {a : Int} {σ : Sg} {Q : AV → Sg → Prop}  : Rn d m_X5_claims 34 [l0, l1] (vI a :: st) σ Q ↔ Rn d m_X5_claims (swt [(0, 60), (1, 68)] 84 (w32 a)) [l0, l1] st σ Q := q24 (show fnd (pgm m_X5_claims) 34 = some (60, 24, 0, 1, 84, [(0, 60), (1, 68)]) from rfl)
set_option maxRecDepth 100000 in
theorem s_X5_claims_60 {d : Nat} {l1 : AV} {st : List AV} {o : Nat} {σ : Sg} {Q : AV → Sg → Prop} (ho : o ≠ 0) : Rn d m_X5_claims 60 [vR o, l1] st σ Q ↔ Rn d m_X5_claims 61 [vR o, l1] (vR o :: st) σ Q := q5 (show fnd (pgm m_X5_claims) 60 = some (61, 5, 0, 0, 0, []) from rfl) rfl ho
set_option maxRecDepth 100000 in
theorem s_X5_claims_61 {d : Nat} {l0 l1 : AV} {st : List AV} {o : Nat} {σ : Sg} {Q : AV → Sg → Prop} (hk : kn σ o = (0, 5)) : Rn d m_X5_claims 61 [l0, l1] (vR o :: st) σ Q ↔ Rn d m_X5_claims 64 [l0, l1] (vR (tp o 12) :: st) σ Q := q33 (show fnd (pgm m_X5_claims) 61 = some (64, 33, 69, 5, 12, []) from rfl) hk
set_option maxRecDepth 100000 in
theorem s_X5_claims_64 {d : Nat} {l0 l1 : AV} {st : List AV} {o : Nat} {σ : Sg} {Q : AV → Sg → Prop} (hk : kn σ o = (0, 1)) : Rn d m_X5_claims 64 [l0, l1] (vR o :: st) σ Q ↔ Rn d m_X5_claims 67 [l0, l1] (vI (σ o 0) :: st) σ Q := q33 (show fnd (pgm m_X5_claims) 64 = some (67, 33, 239, 1, 0, []) from rfl) hk
set_option maxRecDepth 100000 in
theorem s_X5_claims_67 {d : Nat} {l0 l1 : AV} {x : Int} {σ : Sg} {Q : AV → Sg → Prop}  : Rn d m_X5_claims 67 [l0, l1] [vI x] σ Q ↔ Q (vI x) σ := q37_1 (st := []) (show fnd (pgm m_X5_claims) 67 = some (68, 37, 0, 1, 0, []) from rfl)
set_option maxRecDepth 100000 in
theorem s_X5_claims_68 {d : Nat} {l1 : AV} {st : List AV} {o : Nat} {σ : Sg} {Q : AV → Sg → Prop} (ho : o ≠ 0) : Rn d m_X5_claims 68 [vR o, l1] st σ Q ↔ Rn d m_X5_claims 69 [vR o, l1] (vR o :: st) σ Q := q5 (show fnd (pgm m_X5_claims) 68 = some (69, 5, 0, 0, 0, []) from rfl) rfl ho
set_option maxRecDepth 100000 in
theorem s_X5_claims_69 {d : Nat} {l0 l1 : AV} {st : List AV} {o : Nat} {σ : Sg} {Q : AV → Sg → Prop} (hk : kn σ o = (0, 5)) : Rn d m_X5_claims 69 [l0, l1] (vR o :: st) σ Q ↔ Rn d m_X5_claims 72 [l0, l1] (vR (tp o 12) :: st) σ Q := q33 (show fnd (pgm m_X5_claims) 69 = some (72, 33, 69, 5, 12, []) from rfl) hk
set_option maxRecDepth 100000 in
theorem s_X5_claims_72 {d : Nat} {l0 l1 : AV} {st : List AV} {o : Nat} {σ : Sg} {Q : AV → Sg → Prop} (hk : kn σ o = (0, 1)) : Rn d m_X5_claims 72 [l0, l1] (vR o :: st) σ Q ↔ Rn d m_X5_claims 75 [l0, l1] (vI (σ o 0) :: st) σ Q := q33 (show fnd (pgm m_X5_claims) 72 = some (75, 33, 239, 1, 0, []) from rfl) hk
set_option maxRecDepth 100000 in
theorem s_X5_claims_75 {d : Nat} {l1 : AV} {st : List AV} {o : Nat} {σ : Sg} {Q : AV → Sg → Prop} (ho : o ≠ 0) : Rn d m_X5_claims 75 [vR o, l1] st σ Q ↔ Rn d m_X5_claims 76 [vR o, l1] (vR o :: st) σ Q := q5 (show fnd (pgm m_X5_claims) 75 = some (76, 5, 0, 0, 0, []) from rfl) rfl ho
set_option maxRecDepth 100000 in
theorem s_X5_claims_76 {d : Nat} {l0 l1 : AV} {st : List AV} {o : Nat} {σ : Sg} {Q : AV → Sg → Prop} (hk : kn σ o = (0, 5)) : Rn d m_X5_claims 76 [l0, l1] (vR o :: st) σ Q ↔ Rn d m_X5_claims 79 [l0, l1] (vR (tp o 12) :: st) σ Q := q33 (show fnd (pgm m_X5_claims) 76 = some (79, 33, 69, 5, 12, []) from rfl) hk
set_option maxRecDepth 100000 in
theorem s_X5_claims_79 {d : Nat} {l0 l1 : AV} {st : List AV} {o : Nat} {σ : Sg} {Q : AV → Sg → Prop} (hk : kn σ o = (0, 1)) : Rn d m_X5_claims 79 [l0, l1] (vR o :: st) σ Q ↔ Rn d m_X5_claims 82 [l0, l1] (vI (σ o 1) :: st) σ Q := q33 (show fnd (pgm m_X5_claims) 79 = some (82, 33, 242, 1, 1, []) from rfl) hk
set_option maxRecDepth 100000 in
theorem s_X5_claims_82 {d : Nat} {l0 l1 : AV} {st : List AV} {a b : Int} {σ : Sg} {Q : AV → Sg → Prop}  : Rn d m_X5_claims 82 [l0, l1] (vI b :: vI a :: st) σ Q ↔ Rn d m_X5_claims 83 [l0, l1] (vI (a - b) :: st) σ Q := q10_1 (show fnd (pgm m_X5_claims) 82 = some (83, 10, 0, 1, 0, []) from rfl)
set_option maxRecDepth 100000 in
theorem s_X5_claims_83 {d : Nat} {l0 l1 : AV} {x : Int} {σ : Sg} {Q : AV → Sg → Prop}  : Rn d m_X5_claims 83 [l0, l1] [vI x] σ Q ↔ Q (vI x) σ := q37_1 (st := []) (show fnd (pgm m_X5_claims) 83 = some (84, 37, 0, 1, 0, []) from rfl)
set_option maxRecDepth 100000 in
theorem s_X5_claims_84 {d : Nat} {l1 : AV} {st : List AV} {o : Nat} {σ : Sg} {Q : AV → Sg → Prop} (ho : o ≠ 0) : Rn d m_X5_claims 84 [vR o, l1] st σ Q ↔ Rn d m_X5_claims 85 [vR o, l1] (vR o :: st) σ Q := q5 (show fnd (pgm m_X5_claims) 84 = some (85, 5, 0, 0, 0, []) from rfl) rfl ho
set_option maxRecDepth 100000 in
theorem s_X5_claims_85 {d : Nat} {l0 l1 : AV} {st : List AV} {o : Nat} {σ : Sg} {Q : AV → Sg → Prop} (hk : kn σ o = (0, 5)) : Rn d m_X5_claims 85 [l0, l1] (vR o :: st) σ Q ↔ Rn d m_X5_claims 88 [l0, l1] (vR (tp o 12) :: st) σ Q := q33 (show fnd (pgm m_X5_claims) 85 = some (88, 33, 69, 5, 12, []) from rfl) hk
set_option maxRecDepth 100000 in
theorem s_X5_claims_88 {d : Nat} {l0 l1 : AV} {st : List AV} {o : Nat} {σ : Sg} {Q : AV → Sg → Prop} (hk : kn σ o = (0, 1)) : Rn d m_X5_claims 88 [l0, l1] (vR o :: st) σ Q ↔ Rn d m_X5_claims 91 [l0, l1] (vI (σ o 1) :: st) σ Q := q33 (show fnd (pgm m_X5_claims) 88 = some (91, 33, 242, 1, 1, []) from rfl) hk
set_option maxRecDepth 100000 in
theorem s_X5_claims_91 {d : Nat} {l0 l1 : AV} {x : Int} {σ : Sg} {Q : AV → Sg → Prop}  : Rn d m_X5_claims 91 [l0, l1] [vI x] σ Q ↔ Q (vI x) σ := q37_1 (st := []) (show fnd (pgm m_X5_claims) 91 = some (92, 37, 0, 1, 0, []) from rfl)
set_option maxRecDepth 100000 in
theorem en_X5_owed {d : Nat} {o : Nat} {a0 : Int} {a1 : Int} {σ σ0 : Sg} {r0 : AV} (h : Rn d m_X5_owed 0 [vR o, vI a0, vI a1] [] σ (fun r σ1 => r = r0 ∧ σ1 = σ0)) : Ev (d + 1) m_X5_owed [vR o, vI a0, vI a1] σ r0 σ0 := Ev_is (Nat.le_of_ble_eq_true rfl) h
set_option maxRecDepth 100000 in
theorem eo_X5_owed {d : Nat} {o : Nat} {a0 : Int} {a1 : Int} {σ : Sg} {Q : AV → Sg → Prop} (h : Rn d m_X5_owed 0 [vR o, vI a0, vI a1] [] σ Q) : ∃ r σ1, Ev (d + 1) m_X5_owed [vR o, vI a0, vI a1] σ r σ1 ∧ Q r σ1 := Ev_of (Nat.le_of_ble_eq_true rfl) h
set_option maxRecDepth 100000 in
theorem s_X5_owed_0 {d : Nat} {l0 l2 : AV} {st : List AV} {x : Int} {σ : Sg} {Q : AV → Sg → Prop}  : Rn d m_X5_owed 0 [l0, vI x, l2] st σ Q ↔ Rn d m_X5_owed 1 [l0, vI x, l2] (vI x :: st) σ Q := q3 (show fnd (pgm m_X5_owed) 0 = some (1, 3, 0, 1, 0, []) from rfl) rfl
set_option maxRecDepth 100000 in
theorem s_X5_owed_1 {d : Nat} {l0 l1 l2 : AV} {st : List AV} {σ : Sg} {Q : AV → Sg → Prop}  : Rn d m_X5_owed 1 [l0, l1, l2] st σ Q ↔ Rn d m_X5_owed 3 [l0, l1, l2] (vI 6 :: st) σ Q := q0 (show fnd (pgm m_X5_owed) 1 = some (3, 0, 6, 1, 0, []) from rfl)
set_option maxRecDepth 100000 in
theorem s_X5_owed_3 {d : Nat} {l0 l1 l2 : AV} {st : List AV}  {a0 : Int} {a1 : Int} {σ : Sg} {Q : AV → Sg → Prop} (h4 : st.length ≤ 4) : Rn d m_X5_owed 3 [l0, l1, l2] (vI a1 :: vI a0 :: st) σ Q ↔ ∃ r σ1, Ev d m_X5_within [vI a0, vI a1] σ r σ1 ∧ Rn d m_X5_owed 6 [l0, l1, l2] (psh r st) σ1 Q := q35 (show fnd (pgm m_X5_owed) 3 = some (6, 35, 80, 89, 2, []) from rfl) ⟨⟨by simp, by simpa using h4⟩, rfl⟩
set_option maxRecDepth 100000 in
theorem s_X5_owed_6 {d : Nat} {l0 l1 l2 : AV} {st : List AV} {a : Int} {σ : Sg} {Q : AV → Sg → Prop}  : Rn d m_X5_owed 6 [l0, l1, l2] (vI a :: st) σ Q ↔ if w32 a = 0 then Rn d m_X5_owed 23 [l0, l1, l2] st σ Q else Rn d m_X5_owed 9 [l0, l1, l2] st σ Q := q19_0 (show fnd (pgm m_X5_owed) 6 = some (9, 19, 0, 0, 23, []) from rfl)
set_option maxRecDepth 100000 in
theorem s_X5_owed_9 {d : Nat} {l0 l1 : AV} {st : List AV} {x : Int} {σ : Sg} {Q : AV → Sg → Prop}  : Rn d m_X5_owed 9 [l0, l1, vI x] st σ Q ↔ Rn d m_X5_owed 10 [l0, l1, vI x] (vI x :: st) σ Q := q3 (show fnd (pgm m_X5_owed) 9 = some (10, 3, 0, 2, 0, []) from rfl) rfl
set_option maxRecDepth 100000 in
theorem s_X5_owed_10 {d : Nat} {l0 l1 l2 : AV} {st : List AV} {σ : Sg} {Q : AV → Sg → Prop}  : Rn d m_X5_owed 10 [l0, l1, l2] st σ Q ↔ Rn d m_X5_owed 12 [l0, l1, l2] (vI 6 :: st) σ Q := q0 (show fnd (pgm m_X5_owed) 10 = some (12, 0, 6, 1, 0, []) from rfl)
set_option maxRecDepth 100000 in
theorem s_X5_owed_12 {d : Nat} {l0 l1 l2 : AV} {st : List AV}  {a0 : Int} {a1 : Int} {σ : Sg} {Q : AV → Sg → Prop} (h4 : st.length ≤ 4) : Rn d m_X5_owed 12 [l0, l1, l2] (vI a1 :: vI a0 :: st) σ Q ↔ ∃ r σ1, Ev d m_X5_within [vI a0, vI a1] σ r σ1 ∧ Rn d m_X5_owed 15 [l0, l1, l2] (psh r st) σ1 Q := q35 (show fnd (pgm m_X5_owed) 12 = some (15, 35, 80, 89, 2, []) from rfl) ⟨⟨by simp, by simpa using h4⟩, rfl⟩
set_option maxRecDepth 100000 in
theorem s_X5_owed_15 {d : Nat} {l0 l1 l2 : AV} {st : List AV} {a : Int} {σ : Sg} {Q : AV → Sg → Prop}  : Rn d m_X5_owed 15 [l0, l1, l2] (vI a :: st) σ Q ↔ if w32 a = 0 then Rn d m_X5_owed 23 [l0, l1, l2] st σ Q else Rn d m_X5_owed 18 [l0, l1, l2] st σ Q := q19_0 (show fnd (pgm m_X5_owed) 15 = some (18, 19, 0, 0, 23, []) from rfl)
set_option maxRecDepth 100000 in
theorem s_X5_owed_18 {d : Nat} {l0 l2 : AV} {st : List AV} {x : Int} {σ : Sg} {Q : AV → Sg → Prop}  : Rn d m_X5_owed 18 [l0, vI x, l2] st σ Q ↔ Rn d m_X5_owed 19 [l0, vI x, l2] (vI x :: st) σ Q := q3 (show fnd (pgm m_X5_owed) 18 = some (19, 3, 0, 1, 0, []) from rfl) rfl
set_option maxRecDepth 100000 in
theorem s_X5_owed_19 {d : Nat} {l0 l1 : AV} {st : List AV} {x : Int} {σ : Sg} {Q : AV → Sg → Prop}  : Rn d m_X5_owed 19 [l0, l1, vI x] st σ Q ↔ Rn d m_X5_owed 20 [l0, l1, vI x] (vI x :: st) σ Q := q3 (show fnd (pgm m_X5_owed) 19 = some (20, 3, 0, 2, 0, []) from rfl) rfl
set_option maxRecDepth 100000 in
theorem s_X5_owed_20 {d : Nat} {l0 l1 l2 : AV} {st : List AV} {a b : Int} {σ : Sg} {Q : AV → Sg → Prop}  : Rn d m_X5_owed 20 [l0, l1, l2] (vI b :: vI a :: st) σ Q ↔ if ¬ w32 a = w32 b then Rn d m_X5_owed 32 [l0, l1, l2] st σ Q else Rn d m_X5_owed 23 [l0, l1, l2] st σ Q := q20_1 (show fnd (pgm m_X5_owed) 20 = some (23, 20, 0, 1, 32, []) from rfl)
set_option maxRecDepth 100000 in
theorem s_X5_owed_23 {d : Nat} {l1 l2 : AV} {st : List AV} {o : Nat} {σ : Sg} {Q : AV → Sg → Prop} (ho : o ≠ 0) : Rn d m_X5_owed 23 [vR o, l1, l2] st σ Q ↔ Rn d m_X5_owed 24 [vR o, l1, l2] (vR o :: st) σ Q := q5 (show fnd (pgm m_X5_owed) 23 = some (24, 5, 0, 0, 0, []) from rfl) rfl ho
set_option maxRecDepth 100000 in
theorem s_X5_owed_24 {d : Nat} {l0 l1 l2 : AV} {st : List AV} {σ : Sg} {Q : AV → Sg → Prop}  : Rn d m_X5_owed 24 [l0, l1, l2] st σ Q ↔ Rn d m_X5_owed 26 [l0, l1, l2] (vI (-2) :: st) σ Q := q0 (show fnd (pgm m_X5_owed) 24 = some (26, 0, (-2), 1, 0, []) from rfl)
set_option maxRecDepth 100000 in
theorem s_X5_owed_26 {d : Nat} {l0 l1 l2 : AV} {st : List AV} {σ : Sg} {Q : AV → Sg → Prop}  : Rn d m_X5_owed 26 [l0, l1, l2] st σ Q ↔ Rn d m_X5_owed 28 [l0, l1, l2] (vI (-1000000) :: st) σ Q := q0 (show fnd (pgm m_X5_owed) 26 = some (28, 0, (-1000000), 3, 245, []) from rfl)
set_option maxRecDepth 100000 in
theorem s_X5_owed_28 {d : Nat} {l0 l1 l2 : AV} {st : List AV} {o : Nat} {a0 : Int} {a1 : Int} {σ : Sg} {Q : AV → Sg → Prop} (h4 : st.length ≤ 4) (hk : kn σ o = (0, 5)) : Rn d m_X5_owed 28 [l0, l1, l2] (vI a1 :: vI a0 :: vR o :: st) σ Q ↔ ∃ r σ1, Ev d m_X5_refuse [vR o, vI a0, vI a1] σ r σ1 ∧ Rn d m_X5_owed 31 [l0, l1, l2] (psh r st) σ1 Q := q35 (show fnd (pgm m_X5_owed) 28 = some (31, 35, 84, 92, 3, []) from rfl) ⟨⟨by simp, by simpa using h4⟩, (by simp only [List.take, List.reverse, List.reverseAux, rcv]; rw [if_neg (by decide +kernel)]; exact decide_eq_true hk)⟩
set_option maxRecDepth 100000 in
theorem s_X5_owed_31 {d : Nat} {l0 l1 l2 : AV} {x : Int} {σ : Sg} {Q : AV → Sg → Prop}  : Rn d m_X5_owed 31 [l0, l1, l2] [vI x] σ Q ↔ Q (vI x) σ := q37_1 (st := []) (show fnd (pgm m_X5_owed) 31 = some (32, 37, 0, 1, 0, []) from rfl)
set_option maxRecDepth 100000 in
theorem s_X5_owed_32 {d : Nat} {l1 l2 : AV} {st : List AV} {o : Nat} {σ : Sg} {Q : AV → Sg → Prop} (ho : o ≠ 0) : Rn d m_X5_owed 32 [vR o, l1, l2] st σ Q ↔ Rn d m_X5_owed 33 [vR o, l1, l2] (vR o :: st) σ Q := q5 (show fnd (pgm m_X5_owed) 32 = some (33, 5, 0, 0, 0, []) from rfl) rfl ho
set_option maxRecDepth 100000 in
theorem s_X5_owed_33 {d : Nat} {l0 l1 l2 : AV} {st : List AV} {o : Nat} {σ : Sg} {Q : AV → Sg → Prop} (h4 : st.length ≤ 4) (hk : kn σ o = (0, 5)) : Rn d m_X5_owed 33 [l0, l1, l2] (vR o :: st) σ Q ↔ ∃ r σ1, Ev d m_X5_settle [vR o] σ r σ1 ∧ Rn d m_X5_owed 36 [l0, l1, l2] (psh r st) σ1 Q := q35 (show fnd (pgm m_X5_owed) 33 = some (36, 35, 235, 100, 1, []) from rfl) ⟨⟨by simp, by simpa using h4⟩, (by simp only [List.take, List.reverse, List.reverseAux, rcv]; rw [if_neg (by decide +kernel)]; exact decide_eq_true hk)⟩
set_option maxRecDepth 100000 in
theorem s_X5_owed_36 {d : Nat} {l0 l1 l2 : AV} {st : List AV} {a : Int} {σ : Sg} {Q : AV → Sg → Prop}  : Rn d m_X5_owed 36 [l0, l1, l2] (vI a :: st) σ Q ↔ if ¬ w32 a = 0 then Rn d m_X5_owed 48 [l0, l1, l2] st σ Q else Rn d m_X5_owed 39 [l0, l1, l2] st σ Q := q19_1 (show fnd (pgm m_X5_owed) 36 = some (39, 19, 0, 1, 48, []) from rfl)
set_option maxRecDepth 100000 in
theorem s_X5_owed_39 {d : Nat} {l1 l2 : AV} {st : List AV} {o : Nat} {σ : Sg} {Q : AV → Sg → Prop} (ho : o ≠ 0) : Rn d m_X5_owed 39 [vR o, l1, l2] st σ Q ↔ Rn d m_X5_owed 40 [vR o, l1, l2] (vR o :: st) σ Q := q5 (show fnd (pgm m_X5_owed) 39 = some (40, 5, 0, 0, 0, []) from rfl) rfl ho
set_option maxRecDepth 100000 in
theorem s_X5_owed_40 {d : Nat} {l0 l1 l2 : AV} {st : List AV} {σ : Sg} {Q : AV → Sg → Prop}  : Rn d m_X5_owed 40 [l0, l1, l2] st σ Q ↔ Rn d m_X5_owed 42 [l0, l1, l2] (vI (-3) :: st) σ Q := q0 (show fnd (pgm m_X5_owed) 40 = some (42, 0, (-3), 1, 0, []) from rfl)
set_option maxRecDepth 100000 in
theorem s_X5_owed_42 {d : Nat} {l0 l1 l2 : AV} {st : List AV} {σ : Sg} {Q : AV → Sg → Prop}  : Rn d m_X5_owed 42 [l0, l1, l2] st σ Q ↔ Rn d m_X5_owed 44 [l0, l1, l2] (vI (-2000000) :: st) σ Q := q0 (show fnd (pgm m_X5_owed) 42 = some (44, 0, (-2000000), 3, 246, []) from rfl)
set_option maxRecDepth 100000 in
theorem s_X5_owed_44 {d : Nat} {l0 l1 l2 : AV} {st : List AV} {o : Nat} {a0 : Int} {a1 : Int} {σ : Sg} {Q : AV → Sg → Prop} (h4 : st.length ≤ 4) (hk : kn σ o = (0, 5)) : Rn d m_X5_owed 44 [l0, l1, l2] (vI a1 :: vI a0 :: vR o :: st) σ Q ↔ ∃ r σ1, Ev d m_X5_refuse [vR o, vI a0, vI a1] σ r σ1 ∧ Rn d m_X5_owed 47 [l0, l1, l2] (psh r st) σ1 Q := q35 (show fnd (pgm m_X5_owed) 44 = some (47, 35, 84, 92, 3, []) from rfl) ⟨⟨by simp, by simpa using h4⟩, (by simp only [List.take, List.reverse, List.reverseAux, rcv]; rw [if_neg (by decide +kernel)]; exact decide_eq_true hk)⟩
set_option maxRecDepth 100000 in
theorem s_X5_owed_47 {d : Nat} {l0 l1 l2 : AV} {x : Int} {σ : Sg} {Q : AV → Sg → Prop}  : Rn d m_X5_owed 47 [l0, l1, l2] [vI x] σ Q ↔ Q (vI x) σ := q37_1 (st := []) (show fnd (pgm m_X5_owed) 47 = some (48, 37, 0, 1, 0, []) from rfl)
set_option maxRecDepth 100000 in
theorem s_X5_owed_48 {d : Nat} {l1 l2 : AV} {st : List AV} {o : Nat} {σ : Sg} {Q : AV → Sg → Prop} (ho : o ≠ 0) : Rn d m_X5_owed 48 [vR o, l1, l2] st σ Q ↔ Rn d m_X5_owed 49 [vR o, l1, l2] (vR o :: st) σ Q := q5 (show fnd (pgm m_X5_owed) 48 = some (49, 5, 0, 0, 0, []) from rfl) rfl ho
set_option maxRecDepth 100000 in
theorem s_X5_owed_49 {d : Nat} {l0 l1 l2 : AV} {st : List AV} {o : Nat} {σ : Sg} {Q : AV → Sg → Prop} (hk : kn σ o = (0, 5)) : Rn d m_X5_owed 49 [l0, l1, l2] (vR o :: st) σ Q ↔ Rn d m_X5_owed 52 [l0, l1, l2] (vR (tp o 12) :: st) σ Q := q33 (show fnd (pgm m_X5_owed) 49 = some (52, 33, 69, 5, 12, []) from rfl) hk
set_option maxRecDepth 100000 in
theorem s_X5_owed_52 {d : Nat} {l0 l2 : AV} {st : List AV} {x : Int} {σ : Sg} {Q : AV → Sg → Prop}  : Rn d m_X5_owed 52 [l0, vI x, l2] st σ Q ↔ Rn d m_X5_owed 53 [l0, vI x, l2] (vI x :: st) σ Q := q3 (show fnd (pgm m_X5_owed) 52 = some (53, 3, 0, 1, 0, []) from rfl) rfl
set_option maxRecDepth 100000 in
theorem s_X5_owed_53 {d : Nat} {l0 l1 : AV} {st : List AV} {x : Int} {σ : Sg} {Q : AV → Sg → Prop}  : Rn d m_X5_owed 53 [l0, l1, vI x] st σ Q ↔ Rn d m_X5_owed 54 [l0, l1, vI x] (vI x :: st) σ Q := q3 (show fnd (pgm m_X5_owed) 53 = some (54, 3, 0, 2, 0, []) from rfl) rfl
set_option maxRecDepth 100000 in
theorem s_X5_owed_54 {d : Nat} {l0 l1 l2 : AV} {st : List AV} {o : Nat} {a0 : Int} {a1 : Int} {σ : Sg} {Q : AV → Sg → Prop} (h4 : st.length ≤ 4) (hk : kn σ o = (0, 1)) : Rn d m_X5_owed 54 [l0, l1, l2] (vI a1 :: vI a0 :: vR o :: st) σ Q ↔ ∃ r σ1, Ev d m_X1_debt [vR o, vI a0, vI a1] σ r σ1 ∧ Rn d m_X5_owed 57 [l0, l1, l2] (psh r st) σ1 Q := q35 (show fnd (pgm m_X5_owed) 54 = some (57, 35, 247, 16, 3, []) from rfl) ⟨⟨by simp, by simpa using h4⟩, (by simp only [List.take, List.reverse, List.reverseAux, rcv]; rw [if_neg (by decide +kernel)]; exact decide_eq_true hk)⟩
set_option maxRecDepth 100000 in
theorem s_X5_owed_57 {d : Nat} {l0 l1 l2 : AV} {x : Int} {σ : Sg} {Q : AV → Sg → Prop}  : Rn d m_X5_owed 57 [l0, l1, l2] [vI x] σ Q ↔ Q (vI x) σ := q37_1 (st := []) (show fnd (pgm m_X5_owed) 57 = some (58, 37, 0, 1, 0, []) from rfl)
set_option maxRecDepth 100000 in
theorem en_X5_net {d : Nat} {o : Nat} {a0 : Int} {σ σ0 : Sg} {r0 : AV} (h : Rn d m_X5_net 0 [vR o, vI a0] [] σ (fun r σ1 => r = r0 ∧ σ1 = σ0)) : Ev (d + 1) m_X5_net [vR o, vI a0] σ r0 σ0 := Ev_is (Nat.le_of_ble_eq_true rfl) h
set_option maxRecDepth 100000 in
theorem eo_X5_net {d : Nat} {o : Nat} {a0 : Int} {σ : Sg} {Q : AV → Sg → Prop} (h : Rn d m_X5_net 0 [vR o, vI a0] [] σ Q) : ∃ r σ1, Ev (d + 1) m_X5_net [vR o, vI a0] σ r σ1 ∧ Q r σ1 := Ev_of (Nat.le_of_ble_eq_true rfl) h
set_option maxRecDepth 100000 in
theorem s_X5_net_0 {d : Nat} {l0 : AV} {st : List AV} {x : Int} {σ : Sg} {Q : AV → Sg → Prop}  : Rn d m_X5_net 0 [l0, vI x] st σ Q ↔ Rn d m_X5_net 1 [l0, vI x] (vI x :: st) σ Q := q3 (show fnd (pgm m_X5_net) 0 = some (1, 3, 0, 1, 0, []) from rfl) rfl
set_option maxRecDepth 100000 in
theorem s_X5_net_1 {d : Nat} {l0 l1 : AV} {st : List AV} {σ : Sg} {Q : AV → Sg → Prop}  : Rn d m_X5_net 1 [l0, l1] st σ Q ↔ Rn d m_X5_net 3 [l0, l1] (vI 6 :: st) σ Q := q0 (show fnd (pgm m_X5_net) 1 = some (3, 0, 6, 1, 0, []) from rfl)
set_option maxRecDepth 100000 in
theorem s_X5_net_3 {d : Nat} {l0 l1 : AV} {st : List AV}  {a0 : Int} {a1 : Int} {σ : Sg} {Q : AV → Sg → Prop} (h4 : st.length ≤ 4) : Rn d m_X5_net 3 [l0, l1] (vI a1 :: vI a0 :: st) σ Q ↔ ∃ r σ1, Ev d m_X5_within [vI a0, vI a1] σ r σ1 ∧ Rn d m_X5_net 6 [l0, l1] (psh r st) σ1 Q := q35 (show fnd (pgm m_X5_net) 3 = some (6, 35, 80, 89, 2, []) from rfl) ⟨⟨by simp, by simpa using h4⟩, rfl⟩
set_option maxRecDepth 100000 in
theorem s_X5_net_6 {d : Nat} {l0 l1 : AV} {st : List AV} {a : Int} {σ : Sg} {Q : AV → Sg → Prop}  : Rn d m_X5_net 6 [l0, l1] (vI a :: st) σ Q ↔ if ¬ w32 a = 0 then Rn d m_X5_net 18 [l0, l1] st σ Q else Rn d m_X5_net 9 [l0, l1] st σ Q := q19_1 (show fnd (pgm m_X5_net) 6 = some (9, 19, 0, 1, 18, []) from rfl)
set_option maxRecDepth 100000 in
theorem s_X5_net_9 {d : Nat} {l1 : AV} {st : List AV} {o : Nat} {σ : Sg} {Q : AV → Sg → Prop} (ho : o ≠ 0) : Rn d m_X5_net 9 [vR o, l1] st σ Q ↔ Rn d m_X5_net 10 [vR o, l1] (vR o :: st) σ Q := q5 (show fnd (pgm m_X5_net) 9 = some (10, 5, 0, 0, 0, []) from rfl) rfl ho
set_option maxRecDepth 100000 in
theorem s_X5_net_10 {d : Nat} {l0 l1 : AV} {st : List AV} {σ : Sg} {Q : AV → Sg → Prop}  : Rn d m_X5_net 10 [l0, l1] st σ Q ↔ Rn d m_X5_net 12 [l0, l1] (vI (-2) :: st) σ Q := q0 (show fnd (pgm m_X5_net) 10 = some (12, 0, (-2), 1, 0, []) from rfl)
set_option maxRecDepth 100000 in
theorem s_X5_net_12 {d : Nat} {l0 l1 : AV} {st : List AV} {σ : Sg} {Q : AV → Sg → Prop}  : Rn d m_X5_net 12 [l0, l1] st σ Q ↔ Rn d m_X5_net 14 [l0, l1] (vI (-1000000) :: st) σ Q := q0 (show fnd (pgm m_X5_net) 12 = some (14, 0, (-1000000), 3, 245, []) from rfl)
set_option maxRecDepth 100000 in
theorem s_X5_net_14 {d : Nat} {l0 l1 : AV} {st : List AV} {o : Nat} {a0 : Int} {a1 : Int} {σ : Sg} {Q : AV → Sg → Prop} (h4 : st.length ≤ 4) (hk : kn σ o = (0, 5)) : Rn d m_X5_net 14 [l0, l1] (vI a1 :: vI a0 :: vR o :: st) σ Q ↔ ∃ r σ1, Ev d m_X5_refuse [vR o, vI a0, vI a1] σ r σ1 ∧ Rn d m_X5_net 17 [l0, l1] (psh r st) σ1 Q := q35 (show fnd (pgm m_X5_net) 14 = some (17, 35, 84, 92, 3, []) from rfl) ⟨⟨by simp, by simpa using h4⟩, (by simp only [List.take, List.reverse, List.reverseAux, rcv]; rw [if_neg (by decide +kernel)]; exact decide_eq_true hk)⟩
set_option maxRecDepth 100000 in
theorem s_X5_net_17 {d : Nat} {l0 l1 : AV} {x : Int} {σ : Sg} {Q : AV → Sg → Prop}  : Rn d m_X5_net 17 [l0, l1] [vI x] σ Q ↔ Q (vI x) σ := q37_1 (st := []) (show fnd (pgm m_X5_net) 17 = some (18, 37, 0, 1, 0, []) from rfl)
set_option maxRecDepth 100000 in
theorem s_X5_net_18 {d : Nat} {l1 : AV} {st : List AV} {o : Nat} {σ : Sg} {Q : AV → Sg → Prop} (ho : o ≠ 0) : Rn d m_X5_net 18 [vR o, l1] st σ Q ↔ Rn d m_X5_net 19 [vR o, l1] (vR o :: st) σ Q := q5 (show fnd (pgm m_X5_net) 18 = some (19, 5, 0, 0, 0, []) from rfl) rfl ho
set_option maxRecDepth 100000 in
theorem s_X5_net_19 {d : Nat} {l0 l1 : AV} {st : List AV} {o : Nat} {σ : Sg} {Q : AV → Sg → Prop} (h4 : st.length ≤ 4) (hk : kn σ o = (0, 5)) : Rn d m_X5_net 19 [l0, l1] (vR o :: st) σ Q ↔ ∃ r σ1, Ev d m_X5_settle [vR o] σ r σ1 ∧ Rn d m_X5_net 22 [l0, l1] (psh r st) σ1 Q := q35 (show fnd (pgm m_X5_net) 19 = some (22, 35, 235, 100, 1, []) from rfl) ⟨⟨by simp, by simpa using h4⟩, (by simp only [List.take, List.reverse, List.reverseAux, rcv]; rw [if_neg (by decide +kernel)]; exact decide_eq_true hk)⟩
set_option maxRecDepth 100000 in
theorem s_X5_net_22 {d : Nat} {l0 l1 : AV} {st : List AV} {a : Int} {σ : Sg} {Q : AV → Sg → Prop}  : Rn d m_X5_net 22 [l0, l1] (vI a :: st) σ Q ↔ if ¬ w32 a = 0 then Rn d m_X5_net 34 [l0, l1] st σ Q else Rn d m_X5_net 25 [l0, l1] st σ Q := q19_1 (show fnd (pgm m_X5_net) 22 = some (25, 19, 0, 1, 34, []) from rfl)
set_option maxRecDepth 100000 in
theorem s_X5_net_25 {d : Nat} {l1 : AV} {st : List AV} {o : Nat} {σ : Sg} {Q : AV → Sg → Prop} (ho : o ≠ 0) : Rn d m_X5_net 25 [vR o, l1] st σ Q ↔ Rn d m_X5_net 26 [vR o, l1] (vR o :: st) σ Q := q5 (show fnd (pgm m_X5_net) 25 = some (26, 5, 0, 0, 0, []) from rfl) rfl ho
set_option maxRecDepth 100000 in
theorem s_X5_net_26 {d : Nat} {l0 l1 : AV} {st : List AV} {σ : Sg} {Q : AV → Sg → Prop}  : Rn d m_X5_net 26 [l0, l1] st σ Q ↔ Rn d m_X5_net 28 [l0, l1] (vI (-3) :: st) σ Q := q0 (show fnd (pgm m_X5_net) 26 = some (28, 0, (-3), 1, 0, []) from rfl)
set_option maxRecDepth 100000 in
theorem s_X5_net_28 {d : Nat} {l0 l1 : AV} {st : List AV} {σ : Sg} {Q : AV → Sg → Prop}  : Rn d m_X5_net 28 [l0, l1] st σ Q ↔ Rn d m_X5_net 30 [l0, l1] (vI (-2000000) :: st) σ Q := q0 (show fnd (pgm m_X5_net) 28 = some (30, 0, (-2000000), 3, 246, []) from rfl)
set_option maxRecDepth 100000 in
theorem s_X5_net_30 {d : Nat} {l0 l1 : AV} {st : List AV} {o : Nat} {a0 : Int} {a1 : Int} {σ : Sg} {Q : AV → Sg → Prop} (h4 : st.length ≤ 4) (hk : kn σ o = (0, 5)) : Rn d m_X5_net 30 [l0, l1] (vI a1 :: vI a0 :: vR o :: st) σ Q ↔ ∃ r σ1, Ev d m_X5_refuse [vR o, vI a0, vI a1] σ r σ1 ∧ Rn d m_X5_net 33 [l0, l1] (psh r st) σ1 Q := q35 (show fnd (pgm m_X5_net) 30 = some (33, 35, 84, 92, 3, []) from rfl) ⟨⟨by simp, by simpa using h4⟩, (by simp only [List.take, List.reverse, List.reverseAux, rcv]; rw [if_neg (by decide +kernel)]; exact decide_eq_true hk)⟩
set_option maxRecDepth 100000 in
theorem s_X5_net_33 {d : Nat} {l0 l1 : AV} {x : Int} {σ : Sg} {Q : AV → Sg → Prop}  : Rn d m_X5_net 33 [l0, l1] [vI x] σ Q ↔ Q (vI x) σ := q37_1 (st := []) (show fnd (pgm m_X5_net) 33 = some (34, 37, 0, 1, 0, []) from rfl)
set_option maxRecDepth 100000 in
theorem s_X5_net_34 {d : Nat} {l1 : AV} {st : List AV} {o : Nat} {σ : Sg} {Q : AV → Sg → Prop} (ho : o ≠ 0) : Rn d m_X5_net 34 [vR o, l1] st σ Q ↔ Rn d m_X5_net 35 [vR o, l1] (vR o :: st) σ Q := q5 (show fnd (pgm m_X5_net) 34 = some (35, 5, 0, 0, 0, []) from rfl) rfl ho
set_option maxRecDepth 100000 in
theorem s_X5_net_35 {d : Nat} {l0 l1 : AV} {st : List AV} {o : Nat} {σ : Sg} {Q : AV → Sg → Prop} (hk : kn σ o = (0, 5)) : Rn d m_X5_net 35 [l0, l1] (vR o :: st) σ Q ↔ Rn d m_X5_net 38 [l0, l1] (vR (tp o 12) :: st) σ Q := q33 (show fnd (pgm m_X5_net) 35 = some (38, 33, 69, 5, 12, []) from rfl) hk
set_option maxRecDepth 100000 in
theorem s_X5_net_38 {d : Nat} {l0 : AV} {st : List AV} {x : Int} {σ : Sg} {Q : AV → Sg → Prop}  : Rn d m_X5_net 38 [l0, vI x] st σ Q ↔ Rn d m_X5_net 39 [l0, vI x] (vI x :: st) σ Q := q3 (show fnd (pgm m_X5_net) 38 = some (39, 3, 0, 1, 0, []) from rfl) rfl
set_option maxRecDepth 100000 in
theorem s_X5_net_39 {d : Nat} {l0 l1 : AV} {st : List AV} {o : Nat} {a0 : Int} {σ : Sg} {Q : AV → Sg → Prop} (h4 : st.length ≤ 4) (hk : kn σ o = (0, 1)) : Rn d m_X5_net 39 [l0, l1] (vI a0 :: vR o :: st) σ Q ↔ ∃ r σ1, Ev d m_X1_balance [vR o, vI a0] σ r σ1 ∧ Rn d m_X5_net 42 [l0, l1] (psh r st) σ1 Q := q35 (show fnd (pgm m_X5_net) 39 = some (42, 35, 250, 17, 2, []) from rfl) ⟨⟨by simp, by simpa using h4⟩, (by simp only [List.take, List.reverse, List.reverseAux, rcv]; rw [if_neg (by decide +kernel)]; exact decide_eq_true hk)⟩
set_option maxRecDepth 100000 in
theorem s_X5_net_42 {d : Nat} {l0 l1 : AV} {x : Int} {σ : Sg} {Q : AV → Sg → Prop}  : Rn d m_X5_net 42 [l0, l1] [vI x] σ Q ↔ Q (vI x) σ := q37_1 (st := []) (show fnd (pgm m_X5_net) 42 = some (43, 37, 0, 1, 0, []) from rfl)
set_option maxRecDepth 100000 in
theorem en_X5_fewest {d : Nat} {o : Nat} {σ σ0 : Sg} {r0 : AV} (h : Rn d m_X5_fewest 0 [vR o] [] σ (fun r σ1 => r = r0 ∧ σ1 = σ0)) : Ev (d + 1) m_X5_fewest [vR o] σ r0 σ0 := Ev_is (Nat.le_of_ble_eq_true rfl) h
set_option maxRecDepth 100000 in
theorem eo_X5_fewest {d : Nat} {o : Nat} {σ : Sg} {Q : AV → Sg → Prop} (h : Rn d m_X5_fewest 0 [vR o] [] σ Q) : ∃ r σ1, Ev (d + 1) m_X5_fewest [vR o] σ r σ1 ∧ Q r σ1 := Ev_of (Nat.le_of_ble_eq_true rfl) h
set_option maxRecDepth 100000 in
theorem s_X5_fewest_0 {d : Nat} {st : List AV} {o : Nat} {σ : Sg} {Q : AV → Sg → Prop} (ho : o ≠ 0) : Rn d m_X5_fewest 0 [vR o] st σ Q ↔ Rn d m_X5_fewest 1 [vR o] (vR o :: st) σ Q := q5 (show fnd (pgm m_X5_fewest) 0 = some (1, 5, 0, 0, 0, []) from rfl) rfl ho
set_option maxRecDepth 100000 in
theorem s_X5_fewest_1 {d : Nat} {l0 : AV} {st : List AV} {o : Nat} {σ : Sg} {Q : AV → Sg → Prop} (h4 : st.length ≤ 4) (hk : kn σ o = (0, 5)) : Rn d m_X5_fewest 1 [l0] (vR o :: st) σ Q ↔ ∃ r σ1, Ev d m_X5_settle [vR o] σ r σ1 ∧ Rn d m_X5_fewest 4 [l0] (psh r st) σ1 Q := q35 (show fnd (pgm m_X5_fewest) 1 = some (4, 35, 235, 100, 1, []) from rfl) ⟨⟨by simp, by simpa using h4⟩, (by simp only [List.take, List.reverse, List.reverseAux, rcv]; rw [if_neg (by decide +kernel)]; exact decide_eq_true hk)⟩
set_option maxRecDepth 100000 in
theorem s_X5_fewest_4 {d : Nat} {l0 : AV} {st : List AV} {a : Int} {σ : Sg} {Q : AV → Sg → Prop}  : Rn d m_X5_fewest 4 [l0] (vI a :: st) σ Q ↔ if ¬ w32 a = 0 then Rn d m_X5_fewest 16 [l0] st σ Q else Rn d m_X5_fewest 7 [l0] st σ Q := q19_1 (show fnd (pgm m_X5_fewest) 4 = some (7, 19, 0, 1, 16, []) from rfl)
set_option maxRecDepth 100000 in
theorem s_X5_fewest_7 {d : Nat} {st : List AV} {o : Nat} {σ : Sg} {Q : AV → Sg → Prop} (ho : o ≠ 0) : Rn d m_X5_fewest 7 [vR o] st σ Q ↔ Rn d m_X5_fewest 8 [vR o] (vR o :: st) σ Q := q5 (show fnd (pgm m_X5_fewest) 7 = some (8, 5, 0, 0, 0, []) from rfl) rfl ho
set_option maxRecDepth 100000 in
theorem s_X5_fewest_8 {d : Nat} {l0 : AV} {st : List AV} {σ : Sg} {Q : AV → Sg → Prop}  : Rn d m_X5_fewest 8 [l0] st σ Q ↔ Rn d m_X5_fewest 10 [l0] (vI (-3) :: st) σ Q := q0 (show fnd (pgm m_X5_fewest) 8 = some (10, 0, (-3), 1, 0, []) from rfl)
set_option maxRecDepth 100000 in
theorem s_X5_fewest_10 {d : Nat} {l0 : AV} {st : List AV} {σ : Sg} {Q : AV → Sg → Prop}  : Rn d m_X5_fewest 10 [l0] st σ Q ↔ Rn d m_X5_fewest 12 [l0] (vI (-3) :: st) σ Q := q0 (show fnd (pgm m_X5_fewest) 10 = some (12, 0, (-3), 1, 0, []) from rfl)
set_option maxRecDepth 100000 in
theorem s_X5_fewest_12 {d : Nat} {l0 : AV} {st : List AV} {o : Nat} {a0 : Int} {a1 : Int} {σ : Sg} {Q : AV → Sg → Prop} (h4 : st.length ≤ 4) (hk : kn σ o = (0, 5)) : Rn d m_X5_fewest 12 [l0] (vI a1 :: vI a0 :: vR o :: st) σ Q ↔ ∃ r σ1, Ev d m_X5_refuse [vR o, vI a0, vI a1] σ r σ1 ∧ Rn d m_X5_fewest 15 [l0] (psh r st) σ1 Q := q35 (show fnd (pgm m_X5_fewest) 12 = some (15, 35, 84, 92, 3, []) from rfl) ⟨⟨by simp, by simpa using h4⟩, (by simp only [List.take, List.reverse, List.reverseAux, rcv]; rw [if_neg (by decide +kernel)]; exact decide_eq_true hk)⟩
set_option maxRecDepth 100000 in
theorem s_X5_fewest_15 {d : Nat} {l0 : AV} {x : Int} {σ : Sg} {Q : AV → Sg → Prop}  : Rn d m_X5_fewest 15 [l0] [vI x] σ Q ↔ Q (vI x) σ := q37_1 (st := []) (show fnd (pgm m_X5_fewest) 15 = some (16, 37, 0, 1, 0, []) from rfl)
set_option maxRecDepth 100000 in
theorem s_X5_fewest_16 {d : Nat} {st : List AV} {o : Nat} {σ : Sg} {Q : AV → Sg → Prop} (ho : o ≠ 0) : Rn d m_X5_fewest 16 [vR o] st σ Q ↔ Rn d m_X5_fewest 17 [vR o] (vR o :: st) σ Q := q5 (show fnd (pgm m_X5_fewest) 16 = some (17, 5, 0, 0, 0, []) from rfl) rfl ho
set_option maxRecDepth 100000 in
theorem s_X5_fewest_17 {d : Nat} {l0 : AV} {st : List AV} {o : Nat} {σ : Sg} {Q : AV → Sg → Prop} (hk : kn σ o = (0, 5)) : Rn d m_X5_fewest 17 [l0] (vR o :: st) σ Q ↔ Rn d m_X5_fewest 20 [l0] (vR (tp o 12) :: st) σ Q := q33 (show fnd (pgm m_X5_fewest) 17 = some (20, 33, 69, 5, 12, []) from rfl) hk
set_option maxRecDepth 100000 in
theorem s_X5_fewest_20 {d : Nat} {l0 : AV} {st : List AV} {o : Nat} {σ : Sg} {Q : AV → Sg → Prop} (h4 : st.length ≤ 4) (hk : kn σ o = (0, 1)) : Rn d m_X5_fewest 20 [l0] (vR o :: st) σ Q ↔ ∃ r σ1, Ev d m_X1_fewestPayments [vR o] σ r σ1 ∧ Rn d m_X5_fewest 23 [l0] (psh r st) σ1 Q := q35 (show fnd (pgm m_X5_fewest) 20 = some (23, 35, 253, 18, 1, []) from rfl) ⟨⟨by simp, by simpa using h4⟩, (by simp only [List.take, List.reverse, List.reverseAux, rcv]; rw [if_neg (by decide +kernel)]; exact decide_eq_true hk)⟩
set_option maxRecDepth 100000 in
theorem s_X5_fewest_23 {d : Nat} {l0 : AV} {x : Int} {σ : Sg} {Q : AV → Sg → Prop}  : Rn d m_X5_fewest 23 [l0] [vI x] σ Q ↔ Q (vI x) σ := q37_1 (st := []) (show fnd (pgm m_X5_fewest) 23 = some (24, 37, 0, 1, 0, []) from rfl)
set_option maxRecDepth 100000 in
theorem en_X5_part {d : Nat} {o : Nat} {a0 : Int} {σ σ0 : Sg} {r0 : AV} (h : Rn d m_X5_part 0 [vR o, vI a0] [] σ (fun r σ1 => r = r0 ∧ σ1 = σ0)) : Ev (d + 1) m_X5_part [vR o, vI a0] σ r0 σ0 := Ev_is (Nat.le_of_ble_eq_true rfl) h
set_option maxRecDepth 100000 in
theorem eo_X5_part {d : Nat} {o : Nat} {a0 : Int} {σ : Sg} {Q : AV → Sg → Prop} (h : Rn d m_X5_part 0 [vR o, vI a0] [] σ Q) : ∃ r σ1, Ev (d + 1) m_X5_part [vR o, vI a0] σ r σ1 ∧ Q r σ1 := Ev_of (Nat.le_of_ble_eq_true rfl) h
set_option maxRecDepth 100000 in
theorem s_X5_part_0 {d : Nat} {l0 : AV} {st : List AV} {x : Int} {σ : Sg} {Q : AV → Sg → Prop}  : Rn d m_X5_part 0 [l0, vI x] st σ Q ↔ Rn d m_X5_part 1 [l0, vI x] (vI x :: st) σ Q := q3 (show fnd (pgm m_X5_part) 0 = some (1, 3, 0, 1, 0, []) from rfl) rfl
set_option maxRecDepth 100000 in
theorem s_X5_part_1 {d : Nat} {l0 l1 : AV} {st : List AV} {σ : Sg} {Q : AV → Sg → Prop}  : Rn d m_X5_part 1 [l0, l1] st σ Q ↔ Rn d m_X5_part 2 [l0, l1] (vI 2 :: st) σ Q := q0 (show fnd (pgm m_X5_part) 1 = some (2, 0, 2, 0, 0, []) from rfl)
set_option maxRecDepth 100000 in
theorem s_X5_part_2 {d : Nat} {l0 l1 : AV} {st : List AV}  {a0 : Int} {a1 : Int} {σ : Sg} {Q : AV → Sg → Prop} (h4 : st.length ≤ 4) : Rn d m_X5_part 2 [l0, l1] (vI a1 :: vI a0 :: st) σ Q ↔ ∃ r σ1, Ev d m_X5_within [vI a0, vI a1] σ r σ1 ∧ Rn d m_X5_part 5 [l0, l1] (psh r st) σ1 Q := q35 (show fnd (pgm m_X5_part) 2 = some (5, 35, 80, 89, 2, []) from rfl) ⟨⟨by simp, by simpa using h4⟩, rfl⟩
set_option maxRecDepth 100000 in
theorem s_X5_part_5 {d : Nat} {l0 l1 : AV} {st : List AV} {a : Int} {σ : Sg} {Q : AV → Sg → Prop}  : Rn d m_X5_part 5 [l0, l1] (vI a :: st) σ Q ↔ if ¬ w32 a = 0 then Rn d m_X5_part 18 [l0, l1] st σ Q else Rn d m_X5_part 8 [l0, l1] st σ Q := q19_1 (show fnd (pgm m_X5_part) 5 = some (8, 19, 0, 1, 18, []) from rfl)
set_option maxRecDepth 100000 in
theorem s_X5_part_8 {d : Nat} {l1 : AV} {st : List AV} {o : Nat} {σ : Sg} {Q : AV → Sg → Prop} (ho : o ≠ 0) : Rn d m_X5_part 8 [vR o, l1] st σ Q ↔ Rn d m_X5_part 9 [vR o, l1] (vR o :: st) σ Q := q5 (show fnd (pgm m_X5_part) 8 = some (9, 5, 0, 0, 0, []) from rfl) rfl ho
set_option maxRecDepth 100000 in
theorem s_X5_part_9 {d : Nat} {l0 l1 : AV} {st : List AV} {σ : Sg} {Q : AV → Sg → Prop}  : Rn d m_X5_part 9 [l0, l1] st σ Q ↔ Rn d m_X5_part 11 [l0, l1] (vI (-2) :: st) σ Q := q0 (show fnd (pgm m_X5_part) 9 = some (11, 0, (-2), 1, 0, []) from rfl)
set_option maxRecDepth 100000 in
theorem s_X5_part_11 {d : Nat} {l0 l1 : AV} {st : List AV} {σ : Sg} {Q : AV → Sg → Prop}  : Rn d m_X5_part 11 [l0, l1] st σ Q ↔ Rn d m_X5_part 13 [l0, l1] (vI (-2) :: st) σ Q := q0 (show fnd (pgm m_X5_part) 11 = some (13, 0, (-2), 1, 0, []) from rfl)
set_option maxRecDepth 100000 in
theorem s_X5_part_13 {d : Nat} {l0 l1 : AV} {st : List AV} {o : Nat} {a0 : Int} {a1 : Int} {σ : Sg} {Q : AV → Sg → Prop} (h4 : st.length ≤ 4) (hk : kn σ o = (0, 5)) : Rn d m_X5_part 13 [l0, l1] (vI a1 :: vI a0 :: vR o :: st) σ Q ↔ ∃ r σ1, Ev d m_X5_refuse [vR o, vI a0, vI a1] σ r σ1 ∧ Rn d m_X5_part 16 [l0, l1] (psh r st) σ1 Q := q35 (show fnd (pgm m_X5_part) 13 = some (16, 35, 84, 92, 3, []) from rfl) ⟨⟨by simp, by simpa using h4⟩, (by simp only [List.take, List.reverse, List.reverseAux, rcv]; rw [if_neg (by decide +kernel)]; exact decide_eq_true hk)⟩
set_option maxRecDepth 100000 in
theorem s_X5_part_16 {d : Nat} {l0 l1 : AV} {st : List AV} {a : Int} {σ : Sg} {Q : AV → Sg → Prop}  : Rn d m_X5_part 16 [l0, l1] (vI a :: st) σ Q ↔ Rn d m_X5_part 17 [l0, l1] (vL (w32 a) :: st) σ Q := q14 (show fnd (pgm m_X5_part) 16 = some (17, 14, 0, 0, 0, []) from rfl)
set_option maxRecDepth 100000 in
theorem s_X5_part_17 {d : Nat} {l0 l1 : AV} {x : Int} {σ : Sg} {Q : AV → Sg → Prop}  : Rn d m_X5_part 17 [l0, l1] [vL x] σ Q ↔ Q (vL x) σ := q37_3 (st := []) (show fnd (pgm m_X5_part) 17 = some (18, 37, 0, 3, 0, []) from rfl)
set_option maxRecDepth 100000 in
theorem s_X5_part_18 {d : Nat} {l0 : AV} {st : List AV} {x : Int} {σ : Sg} {Q : AV → Sg → Prop}  : Rn d m_X5_part 18 [l0, vI x] st σ Q ↔ Rn d m_X5_part 19 [l0, vI x] (vI x :: st) σ Q := q3 (show fnd (pgm m_X5_part) 18 = some (19, 3, 0, 1, 0, []) from rfl) rfl
set_option maxRecDepth 100000 in
theorem s_X5_part_19 {d : Nat} {l0 l1 : AV} {st : List AV} {a : Int} {σ : Sg} {Q : AV → Sg → Prop}  : Rn d m_X5_part 19 [l0, l1] (vI a :: st) σ Q ↔ if ¬ w32 a = 0 then Rn d m_X5_part 29 [l0, l1] st σ Q else Rn d m_X5_part 22 [l0, l1] st σ Q := q19_1 (show fnd (pgm m_X5_part) 19 = some (22, 19, 0, 1, 29, []) from rfl)
set_option maxRecDepth 100000 in
theorem s_X5_part_22 {d : Nat} {l1 : AV} {st : List AV} {o : Nat} {σ : Sg} {Q : AV → Sg → Prop} (ho : o ≠ 0) : Rn d m_X5_part 22 [vR o, l1] st σ Q ↔ Rn d m_X5_part 23 [vR o, l1] (vR o :: st) σ Q := q5 (show fnd (pgm m_X5_part) 22 = some (23, 5, 0, 0, 0, []) from rfl) rfl ho
set_option maxRecDepth 100000 in
theorem s_X5_part_23 {d : Nat} {l0 l1 : AV} {st : List AV} {o : Nat} {σ : Sg} {Q : AV → Sg → Prop} (hk : kn σ o = (0, 5)) : Rn d m_X5_part 23 [l0, l1] (vR o :: st) σ Q ↔ Rn d m_X5_part 26 [l0, l1] (vL (σ o 13) :: st) σ Q := q33 (show fnd (pgm m_X5_part) 23 = some (26, 33, 73, 5, 13, []) from rfl) hk
set_option maxRecDepth 100000 in
theorem s_X5_part_26 {d : Nat} {l0 l1 : AV} {st : List AV} {σ : Sg} {Q : AV → Sg → Prop}  : Rn d m_X5_part 26 [l0, l1] st σ Q ↔ Rn d m_X5_part 33 [l0, l1] st σ Q := q21 (show fnd (pgm m_X5_part) 26 = some (29, 21, 0, 0, 33, []) from rfl)
set_option maxRecDepth 100000 in
theorem s_X5_part_29 {d : Nat} {l1 : AV} {st : List AV} {o : Nat} {σ : Sg} {Q : AV → Sg → Prop} (ho : o ≠ 0) : Rn d m_X5_part 29 [vR o, l1] st σ Q ↔ Rn d m_X5_part 30 [vR o, l1] (vR o :: st) σ Q := q5 (show fnd (pgm m_X5_part) 29 = some (30, 5, 0, 0, 0, []) from rfl) rfl ho
set_option maxRecDepth 100000 in
theorem s_X5_part_30 {d : Nat} {l0 l1 : AV} {st : List AV} {o : Nat} {σ : Sg} {Q : AV → Sg → Prop} (hk : kn σ o = (0, 5)) : Rn d m_X5_part 30 [l0, l1] (vR o :: st) σ Q ↔ Rn d m_X5_part 33 [l0, l1] (vL (σ o 14) :: st) σ Q := q33 (show fnd (pgm m_X5_part) 30 = some (33, 33, 77, 5, 14, []) from rfl) hk
set_option maxRecDepth 100000 in
theorem s_X5_part_33 {d : Nat} {l0 l1 : AV} {x : Int} {σ : Sg} {Q : AV → Sg → Prop}  : Rn d m_X5_part 33 [l0, l1] [vL x] σ Q ↔ Q (vL x) σ := q37_3 (st := []) (show fnd (pgm m_X5_part) 33 = some (34, 37, 0, 3, 0, []) from rfl)
set_option maxRecDepth 100000 in
theorem en_X5_image {d : Nat} {o : Nat} {a0 : Int} {σ σ0 : Sg} {r0 : AV} (h : Rn d m_X5_image 0 [vR o, vI a0] [] σ (fun r σ1 => r = r0 ∧ σ1 = σ0)) : Ev (d + 1) m_X5_image [vR o, vI a0] σ r0 σ0 := Ev_is (Nat.le_of_ble_eq_true rfl) h
set_option maxRecDepth 100000 in
theorem eo_X5_image {d : Nat} {o : Nat} {a0 : Int} {σ : Sg} {Q : AV → Sg → Prop} (h : Rn d m_X5_image 0 [vR o, vI a0] [] σ Q) : ∃ r σ1, Ev (d + 1) m_X5_image [vR o, vI a0] σ r σ1 ∧ Q r σ1 := Ev_of (Nat.le_of_ble_eq_true rfl) h
set_option maxRecDepth 100000 in
theorem s_X5_image_0 {d : Nat} {l0 : AV} {st : List AV} {x : Int} {σ : Sg} {Q : AV → Sg → Prop}  : Rn d m_X5_image 0 [l0, vI x] st σ Q ↔ Rn d m_X5_image 1 [l0, vI x] (vI x :: st) σ Q := q3 (show fnd (pgm m_X5_image) 0 = some (1, 3, 0, 1, 0, []) from rfl) rfl
set_option maxRecDepth 100000 in
theorem s_X5_image_1 {d : Nat} {l0 l1 : AV} {st : List AV} {σ : Sg} {Q : AV → Sg → Prop}  : Rn d m_X5_image 1 [l0, l1] st σ Q ↔ Rn d m_X5_image 2 [l0, l1] (vI 2 :: st) σ Q := q0 (show fnd (pgm m_X5_image) 1 = some (2, 0, 2, 0, 0, []) from rfl)
set_option maxRecDepth 100000 in
theorem s_X5_image_2 {d : Nat} {l0 l1 : AV} {st : List AV}  {a0 : Int} {a1 : Int} {σ : Sg} {Q : AV → Sg → Prop} (h4 : st.length ≤ 4) : Rn d m_X5_image 2 [l0, l1] (vI a1 :: vI a0 :: st) σ Q ↔ ∃ r σ1, Ev d m_X5_within [vI a0, vI a1] σ r σ1 ∧ Rn d m_X5_image 5 [l0, l1] (psh r st) σ1 Q := q35 (show fnd (pgm m_X5_image) 2 = some (5, 35, 80, 89, 2, []) from rfl) ⟨⟨by simp, by simpa using h4⟩, rfl⟩
set_option maxRecDepth 100000 in
theorem s_X5_image_5 {d : Nat} {l0 l1 : AV} {st : List AV} {a : Int} {σ : Sg} {Q : AV → Sg → Prop}  : Rn d m_X5_image 5 [l0, l1] (vI a :: st) σ Q ↔ if ¬ w32 a = 0 then Rn d m_X5_image 17 [l0, l1] st σ Q else Rn d m_X5_image 8 [l0, l1] st σ Q := q19_1 (show fnd (pgm m_X5_image) 5 = some (8, 19, 0, 1, 17, []) from rfl)
set_option maxRecDepth 100000 in
theorem s_X5_image_8 {d : Nat} {l1 : AV} {st : List AV} {o : Nat} {σ : Sg} {Q : AV → Sg → Prop} (ho : o ≠ 0) : Rn d m_X5_image 8 [vR o, l1] st σ Q ↔ Rn d m_X5_image 9 [vR o, l1] (vR o :: st) σ Q := q5 (show fnd (pgm m_X5_image) 8 = some (9, 5, 0, 0, 0, []) from rfl) rfl ho
set_option maxRecDepth 100000 in
theorem s_X5_image_9 {d : Nat} {l0 l1 : AV} {st : List AV} {σ : Sg} {Q : AV → Sg → Prop}  : Rn d m_X5_image 9 [l0, l1] st σ Q ↔ Rn d m_X5_image 11 [l0, l1] (vI (-2) :: st) σ Q := q0 (show fnd (pgm m_X5_image) 9 = some (11, 0, (-2), 1, 0, []) from rfl)
set_option maxRecDepth 100000 in
theorem s_X5_image_11 {d : Nat} {l0 l1 : AV} {st : List AV} {σ : Sg} {Q : AV → Sg → Prop}  : Rn d m_X5_image 11 [l0, l1] st σ Q ↔ Rn d m_X5_image 13 [l0, l1] (vI (-2) :: st) σ Q := q0 (show fnd (pgm m_X5_image) 11 = some (13, 0, (-2), 1, 0, []) from rfl)
set_option maxRecDepth 100000 in
theorem s_X5_image_13 {d : Nat} {l0 l1 : AV} {st : List AV} {o : Nat} {a0 : Int} {a1 : Int} {σ : Sg} {Q : AV → Sg → Prop} (h4 : st.length ≤ 4) (hk : kn σ o = (0, 5)) : Rn d m_X5_image 13 [l0, l1] (vI a1 :: vI a0 :: vR o :: st) σ Q ↔ ∃ r σ1, Ev d m_X5_refuse [vR o, vI a0, vI a1] σ r σ1 ∧ Rn d m_X5_image 16 [l0, l1] (psh r st) σ1 Q := q35 (show fnd (pgm m_X5_image) 13 = some (16, 35, 84, 92, 3, []) from rfl) ⟨⟨by simp, by simpa using h4⟩, (by simp only [List.take, List.reverse, List.reverseAux, rcv]; rw [if_neg (by decide +kernel)]; exact decide_eq_true hk)⟩
set_option maxRecDepth 100000 in
theorem s_X5_image_16 {d : Nat} {l0 l1 : AV} {x : Int} {σ : Sg} {Q : AV → Sg → Prop}  : Rn d m_X5_image 16 [l0, l1] [vI x] σ Q ↔ Q (vI x) σ := q37_1 (st := []) (show fnd (pgm m_X5_image) 16 = some (17, 37, 0, 1, 0, []) from rfl)
set_option maxRecDepth 100000 in
theorem s_X5_image_17 {d : Nat} {l1 : AV} {st : List AV} {o : Nat} {σ : Sg} {Q : AV → Sg → Prop} (ho : o ≠ 0) : Rn d m_X5_image 17 [vR o, l1] st σ Q ↔ Rn d m_X5_image 18 [vR o, l1] (vR o :: st) σ Q := q5 (show fnd (pgm m_X5_image) 17 = some (18, 5, 0, 0, 0, []) from rfl) rfl ho
set_option maxRecDepth 100000 in
theorem s_X5_image_18 {d : Nat} {l0 l1 : AV} {st : List AV} {o : Nat} {σ : Sg} {Q : AV → Sg → Prop} (hk : kn σ o = (0, 5)) : Rn d m_X5_image 18 [l0, l1] (vR o :: st) σ Q ↔ Rn d m_X5_image 21 [l0, l1] (vR (tp o 1) :: st) σ Q := q33 (show fnd (pgm m_X5_image) 18 = some (21, 33, 16, 5, 1, []) from rfl) hk
set_option maxRecDepth 100000 in
theorem s_X5_image_21 {d : Nat} {l0 : AV} {st : List AV} {x : Int} {σ : Sg} {Q : AV → Sg → Prop}  : Rn d m_X5_image 21 [l0, vI x] st σ Q ↔ Rn d m_X5_image 22 [l0, vI x] (vI x :: st) σ Q := q3 (show fnd (pgm m_X5_image) 21 = some (22, 3, 0, 1, 0, []) from rfl) rfl
set_option maxRecDepth 100000 in
theorem s_X5_image_22 {d : Nat} {l0 l1 : AV} {st : List AV} {i : Int} {o : Nat} {σ : Sg} {Q : AV → Sg → Prop} (hi : 0 ≤ w32 i ∧ w32 i < al σ 4 o) : Rn d m_X5_image 22 [l0, l1] (vI i :: vR o :: st) σ Q ↔ Rn d m_X5_image 23 [l0, l1] (vR (σ o (w32 i)).toNat :: st) σ Q := q28 (show fnd (pgm m_X5_image) 22 = some (23, 28, 0, 0, 0, []) from rfl) hi
set_option maxRecDepth 100000 in
theorem s_X5_image_23 {d : Nat} {l0 l1 : AV} {st : List AV} {o : Nat} {σ : Sg} {Q : AV → Sg → Prop}  : Rn d m_X5_image 23 [l0, l1] (vR o :: st) σ Q ↔ if o = 0 then Rn d m_X5_image 26 [l0, l1] st σ Q else Rn d m_X5_image 39 [l0, l1] st σ Q := q23 (show fnd (pgm m_X5_image) 23 = some (26, 23, 0, 0, 39, []) from rfl)
set_option maxRecDepth 100000 in
theorem s_X5_image_26 {d : Nat} {l1 : AV} {st : List AV} {o : Nat} {σ : Sg} {Q : AV → Sg → Prop} (ho : o ≠ 0) : Rn d m_X5_image 26 [vR o, l1] st σ Q ↔ Rn d m_X5_image 27 [vR o, l1] (vR o :: st) σ Q := q5 (show fnd (pgm m_X5_image) 26 = some (27, 5, 0, 0, 0, []) from rfl) rfl ho
set_option maxRecDepth 100000 in
theorem s_X5_image_27 {d : Nat} {l0 l1 : AV} {st : List AV} {o : Nat} {σ : Sg} {Q : AV → Sg → Prop} (hk : kn σ o = (0, 5)) : Rn d m_X5_image 27 [l0, l1] (vR o :: st) σ Q ↔ Rn d m_X5_image 30 [l0, l1] (vR (tp o 1) :: st) σ Q := q33 (show fnd (pgm m_X5_image) 27 = some (30, 33, 16, 5, 1, []) from rfl) hk
set_option maxRecDepth 100000 in
theorem s_X5_image_30 {d : Nat} {l0 : AV} {st : List AV} {x : Int} {σ : Sg} {Q : AV → Sg → Prop}  : Rn d m_X5_image 30 [l0, vI x] st σ Q ↔ Rn d m_X5_image 31 [l0, vI x] (vI x :: st) σ Q := q3 (show fnd (pgm m_X5_image) 30 = some (31, 3, 0, 1, 0, []) from rfl) rfl
set_option maxRecDepth 100000 in
theorem s_X5_image_34 {d : Nat} {l0 l1 : AV} {st : List AV} {a : Int} {σ : Sg} {Q : AV → Sg → Prop} : Rn d m_X5_image 34 [l0, l1] (vI a :: st) σ Q ↔ Rn d m_X5_image 35 [l0, l1] (vI a :: vI a :: st) σ Q := q17i (show fnd (pgm m_X5_image) 34 = some (35, 17, 0, 0, 0, []) from rfl)
set_option maxRecDepth 100000 in
theorem s_X5_image_34r {d : Nat} {l0 l1 : AV} {st : List AV} {o : Nat} {σ : Sg} {Q : AV → Sg → Prop} : Rn d m_X5_image 34 [l0, l1] (vR o :: st) σ Q ↔ Rn d m_X5_image 35 [l0, l1] (vR o :: vR o :: st) σ Q := q17r (show fnd (pgm m_X5_image) 34 = some (35, 17, 0, 0, 0, []) from rfl)
set_option maxRecDepth 100000 in
theorem s_X5_image_39 {d : Nat} {l1 : AV} {st : List AV} {o : Nat} {σ : Sg} {Q : AV → Sg → Prop} (ho : o ≠ 0) : Rn d m_X5_image 39 [vR o, l1] st σ Q ↔ Rn d m_X5_image 40 [vR o, l1] (vR o :: st) σ Q := q5 (show fnd (pgm m_X5_image) 39 = some (40, 5, 0, 0, 0, []) from rfl) rfl ho
set_option maxRecDepth 100000 in
theorem s_X5_image_40 {d : Nat} {l0 l1 : AV} {st : List AV} {o : Nat} {σ : Sg} {Q : AV → Sg → Prop} (hk : kn σ o = (0, 5)) : Rn d m_X5_image 40 [l0, l1] (vR o :: st) σ Q ↔ Rn d m_X5_image 43 [l0, l1] (vR (tp o 1) :: st) σ Q := q33 (show fnd (pgm m_X5_image) 40 = some (43, 33, 16, 5, 1, []) from rfl) hk
set_option maxRecDepth 100000 in
theorem s_X5_image_43 {d : Nat} {l0 : AV} {st : List AV} {x : Int} {σ : Sg} {Q : AV → Sg → Prop}  : Rn d m_X5_image 43 [l0, vI x] st σ Q ↔ Rn d m_X5_image 44 [l0, vI x] (vI x :: st) σ Q := q3 (show fnd (pgm m_X5_image) 43 = some (44, 3, 0, 1, 0, []) from rfl) rfl
set_option maxRecDepth 100000 in
theorem s_X5_image_44 {d : Nat} {l0 l1 : AV} {st : List AV} {i : Int} {o : Nat} {σ : Sg} {Q : AV → Sg → Prop} (hi : 0 ≤ w32 i ∧ w32 i < al σ 4 o) : Rn d m_X5_image 44 [l0, l1] (vI i :: vR o :: st) σ Q ↔ Rn d m_X5_image 45 [l0, l1] (vR (σ o (w32 i)).toNat :: st) σ Q := q28 (show fnd (pgm m_X5_image) 44 = some (45, 28, 0, 0, 0, []) from rfl) hi
set_option maxRecDepth 100000 in
theorem s_X5_image_45 {d : Nat} {l1 : AV} {st : List AV} {o : Nat} {σ : Sg} {Q : AV → Sg → Prop} (ho : o ≠ 0) : Rn d m_X5_image 45 [vR o, l1] st σ Q ↔ Rn d m_X5_image 46 [vR o, l1] (vR o :: st) σ Q := q5 (show fnd (pgm m_X5_image) 45 = some (46, 5, 0, 0, 0, []) from rfl) rfl ho
set_option maxRecDepth 100000 in
theorem s_X5_image_46 {d : Nat} {l0 l1 : AV} {st : List AV} {o : Nat} {σ : Sg} {Q : AV → Sg → Prop} (hk : kn σ o = (0, 5)) : Rn d m_X5_image 46 [l0, l1] (vR o :: st) σ Q ↔ Rn d m_X5_image 49 [l0, l1] (vR (tp o 0) :: st) σ Q := q33 (show fnd (pgm m_X5_image) 46 = some (49, 33, 12, 5, 0, []) from rfl) hk
set_option maxRecDepth 100000 in
theorem s_X5_image_49 {d : Nat} {l0 l1 : AV} {st : List AV} {o : Nat} {a0 : Nat} {σ : Sg} {Q : AV → Sg → Prop} (h4 : st.length ≤ 4) (hk : kn σ o = (0, 0)) : Rn d m_X5_image 49 [l0, l1] (vR a0 :: vR o :: st) σ Q ↔ ∃ r σ1, Ev d m_X0_copyOf [vR o, vR a0] σ r σ1 ∧ Rn d m_X5_image 52 [l0, l1] (psh r st) σ1 Q := q35 (show fnd (pgm m_X5_image) 49 = some (52, 35, 257, 11, 2, []) from rfl) ⟨⟨by simp, by simpa using h4⟩, (by simp only [List.take, List.reverse, List.reverseAux, rcv]; rw [if_neg (by decide +kernel)]; exact decide_eq_true hk)⟩
set_option maxRecDepth 100000 in
theorem s_X5_image_52 {d : Nat} {l0 l1 : AV} {st : List AV} {σ : Sg} {Q : AV → Sg → Prop}  : Rn d m_X5_image 52 [l0, l1] st σ Q ↔ Rn d m_X5_image 53 [l0, l1] (vI 1 :: st) σ Q := q0 (show fnd (pgm m_X5_image) 52 = some (53, 0, 1, 0, 0, []) from rfl)
set_option maxRecDepth 100000 in
theorem s_X5_image_53 {d : Nat} {l0 l1 : AV} {x : Int} {σ : Sg} {Q : AV → Sg → Prop}  : Rn d m_X5_image 53 [l0, l1] [vI x] σ Q ↔ Q (vI x) σ := q37_1 (st := []) (show fnd (pgm m_X5_image) 53 = some (54, 37, 0, 1, 0, []) from rfl)
set_option maxRecDepth 100000 in
theorem en_X5_from {d : Nat} {o : Nat} {a0 : Int} {σ σ0 : Sg} {r0 : AV} (h : Rn d m_X5_from 0 [vR o, vI a0] [] σ (fun r σ1 => r = r0 ∧ σ1 = σ0)) : Ev (d + 1) m_X5_from [vR o, vI a0] σ r0 σ0 := Ev_is (Nat.le_of_ble_eq_true rfl) h
set_option maxRecDepth 100000 in
theorem eo_X5_from {d : Nat} {o : Nat} {a0 : Int} {σ : Sg} {Q : AV → Sg → Prop} (h : Rn d m_X5_from 0 [vR o, vI a0] [] σ Q) : ∃ r σ1, Ev (d + 1) m_X5_from [vR o, vI a0] σ r σ1 ∧ Q r σ1 := Ev_of (Nat.le_of_ble_eq_true rfl) h
set_option maxRecDepth 100000 in
theorem s_X5_from_0 {d : Nat} {l0 : AV} {st : List AV} {x : Int} {σ : Sg} {Q : AV → Sg → Prop}  : Rn d m_X5_from 0 [l0, vI x] st σ Q ↔ Rn d m_X5_from 1 [l0, vI x] (vI x :: st) σ Q := q3 (show fnd (pgm m_X5_from) 0 = some (1, 3, 0, 1, 0, []) from rfl) rfl
set_option maxRecDepth 100000 in
theorem s_X5_from_1 {d : Nat} {l0 l1 : AV} {st : List AV} {σ : Sg} {Q : AV → Sg → Prop}  : Rn d m_X5_from 1 [l0, l1] st σ Q ↔ Rn d m_X5_from 2 [l0, l1] (vI 2 :: st) σ Q := q0 (show fnd (pgm m_X5_from) 1 = some (2, 0, 2, 0, 0, []) from rfl)
set_option maxRecDepth 100000 in
theorem s_X5_from_2 {d : Nat} {l0 l1 : AV} {st : List AV}  {a0 : Int} {a1 : Int} {σ : Sg} {Q : AV → Sg → Prop} (h4 : st.length ≤ 4) : Rn d m_X5_from 2 [l0, l1] (vI a1 :: vI a0 :: st) σ Q ↔ ∃ r σ1, Ev d m_X5_within [vI a0, vI a1] σ r σ1 ∧ Rn d m_X5_from 5 [l0, l1] (psh r st) σ1 Q := q35 (show fnd (pgm m_X5_from) 2 = some (5, 35, 80, 89, 2, []) from rfl) ⟨⟨by simp, by simpa using h4⟩, rfl⟩
set_option maxRecDepth 100000 in
theorem s_X5_from_5 {d : Nat} {l0 l1 : AV} {st : List AV} {a : Int} {σ : Sg} {Q : AV → Sg → Prop}  : Rn d m_X5_from 5 [l0, l1] (vI a :: st) σ Q ↔ if ¬ w32 a = 0 then Rn d m_X5_from 17 [l0, l1] st σ Q else Rn d m_X5_from 8 [l0, l1] st σ Q := q19_1 (show fnd (pgm m_X5_from) 5 = some (8, 19, 0, 1, 17, []) from rfl)
set_option maxRecDepth 100000 in
theorem s_X5_from_8 {d : Nat} {l1 : AV} {st : List AV} {o : Nat} {σ : Sg} {Q : AV → Sg → Prop} (ho : o ≠ 0) : Rn d m_X5_from 8 [vR o, l1] st σ Q ↔ Rn d m_X5_from 9 [vR o, l1] (vR o :: st) σ Q := q5 (show fnd (pgm m_X5_from) 8 = some (9, 5, 0, 0, 0, []) from rfl) rfl ho
set_option maxRecDepth 100000 in
theorem s_X5_from_9 {d : Nat} {l0 l1 : AV} {st : List AV} {σ : Sg} {Q : AV → Sg → Prop}  : Rn d m_X5_from 9 [l0, l1] st σ Q ↔ Rn d m_X5_from 11 [l0, l1] (vI (-2) :: st) σ Q := q0 (show fnd (pgm m_X5_from) 9 = some (11, 0, (-2), 1, 0, []) from rfl)
set_option maxRecDepth 100000 in
theorem s_X5_from_11 {d : Nat} {l0 l1 : AV} {st : List AV} {σ : Sg} {Q : AV → Sg → Prop}  : Rn d m_X5_from 11 [l0, l1] st σ Q ↔ Rn d m_X5_from 13 [l0, l1] (vI (-2) :: st) σ Q := q0 (show fnd (pgm m_X5_from) 11 = some (13, 0, (-2), 1, 0, []) from rfl)
set_option maxRecDepth 100000 in
theorem s_X5_from_13 {d : Nat} {l0 l1 : AV} {st : List AV} {o : Nat} {a0 : Int} {a1 : Int} {σ : Sg} {Q : AV → Sg → Prop} (h4 : st.length ≤ 4) (hk : kn σ o = (0, 5)) : Rn d m_X5_from 13 [l0, l1] (vI a1 :: vI a0 :: vR o :: st) σ Q ↔ ∃ r σ1, Ev d m_X5_refuse [vR o, vI a0, vI a1] σ r σ1 ∧ Rn d m_X5_from 16 [l0, l1] (psh r st) σ1 Q := q35 (show fnd (pgm m_X5_from) 13 = some (16, 35, 84, 92, 3, []) from rfl) ⟨⟨by simp, by simpa using h4⟩, (by simp only [List.take, List.reverse, List.reverseAux, rcv]; rw [if_neg (by decide +kernel)]; exact decide_eq_true hk)⟩
set_option maxRecDepth 100000 in
theorem s_X5_from_16 {d : Nat} {l0 l1 : AV} {x : Int} {σ : Sg} {Q : AV → Sg → Prop}  : Rn d m_X5_from 16 [l0, l1] [vI x] σ Q ↔ Q (vI x) σ := q37_1 (st := []) (show fnd (pgm m_X5_from) 16 = some (17, 37, 0, 1, 0, []) from rfl)
set_option maxRecDepth 100000 in
theorem s_X5_from_17 {d : Nat} {l1 : AV} {st : List AV} {o : Nat} {σ : Sg} {Q : AV → Sg → Prop} (ho : o ≠ 0) : Rn d m_X5_from 17 [vR o, l1] st σ Q ↔ Rn d m_X5_from 18 [vR o, l1] (vR o :: st) σ Q := q5 (show fnd (pgm m_X5_from) 17 = some (18, 5, 0, 0, 0, []) from rfl) rfl ho
set_option maxRecDepth 100000 in
theorem s_X5_from_18 {d : Nat} {l0 l1 : AV} {st : List AV} {o : Nat} {σ : Sg} {Q : AV → Sg → Prop} (hk : kn σ o = (0, 5)) : Rn d m_X5_from 18 [l0, l1] (vR o :: st) σ Q ↔ Rn d m_X5_from 21 [l0, l1] (vR (tp o 1) :: st) σ Q := q33 (show fnd (pgm m_X5_from) 18 = some (21, 33, 16, 5, 1, []) from rfl) hk
set_option maxRecDepth 100000 in
theorem s_X5_from_21 {d : Nat} {l0 : AV} {st : List AV} {x : Int} {σ : Sg} {Q : AV → Sg → Prop}  : Rn d m_X5_from 21 [l0, vI x] st σ Q ↔ Rn d m_X5_from 22 [l0, vI x] (vI x :: st) σ Q := q3 (show fnd (pgm m_X5_from) 21 = some (22, 3, 0, 1, 0, []) from rfl) rfl
set_option maxRecDepth 100000 in
theorem s_X5_from_22 {d : Nat} {l0 l1 : AV} {st : List AV} {i : Int} {o : Nat} {σ : Sg} {Q : AV → Sg → Prop} (hi : 0 ≤ w32 i ∧ w32 i < al σ 4 o) : Rn d m_X5_from 22 [l0, l1] (vI i :: vR o :: st) σ Q ↔ Rn d m_X5_from 23 [l0, l1] (vR (σ o (w32 i)).toNat :: st) σ Q := q28 (show fnd (pgm m_X5_from) 22 = some (23, 28, 0, 0, 0, []) from rfl) hi
set_option maxRecDepth 100000 in
theorem s_X5_from_23 {d : Nat} {l0 l1 : AV} {st : List AV} {o : Nat} {σ : Sg} {Q : AV → Sg → Prop}  : Rn d m_X5_from 23 [l0, l1] (vR o :: st) σ Q ↔ if o = 0 then Rn d m_X5_from 26 [l0, l1] st σ Q else Rn d m_X5_from 35 [l0, l1] st σ Q := q23 (show fnd (pgm m_X5_from) 23 = some (26, 23, 0, 0, 35, []) from rfl)
set_option maxRecDepth 100000 in
theorem s_X5_from_26 {d : Nat} {l1 : AV} {st : List AV} {o : Nat} {σ : Sg} {Q : AV → Sg → Prop} (ho : o ≠ 0) : Rn d m_X5_from 26 [vR o, l1] st σ Q ↔ Rn d m_X5_from 27 [vR o, l1] (vR o :: st) σ Q := q5 (show fnd (pgm m_X5_from) 26 = some (27, 5, 0, 0, 0, []) from rfl) rfl ho
set_option maxRecDepth 100000 in
theorem s_X5_from_27 {d : Nat} {l0 l1 : AV} {st : List AV} {σ : Sg} {Q : AV → Sg → Prop}  : Rn d m_X5_from 27 [l0, l1] st σ Q ↔ Rn d m_X5_from 29 [l0, l1] (vI (-3) :: st) σ Q := q0 (show fnd (pgm m_X5_from) 27 = some (29, 0, (-3), 1, 0, []) from rfl)
set_option maxRecDepth 100000 in
theorem s_X5_from_29 {d : Nat} {l0 l1 : AV} {st : List AV} {σ : Sg} {Q : AV → Sg → Prop}  : Rn d m_X5_from 29 [l0, l1] st σ Q ↔ Rn d m_X5_from 31 [l0, l1] (vI (-3) :: st) σ Q := q0 (show fnd (pgm m_X5_from) 29 = some (31, 0, (-3), 1, 0, []) from rfl)
set_option maxRecDepth 100000 in
theorem s_X5_from_31 {d : Nat} {l0 l1 : AV} {st : List AV} {o : Nat} {a0 : Int} {a1 : Int} {σ : Sg} {Q : AV → Sg → Prop} (h4 : st.length ≤ 4) (hk : kn σ o = (0, 5)) : Rn d m_X5_from 31 [l0, l1] (vI a1 :: vI a0 :: vR o :: st) σ Q ↔ ∃ r σ1, Ev d m_X5_refuse [vR o, vI a0, vI a1] σ r σ1 ∧ Rn d m_X5_from 34 [l0, l1] (psh r st) σ1 Q := q35 (show fnd (pgm m_X5_from) 31 = some (34, 35, 84, 92, 3, []) from rfl) ⟨⟨by simp, by simpa using h4⟩, (by simp only [List.take, List.reverse, List.reverseAux, rcv]; rw [if_neg (by decide +kernel)]; exact decide_eq_true hk)⟩
set_option maxRecDepth 100000 in
theorem s_X5_from_34 {d : Nat} {l0 l1 : AV} {x : Int} {σ : Sg} {Q : AV → Sg → Prop}  : Rn d m_X5_from 34 [l0, l1] [vI x] σ Q ↔ Q (vI x) σ := q37_1 (st := []) (show fnd (pgm m_X5_from) 34 = some (35, 37, 0, 1, 0, []) from rfl)
set_option maxRecDepth 100000 in
theorem s_X5_from_35 {d : Nat} {l1 : AV} {st : List AV} {o : Nat} {σ : Sg} {Q : AV → Sg → Prop} (ho : o ≠ 0) : Rn d m_X5_from 35 [vR o, l1] st σ Q ↔ Rn d m_X5_from 36 [vR o, l1] (vR o :: st) σ Q := q5 (show fnd (pgm m_X5_from) 35 = some (36, 5, 0, 0, 0, []) from rfl) rfl ho
set_option maxRecDepth 100000 in
theorem s_X5_from_36 {d : Nat} {l0 l1 : AV} {st : List AV} {o : Nat} {σ : Sg} {Q : AV → Sg → Prop} (hk : kn σ o = (0, 5)) : Rn d m_X5_from 36 [l0, l1] (vR o :: st) σ Q ↔ Rn d m_X5_from 39 [l0, l1] (vR (tp o 0) :: st) σ Q := q33 (show fnd (pgm m_X5_from) 36 = some (39, 33, 12, 5, 0, []) from rfl) hk
set_option maxRecDepth 100000 in
theorem s_X5_from_39 {d : Nat} {l1 : AV} {st : List AV} {o : Nat} {σ : Sg} {Q : AV → Sg → Prop} (ho : o ≠ 0) : Rn d m_X5_from 39 [vR o, l1] st σ Q ↔ Rn d m_X5_from 40 [vR o, l1] (vR o :: st) σ Q := q5 (show fnd (pgm m_X5_from) 39 = some (40, 5, 0, 0, 0, []) from rfl) rfl ho
set_option maxRecDepth 100000 in
theorem s_X5_from_40 {d : Nat} {l0 l1 : AV} {st : List AV} {o : Nat} {σ : Sg} {Q : AV → Sg → Prop} (hk : kn σ o = (0, 5)) : Rn d m_X5_from 40 [l0, l1] (vR o :: st) σ Q ↔ Rn d m_X5_from 43 [l0, l1] (vR (tp o 1) :: st) σ Q := q33 (show fnd (pgm m_X5_from) 40 = some (43, 33, 16, 5, 1, []) from rfl) hk
set_option maxRecDepth 100000 in
theorem s_X5_from_43 {d : Nat} {l0 : AV} {st : List AV} {x : Int} {σ : Sg} {Q : AV → Sg → Prop}  : Rn d m_X5_from 43 [l0, vI x] st σ Q ↔ Rn d m_X5_from 44 [l0, vI x] (vI x :: st) σ Q := q3 (show fnd (pgm m_X5_from) 43 = some (44, 3, 0, 1, 0, []) from rfl) rfl
set_option maxRecDepth 100000 in
theorem s_X5_from_44 {d : Nat} {l0 l1 : AV} {st : List AV} {i : Int} {o : Nat} {σ : Sg} {Q : AV → Sg → Prop} (hi : 0 ≤ w32 i ∧ w32 i < al σ 4 o) : Rn d m_X5_from 44 [l0, l1] (vI i :: vR o :: st) σ Q ↔ Rn d m_X5_from 45 [l0, l1] (vR (σ o (w32 i)).toNat :: st) σ Q := q28 (show fnd (pgm m_X5_from) 44 = some (45, 28, 0, 0, 0, []) from rfl) hi
set_option maxRecDepth 100000 in
theorem s_X5_from_45 {d : Nat} {l0 l1 : AV} {st : List AV} {o : Nat} {a0 : Nat} {σ : Sg} {Q : AV → Sg → Prop} (h4 : st.length ≤ 4) (hk : kn σ o = (0, 0)) : Rn d m_X5_from 45 [l0, l1] (vR a0 :: vR o :: st) σ Q ↔ ∃ r σ1, Ev d m_X0_copyOf [vR o, vR a0] σ r σ1 ∧ Rn d m_X5_from 48 [l0, l1] (psh r st) σ1 Q := q35 (show fnd (pgm m_X5_from) 45 = some (48, 35, 257, 11, 2, []) from rfl) ⟨⟨by simp, by simpa using h4⟩, (by simp only [List.take, List.reverse, List.reverseAux, rcv]; rw [if_neg (by decide +kernel)]; exact decide_eq_true hk)⟩
set_option maxRecDepth 100000 in
theorem s_X5_from_48 {d : Nat} {l0 l1 : AV} {st : List AV} {σ : Sg} {Q : AV → Sg → Prop}  : Rn d m_X5_from 48 [l0, l1] st σ Q ↔ Rn d m_X5_from 49 [l0, l1] (vI 1 :: st) σ Q := q0 (show fnd (pgm m_X5_from) 48 = some (49, 0, 1, 0, 0, []) from rfl)
set_option maxRecDepth 100000 in
theorem s_X5_from_49 {d : Nat} {l0 l1 : AV} {x : Int} {σ : Sg} {Q : AV → Sg → Prop}  : Rn d m_X5_from 49 [l0, l1] [vI x] σ Q ↔ Q (vI x) σ := q37_1 (st := []) (show fnd (pgm m_X5_from) 49 = some (50, 37, 0, 1, 0, []) from rfl)
set_option maxRecDepth 100000 in
theorem en_X5_status {d : Nat} {o : Nat} {a0 : Int} {σ σ0 : Sg} {r0 : AV} (h : Rn d m_X5_status 0 [vR o, vI a0] [] σ (fun r σ1 => r = r0 ∧ σ1 = σ0)) : Ev (d + 1) m_X5_status [vR o, vI a0] σ r0 σ0 := Ev_is (Nat.le_of_ble_eq_true rfl) h
set_option maxRecDepth 100000 in
theorem eo_X5_status {d : Nat} {o : Nat} {a0 : Int} {σ : Sg} {Q : AV → Sg → Prop} (h : Rn d m_X5_status 0 [vR o, vI a0] [] σ Q) : ∃ r σ1, Ev (d + 1) m_X5_status [vR o, vI a0] σ r σ1 ∧ Q r σ1 := Ev_of (Nat.le_of_ble_eq_true rfl) h
set_option maxRecDepth 100000 in
theorem s_X5_status_0 {d : Nat} {l0 : AV} {st : List AV} {x : Int} {σ : Sg} {Q : AV → Sg → Prop}  : Rn d m_X5_status 0 [l0, vI x] st σ Q ↔ Rn d m_X5_status 1 [l0, vI x] (vI x :: st) σ Q := q3 (show fnd (pgm m_X5_status) 0 = some (1, 3, 0, 1, 0, []) from rfl) rfl
set_option maxRecDepth 100000 in
theorem s_X5_status_1 {d : Nat} {l0 l1 : AV} {st : List AV} {σ : Sg} {Q : AV → Sg → Prop}  : Rn d m_X5_status 1 [l0, l1] st σ Q ↔ Rn d m_X5_status 2 [l0, l1] (vI 3 :: st) σ Q := q0 (show fnd (pgm m_X5_status) 1 = some (2, 0, 3, 0, 0, []) from rfl)
set_option maxRecDepth 100000 in
theorem s_X5_status_2 {d : Nat} {l0 l1 : AV} {st : List AV}  {a0 : Int} {a1 : Int} {σ : Sg} {Q : AV → Sg → Prop} (h4 : st.length ≤ 4) : Rn d m_X5_status 2 [l0, l1] (vI a1 :: vI a0 :: st) σ Q ↔ ∃ r σ1, Ev d m_X5_within [vI a0, vI a1] σ r σ1 ∧ Rn d m_X5_status 5 [l0, l1] (psh r st) σ1 Q := q35 (show fnd (pgm m_X5_status) 2 = some (5, 35, 80, 89, 2, []) from rfl) ⟨⟨by simp, by simpa using h4⟩, rfl⟩
set_option maxRecDepth 100000 in
theorem s_X5_status_5 {d : Nat} {l0 l1 : AV} {st : List AV} {a : Int} {σ : Sg} {Q : AV → Sg → Prop}  : Rn d m_X5_status 5 [l0, l1] (vI a :: st) σ Q ↔ if ¬ w32 a = 0 then Rn d m_X5_status 16 [l0, l1] st σ Q else Rn d m_X5_status 8 [l0, l1] st σ Q := q19_1 (show fnd (pgm m_X5_status) 5 = some (8, 19, 0, 1, 16, []) from rfl)
set_option maxRecDepth 100000 in
theorem s_X5_status_8 {d : Nat} {l1 : AV} {st : List AV} {o : Nat} {σ : Sg} {Q : AV → Sg → Prop} (ho : o ≠ 0) : Rn d m_X5_status 8 [vR o, l1] st σ Q ↔ Rn d m_X5_status 9 [vR o, l1] (vR o :: st) σ Q := q5 (show fnd (pgm m_X5_status) 8 = some (9, 5, 0, 0, 0, []) from rfl) rfl ho
set_option maxRecDepth 100000 in
theorem s_X5_status_9 {d : Nat} {l0 l1 : AV} {st : List AV} {σ : Sg} {Q : AV → Sg → Prop}  : Rn d m_X5_status 9 [l0, l1] st σ Q ↔ Rn d m_X5_status 11 [l0, l1] (vI (-2) :: st) σ Q := q0 (show fnd (pgm m_X5_status) 9 = some (11, 0, (-2), 1, 0, []) from rfl)
set_option maxRecDepth 100000 in
theorem s_X5_status_11 {d : Nat} {l0 l1 : AV} {st : List AV} {σ : Sg} {Q : AV → Sg → Prop}  : Rn d m_X5_status 11 [l0, l1] st σ Q ↔ Rn d m_X5_status 12 [l0, l1] (vI (-1) :: st) σ Q := q0 (show fnd (pgm m_X5_status) 11 = some (12, 0, (-1), 0, 0, []) from rfl)
set_option maxRecDepth 100000 in
theorem s_X5_status_12 {d : Nat} {l0 l1 : AV} {st : List AV} {o : Nat} {a0 : Int} {a1 : Int} {σ : Sg} {Q : AV → Sg → Prop} (h4 : st.length ≤ 4) (hk : kn σ o = (0, 5)) : Rn d m_X5_status 12 [l0, l1] (vI a1 :: vI a0 :: vR o :: st) σ Q ↔ ∃ r σ1, Ev d m_X5_refuse [vR o, vI a0, vI a1] σ r σ1 ∧ Rn d m_X5_status 15 [l0, l1] (psh r st) σ1 Q := q35 (show fnd (pgm m_X5_status) 12 = some (15, 35, 84, 92, 3, []) from rfl) ⟨⟨by simp, by simpa using h4⟩, (by simp only [List.take, List.reverse, List.reverseAux, rcv]; rw [if_neg (by decide +kernel)]; exact decide_eq_true hk)⟩
set_option maxRecDepth 100000 in
theorem s_X5_status_15 {d : Nat} {l0 l1 : AV} {x : Int} {σ : Sg} {Q : AV → Sg → Prop}  : Rn d m_X5_status 15 [l0, l1] [vI x] σ Q ↔ Q (vI x) σ := q37_1 (st := []) (show fnd (pgm m_X5_status) 15 = some (16, 37, 0, 1, 0, []) from rfl)
set_option maxRecDepth 100000 in
theorem s_X5_status_16 {d : Nat} {l1 : AV} {st : List AV} {o : Nat} {σ : Sg} {Q : AV → Sg → Prop} (ho : o ≠ 0) : Rn d m_X5_status 16 [vR o, l1] st σ Q ↔ Rn d m_X5_status 17 [vR o, l1] (vR o :: st) σ Q := q5 (show fnd (pgm m_X5_status) 16 = some (17, 5, 0, 0, 0, []) from rfl) rfl ho
set_option maxRecDepth 100000 in
theorem s_X5_status_17 {d : Nat} {l0 l1 : AV} {st : List AV} {o : Nat} {σ : Sg} {Q : AV → Sg → Prop} (hk : kn σ o = (0, 5)) : Rn d m_X5_status 17 [l0, l1] (vR o :: st) σ Q ↔ Rn d m_X5_status 20 [l0, l1] (vR (tp o 2) :: st) σ Q := q33 (show fnd (pgm m_X5_status) 17 = some (20, 33, 20, 5, 2, []) from rfl) hk
set_option maxRecDepth 100000 in
theorem s_X5_status_20 {d : Nat} {l0 : AV} {st : List AV} {x : Int} {σ : Sg} {Q : AV → Sg → Prop}  : Rn d m_X5_status 20 [l0, vI x] st σ Q ↔ Rn d m_X5_status 21 [l0, vI x] (vI x :: st) σ Q := q3 (show fnd (pgm m_X5_status) 20 = some (21, 3, 0, 1, 0, []) from rfl) rfl
set_option maxRecDepth 100000 in
theorem s_X5_status_21 {d : Nat} {l0 l1 : AV} {st : List AV} {i : Int} {o : Nat} {σ : Sg} {Q : AV → Sg → Prop} (hi : 0 ≤ w32 i ∧ w32 i < al σ 1 o) : Rn d m_X5_status 21 [l0, l1] (vI i :: vR o :: st) σ Q ↔ Rn d m_X5_status 22 [l0, l1] (vI (σ o (w32 i)) :: st) σ Q := q25 (show fnd (pgm m_X5_status) 21 = some (22, 25, 0, 0, 0, []) from rfl) hi
set_option maxRecDepth 100000 in
theorem s_X5_status_22 {d : Nat} {l0 l1 : AV} {x : Int} {σ : Sg} {Q : AV → Sg → Prop}  : Rn d m_X5_status 22 [l0, l1] [vI x] σ Q ↔ Q (vI x) σ := q37_1 (st := []) (show fnd (pgm m_X5_status) 22 = some (23, 37, 0, 1, 0, []) from rfl)
set_option maxRecDepth 100000 in
theorem en_X5_count {d : Nat} {o : Nat} {a0 : Int} {σ σ0 : Sg} {r0 : AV} (h : Rn d m_X5_count 0 [vR o, vI a0] [] σ (fun r σ1 => r = r0 ∧ σ1 = σ0)) : Ev (d + 1) m_X5_count [vR o, vI a0] σ r0 σ0 := Ev_is (Nat.le_of_ble_eq_true rfl) h
set_option maxRecDepth 100000 in
theorem eo_X5_count {d : Nat} {o : Nat} {a0 : Int} {σ : Sg} {Q : AV → Sg → Prop} (h : Rn d m_X5_count 0 [vR o, vI a0] [] σ Q) : ∃ r σ1, Ev (d + 1) m_X5_count [vR o, vI a0] σ r σ1 ∧ Q r σ1 := Ev_of (Nat.le_of_ble_eq_true rfl) h
set_option maxRecDepth 100000 in
theorem s_X5_count_0 {d : Nat} {l0 : AV} {st : List AV} {x : Int} {σ : Sg} {Q : AV → Sg → Prop}  : Rn d m_X5_count 0 [l0, vI x] st σ Q ↔ Rn d m_X5_count 1 [l0, vI x] (vI x :: st) σ Q := q3 (show fnd (pgm m_X5_count) 0 = some (1, 3, 0, 1, 0, []) from rfl) rfl
set_option maxRecDepth 100000 in
theorem s_X5_count_1 {d : Nat} {l0 l1 : AV} {st : List AV} {σ : Sg} {Q : AV → Sg → Prop}  : Rn d m_X5_count 1 [l0, l1] st σ Q ↔ Rn d m_X5_count 2 [l0, l1] (vI 4 :: st) σ Q := q0 (show fnd (pgm m_X5_count) 1 = some (2, 0, 4, 0, 0, []) from rfl)
set_option maxRecDepth 100000 in
theorem s_X5_count_2 {d : Nat} {l0 l1 : AV} {st : List AV}  {a0 : Int} {a1 : Int} {σ : Sg} {Q : AV → Sg → Prop} (h4 : st.length ≤ 4) : Rn d m_X5_count 2 [l0, l1] (vI a1 :: vI a0 :: st) σ Q ↔ ∃ r σ1, Ev d m_X5_within [vI a0, vI a1] σ r σ1 ∧ Rn d m_X5_count 5 [l0, l1] (psh r st) σ1 Q := q35 (show fnd (pgm m_X5_count) 2 = some (5, 35, 80, 89, 2, []) from rfl) ⟨⟨by simp, by simpa using h4⟩, rfl⟩
set_option maxRecDepth 100000 in
theorem s_X5_count_5 {d : Nat} {l0 l1 : AV} {st : List AV} {a : Int} {σ : Sg} {Q : AV → Sg → Prop}  : Rn d m_X5_count 5 [l0, l1] (vI a :: st) σ Q ↔ if ¬ w32 a = 0 then Rn d m_X5_count 17 [l0, l1] st σ Q else Rn d m_X5_count 8 [l0, l1] st σ Q := q19_1 (show fnd (pgm m_X5_count) 5 = some (8, 19, 0, 1, 17, []) from rfl)
set_option maxRecDepth 100000 in
theorem s_X5_count_8 {d : Nat} {l1 : AV} {st : List AV} {o : Nat} {σ : Sg} {Q : AV → Sg → Prop} (ho : o ≠ 0) : Rn d m_X5_count 8 [vR o, l1] st σ Q ↔ Rn d m_X5_count 9 [vR o, l1] (vR o :: st) σ Q := q5 (show fnd (pgm m_X5_count) 8 = some (9, 5, 0, 0, 0, []) from rfl) rfl ho
set_option maxRecDepth 100000 in
theorem s_X5_count_9 {d : Nat} {l0 l1 : AV} {st : List AV} {σ : Sg} {Q : AV → Sg → Prop}  : Rn d m_X5_count 9 [l0, l1] st σ Q ↔ Rn d m_X5_count 11 [l0, l1] (vI (-2) :: st) σ Q := q0 (show fnd (pgm m_X5_count) 9 = some (11, 0, (-2), 1, 0, []) from rfl)
set_option maxRecDepth 100000 in
theorem s_X5_count_11 {d : Nat} {l0 l1 : AV} {st : List AV} {σ : Sg} {Q : AV → Sg → Prop}  : Rn d m_X5_count 11 [l0, l1] st σ Q ↔ Rn d m_X5_count 13 [l0, l1] (vI (-2) :: st) σ Q := q0 (show fnd (pgm m_X5_count) 11 = some (13, 0, (-2), 1, 0, []) from rfl)
set_option maxRecDepth 100000 in
theorem s_X5_count_13 {d : Nat} {l0 l1 : AV} {st : List AV} {o : Nat} {a0 : Int} {a1 : Int} {σ : Sg} {Q : AV → Sg → Prop} (h4 : st.length ≤ 4) (hk : kn σ o = (0, 5)) : Rn d m_X5_count 13 [l0, l1] (vI a1 :: vI a0 :: vR o :: st) σ Q ↔ ∃ r σ1, Ev d m_X5_refuse [vR o, vI a0, vI a1] σ r σ1 ∧ Rn d m_X5_count 16 [l0, l1] (psh r st) σ1 Q := q35 (show fnd (pgm m_X5_count) 13 = some (16, 35, 84, 92, 3, []) from rfl) ⟨⟨by simp, by simpa using h4⟩, (by simp only [List.take, List.reverse, List.reverseAux, rcv]; rw [if_neg (by decide +kernel)]; exact decide_eq_true hk)⟩
set_option maxRecDepth 100000 in
theorem s_X5_count_16 {d : Nat} {l0 l1 : AV} {x : Int} {σ : Sg} {Q : AV → Sg → Prop}  : Rn d m_X5_count 16 [l0, l1] [vI x] σ Q ↔ Q (vI x) σ := q37_1 (st := []) (show fnd (pgm m_X5_count) 16 = some (17, 37, 0, 1, 0, []) from rfl)
set_option maxRecDepth 100000 in
theorem s_X5_count_17 {d : Nat} {l1 : AV} {st : List AV} {o : Nat} {σ : Sg} {Q : AV → Sg → Prop} (ho : o ≠ 0) : Rn d m_X5_count 17 [vR o, l1] st σ Q ↔ Rn d m_X5_count 18 [vR o, l1] (vR o :: st) σ Q := q5 (show fnd (pgm m_X5_count) 17 = some (18, 5, 0, 0, 0, []) from rfl) rfl ho
set_option maxRecDepth 100000 in
theorem s_X5_count_18 {d : Nat} {l0 l1 : AV} {st : List AV} {o : Nat} {σ : Sg} {Q : AV → Sg → Prop} (hk : kn σ o = (0, 5)) : Rn d m_X5_count 18 [l0, l1] (vR o :: st) σ Q ↔ Rn d m_X5_count 21 [l0, l1] (vR (tp o 0) :: st) σ Q := q33 (show fnd (pgm m_X5_count) 18 = some (21, 33, 12, 5, 0, []) from rfl) hk
set_option maxRecDepth 100000 in
theorem s_X5_count_21 {d : Nat} {l0 : AV} {st : List AV} {x : Int} {σ : Sg} {Q : AV → Sg → Prop}  : Rn d m_X5_count 21 [l0, vI x] st σ Q ↔ Rn d m_X5_count 22 [l0, vI x] (vI x :: st) σ Q := q3 (show fnd (pgm m_X5_count) 21 = some (22, 3, 0, 1, 0, []) from rfl) rfl
set_option maxRecDepth 100000 in
theorem s_X5_count_22 {d : Nat} {l0 l1 : AV} {st : List AV} {o : Nat} {a0 : Int} {σ : Sg} {Q : AV → Sg → Prop} (h4 : st.length ≤ 4) (hk : kn σ o = (0, 0)) : Rn d m_X5_count 22 [l0, l1] (vI a0 :: vR o :: st) σ Q ↔ ∃ r σ1, Ev d m_X0_howMany [vR o, vI a0] σ r σ1 ∧ Rn d m_X5_count 25 [l0, l1] (psh r st) σ1 Q := q35 (show fnd (pgm m_X5_count) 22 = some (25, 35, 261, 7, 2, []) from rfl) ⟨⟨by simp, by simpa using h4⟩, (by simp only [List.take, List.reverse, List.reverseAux, rcv]; rw [if_neg (by decide +kernel)]; exact decide_eq_true hk)⟩
set_option maxRecDepth 100000 in
theorem s_X5_count_25 {d : Nat} {l0 l1 : AV} {x : Int} {σ : Sg} {Q : AV → Sg → Prop}  : Rn d m_X5_count 25 [l0, l1] [vI x] σ Q ↔ Q (vI x) σ := q37_1 (st := []) (show fnd (pgm m_X5_count) 25 = some (26, 37, 0, 1, 0, []) from rfl)
set_option maxRecDepth 100000 in
theorem en_X5_digest {d : Nat} {o : Nat} {σ σ0 : Sg} {r0 : AV} (h : Rn d m_X5_digest 0 [vR o, none, none] [] σ (fun r σ1 => r = r0 ∧ σ1 = σ0)) : Ev (d + 1) m_X5_digest [vR o] σ r0 σ0 := Ev_is (Nat.le_of_ble_eq_true rfl) h
set_option maxRecDepth 100000 in
theorem eo_X5_digest {d : Nat} {o : Nat} {σ : Sg} {Q : AV → Sg → Prop} (h : Rn d m_X5_digest 0 [vR o, none, none] [] σ Q) : ∃ r σ1, Ev (d + 1) m_X5_digest [vR o] σ r σ1 ∧ Q r σ1 := Ev_of (Nat.le_of_ble_eq_true rfl) h
set_option maxRecDepth 100000 in
theorem s_X5_digest_0 {d : Nat} {l1 l2 : AV} {st : List AV} {o : Nat} {σ : Sg} {Q : AV → Sg → Prop} (ho : o ≠ 0) : Rn d m_X5_digest 0 [vR o, l1, l2] st σ Q ↔ Rn d m_X5_digest 1 [vR o, l1, l2] (vR o :: st) σ Q := q5 (show fnd (pgm m_X5_digest) 0 = some (1, 5, 0, 0, 0, []) from rfl) rfl ho
set_option maxRecDepth 100000 in
theorem s_X5_digest_1 {d : Nat} {l0 l1 l2 : AV} {st : List AV} {o : Nat} {σ : Sg} {Q : AV → Sg → Prop} (hk : kn σ o = (0, 5)) : Rn d m_X5_digest 1 [l0, l1, l2] (vR o :: st) σ Q ↔ Rn d m_X5_digest 4 [l0, l1, l2] (vR (tp o 0) :: st) σ Q := q33 (show fnd (pgm m_X5_digest) 1 = some (4, 33, 12, 5, 0, []) from rfl) hk
set_option maxRecDepth 100000 in
theorem s_X5_digest_4 {d : Nat} {l0 l1 l2 : AV} {st : List AV} {σ : Sg} {Q : AV → Sg → Prop}  : Rn d m_X5_digest 4 [l0, l1, l2] st σ Q ↔ Rn d m_X5_digest 7 [l0, l1, l2] (vL 641 :: st) σ Q := q1 (show fnd (pgm m_X5_digest) 4 = some (7, 1, 641, 1, 264, []) from rfl)
set_option maxRecDepth 100000 in
theorem s_X5_digest_7 {d : Nat} {l0 l1 l2 : AV} {st : List AV} {o : Nat} {a0 : Int} {σ : Sg} {Q : AV → Sg → Prop} (h4 : st.length ≤ 4) (hk : kn σ o = (0, 0)) : Rn d m_X5_digest 7 [l0, l1, l2] (vL a0 :: vR o :: st) σ Q ↔ ∃ r σ1, Ev d m_X0_digestBehind [vR o, vL a0] σ r σ1 ∧ Rn d m_X5_digest 10 [l0, l1, l2] (psh r st) σ1 Q := q35 (show fnd (pgm m_X5_digest) 7 = some (10, 35, 266, 10, 2, []) from rfl) ⟨⟨by simp, by simpa using h4⟩, (by simp only [List.take, List.reverse, List.reverseAux, rcv]; rw [if_neg (by decide +kernel)]; exact decide_eq_true hk)⟩
set_option maxRecDepth 100000 in
theorem s_X5_digest_10 {d : Nat} {l0 l1 l2 : AV} {st : List AV} {x : Int} {σ : Sg} {Q : AV → Sg → Prop}  : Rn d m_X5_digest 10 [l0, l1, l2] (vL x :: st) σ Q ↔ Rn d m_X5_digest 11 [l0, vL x, none] st σ Q := q7 (show fnd (pgm m_X5_digest) 10 = some (11, 7, 0, 1, 0, []) from rfl) (by decide : 2 < 3)
set_option maxRecDepth 100000 in
theorem s_X5_digest_11 {d : Nat} {l0 l1 l2 : AV} {st : List AV} {σ : Sg} {Q : AV → Sg → Prop}  : Rn d m_X5_digest 11 [l0, l1, l2] st σ Q ↔ Rn d m_X5_digest 14 [l0, l1, l2] (vL 31 :: st) σ Q := q1 (show fnd (pgm m_X5_digest) 11 = some (14, 1, 31, 1, 270, []) from rfl)
set_option maxRecDepth 100000 in
theorem s_X5_digest_14 {d : Nat} {l0 l1 l2 : AV} {st : List AV} {σ : Sg} {Q : AV → Sg → Prop}  : Rn d m_X5_digest 14 [l0, l1, l2] st σ Q ↔ Rn d m_X5_digest 17 [l0, l1, l2] (vL 31 :: st) σ Q := q1 (show fnd (pgm m_X5_digest) 14 = some (17, 1, 31, 1, 270, []) from rfl)
set_option maxRecDepth 100000 in
theorem s_X5_digest_17 {d : Nat} {l0 : AV} {st : List AV} {x : Int} {σ : Sg} {Q : AV → Sg → Prop}  : Rn d m_X5_digest 17 [l0, vL x, none] st σ Q ↔ Rn d m_X5_digest 18 [l0, vL x, none] (vL x :: st) σ Q := q4 (show fnd (pgm m_X5_digest) 17 = some (18, 4, 0, 1, 0, []) from rfl) rfl rfl
set_option maxRecDepth 100000 in
theorem s_X5_digest_18 {d : Nat} {l0 l1 l2 : AV} {st : List AV} {a b : Int} {σ : Sg} {Q : AV → Sg → Prop}  : Rn d m_X5_digest 18 [l0, l1, l2] (vL b :: vL a :: st) σ Q ↔ Rn d m_X5_digest 19 [l0, l1, l2] (vL (a * b) :: st) σ Q := q11_2 (show fnd (pgm m_X5_digest) 18 = some (19, 11, 0, 2, 0, []) from rfl)
set_option maxRecDepth 100000 in
theorem s_X5_digest_19 {d : Nat} {l1 l2 : AV} {st : List AV} {o : Nat} {σ : Sg} {Q : AV → Sg → Prop} (ho : o ≠ 0) : Rn d m_X5_digest 19 [vR o, l1, l2] st σ Q ↔ Rn d m_X5_digest 20 [vR o, l1, l2] (vR o :: st) σ Q := q5 (show fnd (pgm m_X5_digest) 19 = some (20, 5, 0, 0, 0, []) from rfl) rfl ho
set_option maxRecDepth 100000 in
theorem s_X5_digest_20 {d : Nat} {l0 l1 l2 : AV} {st : List AV} {o : Nat} {σ : Sg} {Q : AV → Sg → Prop} (hk : kn σ o = (0, 5)) : Rn d m_X5_digest 20 [l0, l1, l2] (vR o :: st) σ Q ↔ Rn d m_X5_digest 23 [l0, l1, l2] (vL (σ o 13) :: st) σ Q := q33 (show fnd (pgm m_X5_digest) 20 = some (23, 33, 73, 5, 13, []) from rfl) hk
set_option maxRecDepth 100000 in
theorem s_X5_digest_23 {d : Nat} {l0 l1 l2 : AV} {st : List AV} {a b : Int} {σ : Sg} {Q : AV → Sg → Prop}  : Rn d m_X5_digest 23 [l0, l1, l2] (vL b :: vL a :: st) σ Q ↔ Rn d m_X5_digest 24 [l0, l1, l2] (vL (a + b) :: st) σ Q := q11_0 (show fnd (pgm m_X5_digest) 23 = some (24, 11, 0, 0, 0, []) from rfl)
set_option maxRecDepth 100000 in
theorem s_X5_digest_24 {d : Nat} {l0 l1 l2 : AV} {st : List AV} {a b : Int} {σ : Sg} {Q : AV → Sg → Prop}  : Rn d m_X5_digest 24 [l0, l1, l2] (vL b :: vL a :: st) σ Q ↔ Rn d m_X5_digest 25 [l0, l1, l2] (vL (a * b) :: st) σ Q := q11_2 (show fnd (pgm m_X5_digest) 24 = some (25, 11, 0, 2, 0, []) from rfl)
set_option maxRecDepth 100000 in
theorem s_X5_digest_25 {d : Nat} {l1 l2 : AV} {st : List AV} {o : Nat} {σ : Sg} {Q : AV → Sg → Prop} (ho : o ≠ 0) : Rn d m_X5_digest 25 [vR o, l1, l2] st σ Q ↔ Rn d m_X5_digest 26 [vR o, l1, l2] (vR o :: st) σ Q := q5 (show fnd (pgm m_X5_digest) 25 = some (26, 5, 0, 0, 0, []) from rfl) rfl ho
set_option maxRecDepth 100000 in
theorem s_X5_digest_26 {d : Nat} {l0 l1 l2 : AV} {st : List AV} {o : Nat} {σ : Sg} {Q : AV → Sg → Prop} (hk : kn σ o = (0, 5)) : Rn d m_X5_digest 26 [l0, l1, l2] (vR o :: st) σ Q ↔ Rn d m_X5_digest 29 [l0, l1, l2] (vL (σ o 14) :: st) σ Q := q33 (show fnd (pgm m_X5_digest) 26 = some (29, 33, 77, 5, 14, []) from rfl) hk
set_option maxRecDepth 100000 in
theorem s_X5_digest_29 {d : Nat} {l0 l1 l2 : AV} {st : List AV} {a b : Int} {σ : Sg} {Q : AV → Sg → Prop}  : Rn d m_X5_digest 29 [l0, l1, l2] (vL b :: vL a :: st) σ Q ↔ Rn d m_X5_digest 30 [l0, l1, l2] (vL (a + b) :: st) σ Q := q11_0 (show fnd (pgm m_X5_digest) 29 = some (30, 11, 0, 0, 0, []) from rfl)
set_option maxRecDepth 100000 in
theorem s_X5_digest_30 {d : Nat} {l0 l1 l2 : AV} {x : Int} {σ : Sg} {Q : AV → Sg → Prop}  : Rn d m_X5_digest 30 [l0, l1, l2] [vL x] σ Q ↔ Q (vL x) σ := q37_3 (st := []) (show fnd (pgm m_X5_digest) 30 = some (31, 37, 0, 3, 0, []) from rfl)
set_option maxRecDepth 100000 in
theorem en_X5_within {d : Nat} {a0 : Int} {a1 : Int} {σ σ0 : Sg} {r0 : AV} (h : Rn d m_X5_within 0 [vI a0, vI a1] [] σ (fun r σ1 => r = r0 ∧ σ1 = σ0)) : Ev (d + 1) m_X5_within [vI a0, vI a1] σ r0 σ0 := Ev_is (Nat.le_of_ble_eq_true rfl) h
set_option maxRecDepth 100000 in
theorem eo_X5_within {d : Nat} {a0 : Int} {a1 : Int} {σ : Sg} {Q : AV → Sg → Prop} (h : Rn d m_X5_within 0 [vI a0, vI a1] [] σ Q) : ∃ r σ1, Ev (d + 1) m_X5_within [vI a0, vI a1] σ r σ1 ∧ Q r σ1 := Ev_of (Nat.le_of_ble_eq_true rfl) h
set_option maxRecDepth 100000 in
theorem s_X5_within_0 {d : Nat} {l1 : AV} {st : List AV} {x : Int} {σ : Sg} {Q : AV → Sg → Prop}  : Rn d m_X5_within 0 [vI x, l1] st σ Q ↔ Rn d m_X5_within 1 [vI x, l1] (vI x :: st) σ Q := q3 (show fnd (pgm m_X5_within) 0 = some (1, 3, 0, 0, 0, []) from rfl) rfl
set_option maxRecDepth 100000 in
theorem s_X5_within_1 {d : Nat} {l0 l1 : AV} {st : List AV} {a : Int} {σ : Sg} {Q : AV → Sg → Prop}  : Rn d m_X5_within 1 [l0, l1] (vI a :: st) σ Q ↔ if w32 a < 0 then Rn d m_X5_within 13 [l0, l1] st σ Q else Rn d m_X5_within 4 [l0, l1] st σ Q := q19_2 (show fnd (pgm m_X5_within) 1 = some (4, 19, 0, 2, 13, []) from rfl)
set_option maxRecDepth 100000 in
theorem s_X5_within_4 {d : Nat} {l1 : AV} {st : List AV} {x : Int} {σ : Sg} {Q : AV → Sg → Prop}  : Rn d m_X5_within 4 [vI x, l1] st σ Q ↔ Rn d m_X5_within 5 [vI x, l1] (vI x :: st) σ Q := q3 (show fnd (pgm m_X5_within) 4 = some (5, 3, 0, 0, 0, []) from rfl) rfl
set_option maxRecDepth 100000 in
theorem s_X5_within_5 {d : Nat} {l0 : AV} {st : List AV} {x : Int} {σ : Sg} {Q : AV → Sg → Prop}  : Rn d m_X5_within 5 [l0, vI x] st σ Q ↔ Rn d m_X5_within 6 [l0, vI x] (vI x :: st) σ Q := q3 (show fnd (pgm m_X5_within) 5 = some (6, 3, 0, 1, 0, []) from rfl) rfl
set_option maxRecDepth 100000 in
theorem s_X5_within_6 {d : Nat} {l0 l1 : AV} {st : List AV} {a b : Int} {σ : Sg} {Q : AV → Sg → Prop}  : Rn d m_X5_within 6 [l0, l1] (vI b :: vI a :: st) σ Q ↔ if w32 b ≤ w32 a then Rn d m_X5_within 13 [l0, l1] st σ Q else Rn d m_X5_within 9 [l0, l1] st σ Q := q20_3 (show fnd (pgm m_X5_within) 6 = some (9, 20, 0, 3, 13, []) from rfl)
set_option maxRecDepth 100000 in
theorem s_X5_within_9 {d : Nat} {l0 l1 : AV} {st : List AV} {σ : Sg} {Q : AV → Sg → Prop}  : Rn d m_X5_within 9 [l0, l1] st σ Q ↔ Rn d m_X5_within 10 [l0, l1] (vI 1 :: st) σ Q := q0 (show fnd (pgm m_X5_within) 9 = some (10, 0, 1, 0, 0, []) from rfl)
set_option maxRecDepth 100000 in
theorem s_X5_within_10 {d : Nat} {l0 l1 : AV} {st : List AV} {σ : Sg} {Q : AV → Sg → Prop}  : Rn d m_X5_within 10 [l0, l1] st σ Q ↔ Rn d m_X5_within 14 [l0, l1] st σ Q := q21 (show fnd (pgm m_X5_within) 10 = some (13, 21, 0, 0, 14, []) from rfl)
set_option maxRecDepth 100000 in
theorem s_X5_within_13 {d : Nat} {l0 l1 : AV} {st : List AV} {σ : Sg} {Q : AV → Sg → Prop}  : Rn d m_X5_within 13 [l0, l1] st σ Q ↔ Rn d m_X5_within 14 [l0, l1] (vI 0 :: st) σ Q := q0 (show fnd (pgm m_X5_within) 13 = some (14, 0, 0, 0, 0, []) from rfl)
set_option maxRecDepth 100000 in
theorem s_X5_within_14 {d : Nat} {l0 l1 : AV} {x : Int} {σ : Sg} {Q : AV → Sg → Prop} (hx : x = 0 ∨ x = 1) : Rn d m_X5_within 14 [l0, l1] [vI x] σ Q ↔ Q (vI x) σ := q37_2 (st := []) (show fnd (pgm m_X5_within) 14 = some (15, 37, 0, 2, 0, []) from rfl) hx
set_option maxRecDepth 100000 in
theorem en_X5_isStone {d : Nat} {o : Nat} {a0 : Int} {σ σ0 : Sg} {r0 : AV} (h : Rn d m_X5_isStone 0 [vR o, vI a0] [] σ (fun r σ1 => r = r0 ∧ σ1 = σ0)) : Ev (d + 1) m_X5_isStone [vR o, vI a0] σ r0 σ0 := Ev_is (Nat.le_of_ble_eq_true rfl) h
set_option maxRecDepth 100000 in
theorem eo_X5_isStone {d : Nat} {o : Nat} {a0 : Int} {σ : Sg} {Q : AV → Sg → Prop} (h : Rn d m_X5_isStone 0 [vR o, vI a0] [] σ Q) : ∃ r σ1, Ev (d + 1) m_X5_isStone [vR o, vI a0] σ r σ1 ∧ Q r σ1 := Ev_of (Nat.le_of_ble_eq_true rfl) h
set_option maxRecDepth 100000 in
theorem s_X5_isStone_0 {d : Nat} {l0 : AV} {st : List AV} {x : Int} {σ : Sg} {Q : AV → Sg → Prop}  : Rn d m_X5_isStone 0 [l0, vI x] st σ Q ↔ Rn d m_X5_isStone 1 [l0, vI x] (vI x :: st) σ Q := q3 (show fnd (pgm m_X5_isStone) 0 = some (1, 3, 0, 1, 0, []) from rfl) rfl
set_option maxRecDepth 100000 in
theorem s_X5_isStone_1 {d : Nat} {l1 : AV} {st : List AV} {o : Nat} {σ : Sg} {Q : AV → Sg → Prop} (ho : o ≠ 0) : Rn d m_X5_isStone 1 [vR o, l1] st σ Q ↔ Rn d m_X5_isStone 2 [vR o, l1] (vR o :: st) σ Q := q5 (show fnd (pgm m_X5_isStone) 1 = some (2, 5, 0, 0, 0, []) from rfl) rfl ho
set_option maxRecDepth 100000 in
theorem s_X5_isStone_2 {d : Nat} {l0 l1 : AV} {st : List AV} {o : Nat} {σ : Sg} {Q : AV → Sg → Prop} (hk : kn σ o = (0, 5)) : Rn d m_X5_isStone 2 [l0, l1] (vR o :: st) σ Q ↔ Rn d m_X5_isStone 5 [l0, l1] (vR (tp o 0) :: st) σ Q := q33 (show fnd (pgm m_X5_isStone) 2 = some (5, 33, 12, 5, 0, []) from rfl) hk
set_option maxRecDepth 100000 in
theorem s_X5_isStone_5 {d : Nat} {l0 l1 : AV} {st : List AV} {o : Nat} {σ : Sg} {Q : AV → Sg → Prop} (hk : kn σ o = (0, 0)) : Rn d m_X5_isStone 5 [l0, l1] (vR o :: st) σ Q ↔ Rn d m_X5_isStone 8 [l0, l1] (vI (σ o 0) :: st) σ Q := q33 (show fnd (pgm m_X5_isStone) 5 = some (8, 33, 95, 0, 0, []) from rfl) hk
set_option maxRecDepth 100000 in
theorem s_X5_isStone_8 {d : Nat} {l0 l1 : AV} {st : List AV}  {a0 : Int} {a1 : Int} {σ : Sg} {Q : AV → Sg → Prop} (h4 : st.length ≤ 4) : Rn d m_X5_isStone 8 [l0, l1] (vI a1 :: vI a0 :: st) σ Q ↔ ∃ r σ1, Ev d m_X5_within [vI a0, vI a1] σ r σ1 ∧ Rn d m_X5_isStone 11 [l0, l1] (psh r st) σ1 Q := q35 (show fnd (pgm m_X5_isStone) 8 = some (11, 35, 80, 89, 2, []) from rfl) ⟨⟨by simp, by simpa using h4⟩, rfl⟩
set_option maxRecDepth 100000 in
theorem s_X5_isStone_11 {d : Nat} {l0 l1 : AV} {x : Int} {σ : Sg} {Q : AV → Sg → Prop} (hx : x = 0 ∨ x = 1) : Rn d m_X5_isStone 11 [l0, l1] [vI x] σ Q ↔ Q (vI x) σ := q37_2 (st := []) (show fnd (pgm m_X5_isStone) 11 = some (12, 37, 0, 2, 0, []) from rfl) hx
set_option maxRecDepth 100000 in
theorem en_X5_isBehind {d : Nat} {a0 : Int} {σ σ0 : Sg} {r0 : AV} (h : Rn d m_X5_isBehind 0 [vI a0] [] σ (fun r σ1 => r = r0 ∧ σ1 = σ0)) : Ev (d + 1) m_X5_isBehind [vI a0] σ r0 σ0 := Ev_is (Nat.le_of_ble_eq_true rfl) h
set_option maxRecDepth 100000 in
theorem eo_X5_isBehind {d : Nat} {a0 : Int} {σ : Sg} {Q : AV → Sg → Prop} (h : Rn d m_X5_isBehind 0 [vI a0] [] σ Q) : ∃ r σ1, Ev (d + 1) m_X5_isBehind [vI a0] σ r σ1 ∧ Q r σ1 := Ev_of (Nat.le_of_ble_eq_true rfl) h
set_option maxRecDepth 100000 in
theorem s_X5_isBehind_0 {d : Nat} {st : List AV} {x : Int} {σ : Sg} {Q : AV → Sg → Prop}  : Rn d m_X5_isBehind 0 [vI x] st σ Q ↔ Rn d m_X5_isBehind 1 [vI x] (vI x :: st) σ Q := q3 (show fnd (pgm m_X5_isBehind) 0 = some (1, 3, 0, 0, 0, []) from rfl) rfl
set_option maxRecDepth 100000 in
theorem s_X5_isBehind_1 {d : Nat} {l0 : AV} {st : List AV} {σ : Sg} {Q : AV → Sg → Prop}  : Rn d m_X5_isBehind 1 [l0] st σ Q ↔ Rn d m_X5_isBehind 2 [l0] (vI (-1) :: st) σ Q := q0 (show fnd (pgm m_X5_isBehind) 1 = some (2, 0, (-1), 0, 0, []) from rfl)
set_option maxRecDepth 100000 in
theorem s_X5_isBehind_2 {d : Nat} {l0 : AV} {st : List AV} {a b : Int} {σ : Sg} {Q : AV → Sg → Prop}  : Rn d m_X5_isBehind 2 [l0] (vI b :: vI a :: st) σ Q ↔ if w32 a < w32 b then Rn d m_X5_isBehind 15 [l0] st σ Q else Rn d m_X5_isBehind 5 [l0] st σ Q := q20_2 (show fnd (pgm m_X5_isBehind) 2 = some (5, 20, 0, 2, 15, []) from rfl)
set_option maxRecDepth 100000 in
theorem s_X5_isBehind_5 {d : Nat} {st : List AV} {x : Int} {σ : Sg} {Q : AV → Sg → Prop}  : Rn d m_X5_isBehind 5 [vI x] st σ Q ↔ Rn d m_X5_isBehind 6 [vI x] (vI x :: st) σ Q := q3 (show fnd (pgm m_X5_isBehind) 5 = some (6, 3, 0, 0, 0, []) from rfl) rfl
set_option maxRecDepth 100000 in
theorem s_X5_isBehind_6 {d : Nat} {l0 : AV} {st : List AV} {σ : Sg} {Q : AV → Sg → Prop}  : Rn d m_X5_isBehind 6 [l0] st σ Q ↔ Rn d m_X5_isBehind 8 [l0] (vI 20 :: st) σ Q := q0 (show fnd (pgm m_X5_isBehind) 6 = some (8, 0, 20, 1, 0, []) from rfl)
set_option maxRecDepth 100000 in
theorem s_X5_isBehind_8 {d : Nat} {l0 : AV} {st : List AV} {a b : Int} {σ : Sg} {Q : AV → Sg → Prop}  : Rn d m_X5_isBehind 8 [l0] (vI b :: vI a :: st) σ Q ↔ if w32 b ≤ w32 a then Rn d m_X5_isBehind 15 [l0] st σ Q else Rn d m_X5_isBehind 11 [l0] st σ Q := q20_3 (show fnd (pgm m_X5_isBehind) 8 = some (11, 20, 0, 3, 15, []) from rfl)
set_option maxRecDepth 100000 in
theorem s_X5_isBehind_11 {d : Nat} {l0 : AV} {st : List AV} {σ : Sg} {Q : AV → Sg → Prop}  : Rn d m_X5_isBehind 11 [l0] st σ Q ↔ Rn d m_X5_isBehind 12 [l0] (vI 1 :: st) σ Q := q0 (show fnd (pgm m_X5_isBehind) 11 = some (12, 0, 1, 0, 0, []) from rfl)
set_option maxRecDepth 100000 in
theorem s_X5_isBehind_12 {d : Nat} {l0 : AV} {st : List AV} {σ : Sg} {Q : AV → Sg → Prop}  : Rn d m_X5_isBehind 12 [l0] st σ Q ↔ Rn d m_X5_isBehind 16 [l0] st σ Q := q21 (show fnd (pgm m_X5_isBehind) 12 = some (15, 21, 0, 0, 16, []) from rfl)
set_option maxRecDepth 100000 in
theorem s_X5_isBehind_15 {d : Nat} {l0 : AV} {st : List AV} {σ : Sg} {Q : AV → Sg → Prop}  : Rn d m_X5_isBehind 15 [l0] st σ Q ↔ Rn d m_X5_isBehind 16 [l0] (vI 0 :: st) σ Q := q0 (show fnd (pgm m_X5_isBehind) 15 = some (16, 0, 0, 0, 0, []) from rfl)
set_option maxRecDepth 100000 in
theorem s_X5_isBehind_16 {d : Nat} {l0 : AV} {x : Int} {σ : Sg} {Q : AV → Sg → Prop} (hx : x = 0 ∨ x = 1) : Rn d m_X5_isBehind 16 [l0] [vI x] σ Q ↔ Q (vI x) σ := q37_2 (st := []) (show fnd (pgm m_X5_isBehind) 16 = some (17, 37, 0, 2, 0, []) from rfl) hx
set_option maxRecDepth 100000 in
theorem en_X5_refuse {d : Nat} {o : Nat} {a0 : Int} {a1 : Int} {σ σ0 : Sg} {r0 : AV} (h : Rn d m_X5_refuse 0 [vR o, vI a0, vI a1] [] σ (fun r σ1 => r = r0 ∧ σ1 = σ0)) : Ev (d + 1) m_X5_refuse [vR o, vI a0, vI a1] σ r0 σ0 := Ev_is (Nat.le_of_ble_eq_true rfl) h
set_option maxRecDepth 100000 in
theorem eo_X5_refuse {d : Nat} {o : Nat} {a0 : Int} {a1 : Int} {σ : Sg} {Q : AV → Sg → Prop} (h : Rn d m_X5_refuse 0 [vR o, vI a0, vI a1] [] σ Q) : ∃ r σ1, Ev (d + 1) m_X5_refuse [vR o, vI a0, vI a1] σ r σ1 ∧ Q r σ1 := Ev_of (Nat.le_of_ble_eq_true rfl) h
set_option maxRecDepth 100000 in
theorem s_X5_refuse_0 {d : Nat} {l0 l2 : AV} {st : List AV} {x : Int} {σ : Sg} {Q : AV → Sg → Prop}  : Rn d m_X5_refuse 0 [l0, vI x, l2] st σ Q ↔ Rn d m_X5_refuse 1 [l0, vI x, l2] (vI x :: st) σ Q := q3 (show fnd (pgm m_X5_refuse) 0 = some (1, 3, 0, 1, 0, []) from rfl) rfl
set_option maxRecDepth 100000 in
theorem s_X5_refuse_1 {d : Nat} {l0 l1 l2 : AV} {st : List AV} {a : Int} {σ : Sg} {Q : AV → Sg → Prop}  : Rn d m_X5_refuse 1 [l0, l1, l2] (vI a :: st) σ Q ↔ Rn d m_X5_refuse (swt [((-3), 41), ((-2), 28)] 54 (w32 a)) [l0, l1, l2] st σ Q := q24 (show fnd (pgm m_X5_refuse) 1 = some (28, 24, 0, 1, 54, [((-3), 41), ((-2), 28)]) from rfl)
set_option maxRecDepth 100000 in
theorem s_X5_refuse_28 {d : Nat} {l1 l2 : AV} {st : List AV} {o : Nat} {σ : Sg} {Q : AV → Sg → Prop} (ho : o ≠ 0) : Rn d m_X5_refuse 28 [vR o, l1, l2] st σ Q ↔ Rn d m_X5_refuse 29 [vR o, l1, l2] (vR o :: st) σ Q := q5 (show fnd (pgm m_X5_refuse) 28 = some (29, 5, 0, 0, 0, []) from rfl) rfl ho
set_option maxRecDepth 100000 in
theorem s_X5_refuse_29 {d : Nat} {l0 l1 l2 : AV} {st : List AV} {o : Nat} {σ : Sg} {Q : AV → Sg → Prop} (hk : kn σ o = (0, 5)) : Rn d m_X5_refuse 29 [l0, l1, l2] (vR o :: st) σ Q ↔ Rn d m_X5_refuse 32 [l0, l1, l2] (vR (tp o 2) :: st) σ Q := q33 (show fnd (pgm m_X5_refuse) 29 = some (32, 33, 20, 5, 2, []) from rfl) hk
set_option maxRecDepth 100000 in
theorem s_X5_refuse_32 {d : Nat} {l0 l1 l2 : AV} {st : List AV} {σ : Sg} {Q : AV → Sg → Prop}  : Rn d m_X5_refuse 32 [l0, l1, l2] st σ Q ↔ Rn d m_X5_refuse 33 [l0, l1, l2] (vI 0 :: st) σ Q := q0 (show fnd (pgm m_X5_refuse) 32 = some (33, 0, 0, 0, 0, []) from rfl)
set_option maxRecDepth 100000 in
theorem s_X5_refuse_33 {d : Nat} {l0 l1 l2 : AV} {st : List AV} {a : Int} {o : Nat} {σ : Sg} {Q : AV → Sg → Prop}  : Rn d m_X5_refuse 33 [l0, l1, l2] (vI a :: vR o :: st) σ Q ↔ Rn d m_X5_refuse 34 [l0, l1, l2] (vI a :: vR o :: vI a :: vR o :: st) σ Q := q18 (show fnd (pgm m_X5_refuse) 33 = some (34, 18, 0, 0, 0, []) from rfl)
set_option maxRecDepth 100000 in
theorem s_X5_refuse_34 {d : Nat} {l0 l1 l2 : AV} {st : List AV} {i : Int} {o : Nat} {σ : Sg} {Q : AV → Sg → Prop} (hi : 0 ≤ w32 i ∧ w32 i < al σ 1 o) : Rn d m_X5_refuse 34 [l0, l1, l2] (vI i :: vR o :: st) σ Q ↔ Rn d m_X5_refuse 35 [l0, l1, l2] (vI (σ o (w32 i)) :: st) σ Q := q25 (show fnd (pgm m_X5_refuse) 34 = some (35, 25, 0, 0, 0, []) from rfl) hi
set_option maxRecDepth 100000 in
theorem s_X5_refuse_35 {d : Nat} {l0 l1 l2 : AV} {st : List AV} {σ : Sg} {Q : AV → Sg → Prop}  : Rn d m_X5_refuse 35 [l0, l1, l2] st σ Q ↔ Rn d m_X5_refuse 36 [l0, l1, l2] (vI 1 :: st) σ Q := q0 (show fnd (pgm m_X5_refuse) 35 = some (36, 0, 1, 0, 0, []) from rfl)
set_option maxRecDepth 100000 in
theorem s_X5_refuse_36 {d : Nat} {l0 l1 l2 : AV} {st : List AV} {a b : Int} {σ : Sg} {Q : AV → Sg → Prop}  : Rn d m_X5_refuse 36 [l0, l1, l2] (vI b :: vI a :: st) σ Q ↔ Rn d m_X5_refuse 37 [l0, l1, l2] (vI (a + b) :: st) σ Q := q10_0 (show fnd (pgm m_X5_refuse) 36 = some (37, 10, 0, 0, 0, []) from rfl)
set_option maxRecDepth 100000 in
theorem s_X5_refuse_37 {d : Nat} {l0 l1 l2 : AV} {st : List AV} {i x : Int} {o : Nat} {σ : Sg} {Q : AV → Sg → Prop} (hi : 0 ≤ w32 i ∧ w32 i < al σ 1 o) : Rn d m_X5_refuse 37 [l0, l1, l2] (vI x :: vI i :: vR o :: st) σ Q ↔ Rn d m_X5_refuse 38 [l0, l1, l2] st (up σ o (w32 i) x) Q := q29 (show fnd (pgm m_X5_refuse) 37 = some (38, 29, 0, 0, 0, []) from rfl) hi
set_option maxRecDepth 100000 in
theorem s_X5_refuse_38 {d : Nat} {l0 l1 l2 : AV} {st : List AV} {σ : Sg} {Q : AV → Sg → Prop}  : Rn d m_X5_refuse 38 [l0, l1, l2] st σ Q ↔ Rn d m_X5_refuse 64 [l0, l1, l2] st σ Q := q21 (show fnd (pgm m_X5_refuse) 38 = some (41, 21, 0, 0, 64, []) from rfl)
set_option maxRecDepth 100000 in
theorem s_X5_refuse_41 {d : Nat} {l1 l2 : AV} {st : List AV} {o : Nat} {σ : Sg} {Q : AV → Sg → Prop} (ho : o ≠ 0) : Rn d m_X5_refuse 41 [vR o, l1, l2] st σ Q ↔ Rn d m_X5_refuse 42 [vR o, l1, l2] (vR o :: st) σ Q := q5 (show fnd (pgm m_X5_refuse) 41 = some (42, 5, 0, 0, 0, []) from rfl) rfl ho
set_option maxRecDepth 100000 in
theorem s_X5_refuse_42 {d : Nat} {l0 l1 l2 : AV} {st : List AV} {o : Nat} {σ : Sg} {Q : AV → Sg → Prop} (hk : kn σ o = (0, 5)) : Rn d m_X5_refuse 42 [l0, l1, l2] (vR o :: st) σ Q ↔ Rn d m_X5_refuse 45 [l0, l1, l2] (vR (tp o 2) :: st) σ Q := q33 (show fnd (pgm m_X5_refuse) 42 = some (45, 33, 20, 5, 2, []) from rfl) hk
set_option maxRecDepth 100000 in
theorem s_X5_refuse_45 {d : Nat} {l0 l1 l2 : AV} {st : List AV} {σ : Sg} {Q : AV → Sg → Prop}  : Rn d m_X5_refuse 45 [l0, l1, l2] st σ Q ↔ Rn d m_X5_refuse 46 [l0, l1, l2] (vI 1 :: st) σ Q := q0 (show fnd (pgm m_X5_refuse) 45 = some (46, 0, 1, 0, 0, []) from rfl)
set_option maxRecDepth 100000 in
theorem s_X5_refuse_46 {d : Nat} {l0 l1 l2 : AV} {st : List AV} {a : Int} {o : Nat} {σ : Sg} {Q : AV → Sg → Prop}  : Rn d m_X5_refuse 46 [l0, l1, l2] (vI a :: vR o :: st) σ Q ↔ Rn d m_X5_refuse 47 [l0, l1, l2] (vI a :: vR o :: vI a :: vR o :: st) σ Q := q18 (show fnd (pgm m_X5_refuse) 46 = some (47, 18, 0, 0, 0, []) from rfl)
set_option maxRecDepth 100000 in
theorem s_X5_refuse_47 {d : Nat} {l0 l1 l2 : AV} {st : List AV} {i : Int} {o : Nat} {σ : Sg} {Q : AV → Sg → Prop} (hi : 0 ≤ w32 i ∧ w32 i < al σ 1 o) : Rn d m_X5_refuse 47 [l0, l1, l2] (vI i :: vR o :: st) σ Q ↔ Rn d m_X5_refuse 48 [l0, l1, l2] (vI (σ o (w32 i)) :: st) σ Q := q25 (show fnd (pgm m_X5_refuse) 47 = some (48, 25, 0, 0, 0, []) from rfl) hi
set_option maxRecDepth 100000 in
theorem s_X5_refuse_48 {d : Nat} {l0 l1 l2 : AV} {st : List AV} {σ : Sg} {Q : AV → Sg → Prop}  : Rn d m_X5_refuse 48 [l0, l1, l2] st σ Q ↔ Rn d m_X5_refuse 49 [l0, l1, l2] (vI 1 :: st) σ Q := q0 (show fnd (pgm m_X5_refuse) 48 = some (49, 0, 1, 0, 0, []) from rfl)
set_option maxRecDepth 100000 in
theorem s_X5_refuse_49 {d : Nat} {l0 l1 l2 : AV} {st : List AV} {a b : Int} {σ : Sg} {Q : AV → Sg → Prop}  : Rn d m_X5_refuse 49 [l0, l1, l2] (vI b :: vI a :: st) σ Q ↔ Rn d m_X5_refuse 50 [l0, l1, l2] (vI (a + b) :: st) σ Q := q10_0 (show fnd (pgm m_X5_refuse) 49 = some (50, 10, 0, 0, 0, []) from rfl)
set_option maxRecDepth 100000 in
theorem s_X5_refuse_50 {d : Nat} {l0 l1 l2 : AV} {st : List AV} {i x : Int} {o : Nat} {σ : Sg} {Q : AV → Sg → Prop} (hi : 0 ≤ w32 i ∧ w32 i < al σ 1 o) : Rn d m_X5_refuse 50 [l0, l1, l2] (vI x :: vI i :: vR o :: st) σ Q ↔ Rn d m_X5_refuse 51 [l0, l1, l2] st (up σ o (w32 i) x) Q := q29 (show fnd (pgm m_X5_refuse) 50 = some (51, 29, 0, 0, 0, []) from rfl) hi
set_option maxRecDepth 100000 in
theorem s_X5_refuse_51 {d : Nat} {l0 l1 l2 : AV} {st : List AV} {σ : Sg} {Q : AV → Sg → Prop}  : Rn d m_X5_refuse 51 [l0, l1, l2] st σ Q ↔ Rn d m_X5_refuse 64 [l0, l1, l2] st σ Q := q21 (show fnd (pgm m_X5_refuse) 51 = some (54, 21, 0, 0, 64, []) from rfl)
set_option maxRecDepth 100000 in
theorem s_X5_refuse_54 {d : Nat} {l1 l2 : AV} {st : List AV} {o : Nat} {σ : Sg} {Q : AV → Sg → Prop} (ho : o ≠ 0) : Rn d m_X5_refuse 54 [vR o, l1, l2] st σ Q ↔ Rn d m_X5_refuse 55 [vR o, l1, l2] (vR o :: st) σ Q := q5 (show fnd (pgm m_X5_refuse) 54 = some (55, 5, 0, 0, 0, []) from rfl) rfl ho
set_option maxRecDepth 100000 in
theorem s_X5_refuse_55 {d : Nat} {l0 l1 l2 : AV} {st : List AV} {o : Nat} {σ : Sg} {Q : AV → Sg → Prop} (hk : kn σ o = (0, 5)) : Rn d m_X5_refuse 55 [l0, l1, l2] (vR o :: st) σ Q ↔ Rn d m_X5_refuse 58 [l0, l1, l2] (vR (tp o 2) :: st) σ Q := q33 (show fnd (pgm m_X5_refuse) 55 = some (58, 33, 20, 5, 2, []) from rfl) hk
set_option maxRecDepth 100000 in
theorem s_X5_refuse_58 {d : Nat} {l0 l1 l2 : AV} {st : List AV} {σ : Sg} {Q : AV → Sg → Prop}  : Rn d m_X5_refuse 58 [l0, l1, l2] st σ Q ↔ Rn d m_X5_refuse 59 [l0, l1, l2] (vI 2 :: st) σ Q := q0 (show fnd (pgm m_X5_refuse) 58 = some (59, 0, 2, 0, 0, []) from rfl)
set_option maxRecDepth 100000 in
theorem s_X5_refuse_59 {d : Nat} {l0 l1 l2 : AV} {st : List AV} {a : Int} {o : Nat} {σ : Sg} {Q : AV → Sg → Prop}  : Rn d m_X5_refuse 59 [l0, l1, l2] (vI a :: vR o :: st) σ Q ↔ Rn d m_X5_refuse 60 [l0, l1, l2] (vI a :: vR o :: vI a :: vR o :: st) σ Q := q18 (show fnd (pgm m_X5_refuse) 59 = some (60, 18, 0, 0, 0, []) from rfl)
set_option maxRecDepth 100000 in
theorem s_X5_refuse_60 {d : Nat} {l0 l1 l2 : AV} {st : List AV} {i : Int} {o : Nat} {σ : Sg} {Q : AV → Sg → Prop} (hi : 0 ≤ w32 i ∧ w32 i < al σ 1 o) : Rn d m_X5_refuse 60 [l0, l1, l2] (vI i :: vR o :: st) σ Q ↔ Rn d m_X5_refuse 61 [l0, l1, l2] (vI (σ o (w32 i)) :: st) σ Q := q25 (show fnd (pgm m_X5_refuse) 60 = some (61, 25, 0, 0, 0, []) from rfl) hi
set_option maxRecDepth 100000 in
theorem s_X5_refuse_61 {d : Nat} {l0 l1 l2 : AV} {st : List AV} {σ : Sg} {Q : AV → Sg → Prop}  : Rn d m_X5_refuse 61 [l0, l1, l2] st σ Q ↔ Rn d m_X5_refuse 62 [l0, l1, l2] (vI 1 :: st) σ Q := q0 (show fnd (pgm m_X5_refuse) 61 = some (62, 0, 1, 0, 0, []) from rfl)
set_option maxRecDepth 100000 in
theorem s_X5_refuse_62 {d : Nat} {l0 l1 l2 : AV} {st : List AV} {a b : Int} {σ : Sg} {Q : AV → Sg → Prop}  : Rn d m_X5_refuse 62 [l0, l1, l2] (vI b :: vI a :: st) σ Q ↔ Rn d m_X5_refuse 63 [l0, l1, l2] (vI (a + b) :: st) σ Q := q10_0 (show fnd (pgm m_X5_refuse) 62 = some (63, 10, 0, 0, 0, []) from rfl)
set_option maxRecDepth 100000 in
theorem s_X5_refuse_63 {d : Nat} {l0 l1 l2 : AV} {st : List AV} {i x : Int} {o : Nat} {σ : Sg} {Q : AV → Sg → Prop} (hi : 0 ≤ w32 i ∧ w32 i < al σ 1 o) : Rn d m_X5_refuse 63 [l0, l1, l2] (vI x :: vI i :: vR o :: st) σ Q ↔ Rn d m_X5_refuse 64 [l0, l1, l2] st (up σ o (w32 i) x) Q := q29 (show fnd (pgm m_X5_refuse) 63 = some (64, 29, 0, 0, 0, []) from rfl) hi
set_option maxRecDepth 100000 in
theorem s_X5_refuse_64 {d : Nat} {l0 l1 : AV} {st : List AV} {x : Int} {σ : Sg} {Q : AV → Sg → Prop}  : Rn d m_X5_refuse 64 [l0, l1, vI x] st σ Q ↔ Rn d m_X5_refuse 65 [l0, l1, vI x] (vI x :: st) σ Q := q3 (show fnd (pgm m_X5_refuse) 64 = some (65, 3, 0, 2, 0, []) from rfl) rfl
set_option maxRecDepth 100000 in
theorem s_X5_refuse_65 {d : Nat} {l0 l1 l2 : AV} {x : Int} {σ : Sg} {Q : AV → Sg → Prop}  : Rn d m_X5_refuse 65 [l0, l1, l2] [vI x] σ Q ↔ Q (vI x) σ := q37_1 (st := []) (show fnd (pgm m_X5_refuse) 65 = some (66, 37, 0, 1, 0, []) from rfl)
set_option maxRecDepth 100000 in
theorem en_X5_walkAll {d : Nat} {o : Nat} {a0 : Int} {σ σ0 : Sg} {r0 : AV} (h : Rn d m_X5_walkAll 0 [vR o, vI a0] [] σ (fun r σ1 => r = r0 ∧ σ1 = σ0)) : Ev (d + 1) m_X5_walkAll [vR o, vI a0] σ r0 σ0 := Ev_is (Nat.le_of_ble_eq_true rfl) h
set_option maxRecDepth 100000 in
theorem eo_X5_walkAll {d : Nat} {o : Nat} {a0 : Int} {σ : Sg} {Q : AV → Sg → Prop} (h : Rn d m_X5_walkAll 0 [vR o, vI a0] [] σ Q) : ∃ r σ1, Ev (d + 1) m_X5_walkAll [vR o, vI a0] σ r σ1 ∧ Q r σ1 := Ev_of (Nat.le_of_ble_eq_true rfl) h
set_option maxRecDepth 100000 in
theorem s_X5_walkAll_0 {d : Nat} {l1 : AV} {st : List AV} {o : Nat} {σ : Sg} {Q : AV → Sg → Prop} (ho : o ≠ 0) : Rn d m_X5_walkAll 0 [vR o, l1] st σ Q ↔ Rn d m_X5_walkAll 1 [vR o, l1] (vR o :: st) σ Q := q5 (show fnd (pgm m_X5_walkAll) 0 = some (1, 5, 0, 0, 0, []) from rfl) rfl ho
set_option maxRecDepth 100000 in
theorem s_X5_walkAll_1 {d : Nat} {l0 l1 : AV} {st : List AV} {o : Nat} {σ : Sg} {Q : AV → Sg → Prop} (hk : kn σ o = (0, 5)) : Rn d m_X5_walkAll 1 [l0, l1] (vR o :: st) σ Q ↔ Rn d m_X5_walkAll 4 [l0, l1] (vR (tp o 3) :: st) σ Q := q33 (show fnd (pgm m_X5_walkAll) 1 = some (4, 33, 27, 5, 3, []) from rfl) hk
set_option maxRecDepth 100000 in
theorem s_X5_walkAll_4 {d : Nat} {l1 : AV} {st : List AV} {o : Nat} {σ : Sg} {Q : AV → Sg → Prop} (ho : o ≠ 0) : Rn d m_X5_walkAll 4 [vR o, l1] st σ Q ↔ Rn d m_X5_walkAll 5 [vR o, l1] (vR o :: st) σ Q := q5 (show fnd (pgm m_X5_walkAll) 4 = some (5, 5, 0, 0, 0, []) from rfl) rfl ho
set_option maxRecDepth 100000 in
theorem s_X5_walkAll_5 {d : Nat} {l0 l1 : AV} {st : List AV} {o : Nat} {σ : Sg} {Q : AV → Sg → Prop} (hk : kn σ o = (0, 5)) : Rn d m_X5_walkAll 5 [l0, l1] (vR o :: st) σ Q ↔ Rn d m_X5_walkAll 8 [l0, l1] (vR (tp o 0) :: st) σ Q := q33 (show fnd (pgm m_X5_walkAll) 5 = some (8, 33, 12, 5, 0, []) from rfl) hk
set_option maxRecDepth 100000 in
theorem s_X5_walkAll_8 {d : Nat} {l0 l1 : AV} {st : List AV} {σ : Sg} {Q : AV → Sg → Prop}  : Rn d m_X5_walkAll 8 [l0, l1] st σ Q ↔ Rn d m_X5_walkAll 10 [l0, l1] (vI 63 :: st) σ Q := q0 (show fnd (pgm m_X5_walkAll) 8 = some (10, 0, 63, 1, 0, []) from rfl)
set_option maxRecDepth 100000 in
theorem s_X5_walkAll_10 {d : Nat} {l1 : AV} {st : List AV} {o : Nat} {σ : Sg} {Q : AV → Sg → Prop} (ho : o ≠ 0) : Rn d m_X5_walkAll 10 [vR o, l1] st σ Q ↔ Rn d m_X5_walkAll 11 [vR o, l1] (vR o :: st) σ Q := q5 (show fnd (pgm m_X5_walkAll) 10 = some (11, 5, 0, 0, 0, []) from rfl) rfl ho
set_option maxRecDepth 100000 in
theorem s_X5_walkAll_11 {d : Nat} {l0 l1 : AV} {st : List AV} {o : Nat} {σ : Sg} {Q : AV → Sg → Prop} (hk : kn σ o = (0, 5)) : Rn d m_X5_walkAll 11 [l0, l1] (vR o :: st) σ Q ↔ Rn d m_X5_walkAll 14 [l0, l1] (vR (tp o 0) :: st) σ Q := q33 (show fnd (pgm m_X5_walkAll) 11 = some (14, 33, 12, 5, 0, []) from rfl) hk
set_option maxRecDepth 100000 in
theorem s_X5_walkAll_14 {d : Nat} {l0 l1 : AV} {st : List AV} {o : Nat} {σ : Sg} {Q : AV → Sg → Prop} (hk : kn σ o = (0, 0)) : Rn d m_X5_walkAll 14 [l0, l1] (vR o :: st) σ Q ↔ Rn d m_X5_walkAll 17 [l0, l1] (vR (tp o 2) :: st) σ Q := q33 (show fnd (pgm m_X5_walkAll) 14 = some (17, 33, 181, 0, 2, []) from rfl) hk
set_option maxRecDepth 100000 in
theorem s_X5_walkAll_17 {d : Nat} {l0 l1 : AV} {st : List AV} {o : Nat} {a0 : Nat} {a1 : Int} {a2 : Nat} {σ : Sg} {Q : AV → Sg → Prop} (h4 : st.length ≤ 4) (hk : kn σ o = (0, 4)) : Rn d m_X5_walkAll 17 [l0, l1] (vR a2 :: vI a1 :: vR a0 :: vR o :: st) σ Q ↔ ∃ r σ1, Ev d m_X4_start [vR o, vR a0, vI a1, vR a2] σ r σ1 ∧ Rn d m_X5_walkAll 20 [l0, l1] (psh r st) σ1 Q := q35 (show fnd (pgm m_X5_walkAll) 17 = some (20, 35, 207, 34, 4, []) from rfl) ⟨⟨by simp, by simpa using h4⟩, (by simp only [List.take, List.reverse, List.reverseAux, rcv]; rw [if_neg (by decide +kernel)]; exact decide_eq_true hk)⟩
set_option maxRecDepth 100000 in
theorem s_X5_walkAll_20 {d : Nat} {l1 : AV} {st : List AV} {o : Nat} {σ : Sg} {Q : AV → Sg → Prop} (ho : o ≠ 0) : Rn d m_X5_walkAll 20 [vR o, l1] st σ Q ↔ Rn d m_X5_walkAll 21 [vR o, l1] (vR o :: st) σ Q := q5 (show fnd (pgm m_X5_walkAll) 20 = some (21, 5, 0, 0, 0, []) from rfl) rfl ho
set_option maxRecDepth 100000 in
theorem s_X5_walkAll_21 {d : Nat} {l0 l1 : AV} {st : List AV} {o : Nat} {σ : Sg} {Q : AV → Sg → Prop} (hk : kn σ o = (0, 5)) : Rn d m_X5_walkAll 21 [l0, l1] (vR o :: st) σ Q ↔ Rn d m_X5_walkAll 24 [l0, l1] (vR (tp o 3) :: st) σ Q := q33 (show fnd (pgm m_X5_walkAll) 21 = some (24, 33, 27, 5, 3, []) from rfl) hk
set_option maxRecDepth 100000 in
theorem s_X5_walkAll_24 {d : Nat} {l1 : AV} {st : List AV} {o : Nat} {σ : Sg} {Q : AV → Sg → Prop} (ho : o ≠ 0) : Rn d m_X5_walkAll 24 [vR o, l1] st σ Q ↔ Rn d m_X5_walkAll 25 [vR o, l1] (vR o :: st) σ Q := q5 (show fnd (pgm m_X5_walkAll) 24 = some (25, 5, 0, 0, 0, []) from rfl) rfl ho
set_option maxRecDepth 100000 in
theorem s_X5_walkAll_25 {d : Nat} {l0 l1 : AV} {st : List AV} {o : Nat} {σ : Sg} {Q : AV → Sg → Prop} (hk : kn σ o = (0, 5)) : Rn d m_X5_walkAll 25 [l0, l1] (vR o :: st) σ Q ↔ Rn d m_X5_walkAll 28 [l0, l1] (vR (tp o 0) :: st) σ Q := q33 (show fnd (pgm m_X5_walkAll) 25 = some (28, 33, 12, 5, 0, []) from rfl) hk
set_option maxRecDepth 100000 in
theorem s_X5_walkAll_28 {d : Nat} {l0 l1 : AV} {st : List AV} {o : Nat} {σ : Sg} {Q : AV → Sg → Prop} (hk : kn σ o = (0, 0)) : Rn d m_X5_walkAll 28 [l0, l1] (vR o :: st) σ Q ↔ Rn d m_X5_walkAll 31 [l0, l1] (vR (tp o 7) :: st) σ Q := q33 (show fnd (pgm m_X5_walkAll) 28 = some (31, 33, 105, 0, 7, []) from rfl) hk
set_option maxRecDepth 100000 in
theorem s_X5_walkAll_31 {d : Nat} {l0 l1 : AV} {st : List AV} {σ : Sg} {Q : AV → Sg → Prop}  : Rn d m_X5_walkAll 31 [l0, l1] st σ Q ↔ Rn d m_X5_walkAll 32 [l0, l1] (vI 0 :: st) σ Q := q0 (show fnd (pgm m_X5_walkAll) 31 = some (32, 0, 0, 0, 0, []) from rfl)
set_option maxRecDepth 100000 in
theorem s_X5_walkAll_32 {d : Nat} {l0 : AV} {st : List AV} {x : Int} {σ : Sg} {Q : AV → Sg → Prop}  : Rn d m_X5_walkAll 32 [l0, vI x] st σ Q ↔ Rn d m_X5_walkAll 33 [l0, vI x] (vI x :: st) σ Q := q3 (show fnd (pgm m_X5_walkAll) 32 = some (33, 3, 0, 1, 0, []) from rfl) rfl
set_option maxRecDepth 100000 in
theorem s_X5_walkAll_33 {d : Nat} {l0 l1 : AV} {st : List AV} {o : Nat} {a0 : Nat} {a1 : Int} {a2 : Int} {σ : Sg} {Q : AV → Sg → Prop} (h4 : st.length ≤ 4) (hk : kn σ o = (0, 4)) : Rn d m_X5_walkAll 33 [l0, l1] (vI a2 :: vI a1 :: vR a0 :: vR o :: st) σ Q ↔ ∃ r σ1, Ev d m_X4_go [vR o, vR a0, vI a1, vI a2] σ r σ1 ∧ Rn d m_X5_walkAll 36 [l0, l1] (psh r st) σ1 Q := q35 (show fnd (pgm m_X5_walkAll) 33 = some (36, 35, 211, 35, 4, []) from rfl) ⟨⟨by simp, by simpa using h4⟩, (by simp only [List.take, List.reverse, List.reverseAux, rcv]; rw [if_neg (by decide +kernel)]; exact decide_eq_true hk)⟩
set_option maxRecDepth 100000 in
theorem s_X5_walkAll_36 {d : Nat} {l0 l1 : AV} {σ : Sg} {Q : AV → Sg → Prop}  : Rn d m_X5_walkAll 36 [l0, l1] [] σ Q ↔ Q none σ := q37_0 (st := []) (show fnd (pgm m_X5_walkAll) 36 = some (37, 37, 0, 0, 0, []) from rfl)
set_option maxRecDepth 100000 in
theorem en_X5_cellWithStake {d : Nat} {o : Nat} {a0 : Int} {a1 : Int} {a2 : Int} {σ σ0 : Sg} {r0 : AV} (h : Rn d m_X5_cellWithStake 0 [vR o, vI a0, vI a1, vI a2] [] σ (fun r σ1 => r = r0 ∧ σ1 = σ0)) : Ev (d + 1) m_X5_cellWithStake [vR o, vI a0, vI a1, vI a2] σ r0 σ0 := Ev_is (Nat.le_of_ble_eq_true rfl) h
set_option maxRecDepth 100000 in
theorem eo_X5_cellWithStake {d : Nat} {o : Nat} {a0 : Int} {a1 : Int} {a2 : Int} {σ : Sg} {Q : AV → Sg → Prop} (h : Rn d m_X5_cellWithStake 0 [vR o, vI a0, vI a1, vI a2] [] σ Q) : ∃ r σ1, Ev (d + 1) m_X5_cellWithStake [vR o, vI a0, vI a1, vI a2] σ r σ1 ∧ Q r σ1 := Ev_of (Nat.le_of_ble_eq_true rfl) h
set_option maxRecDepth 100000 in
theorem s_X5_cellWithStake_0 {d : Nat} {l1 l2 l3 : AV} {st : List AV} {o : Nat} {σ : Sg} {Q : AV → Sg → Prop} (ho : o ≠ 0) : Rn d m_X5_cellWithStake 0 [vR o, l1, l2, l3] st σ Q ↔ Rn d m_X5_cellWithStake 1 [vR o, l1, l2, l3] (vR o :: st) σ Q := q5 (show fnd (pgm m_X5_cellWithStake) 0 = some (1, 5, 0, 0, 0, []) from rfl) rfl ho
set_option maxRecDepth 100000 in
theorem s_X5_cellWithStake_1 {d : Nat} {l0 l1 l2 l3 : AV} {st : List AV} {o : Nat} {σ : Sg} {Q : AV → Sg → Prop} (hk : kn σ o = (0, 5)) : Rn d m_X5_cellWithStake 1 [l0, l1, l2, l3] (vR o :: st) σ Q ↔ Rn d m_X5_cellWithStake 4 [l0, l1, l2, l3] (vR (tp o 0) :: st) σ Q := q33 (show fnd (pgm m_X5_cellWithStake) 1 = some (4, 33, 12, 5, 0, []) from rfl) hk
set_option maxRecDepth 100000 in
theorem s_X5_cellWithStake_4 {d : Nat} {l0 l1 l2 l3 : AV} {st : List AV} {o : Nat} {σ : Sg} {Q : AV → Sg → Prop} (hk : kn σ o = (0, 0)) : Rn d m_X5_cellWithStake 4 [l0, l1, l2, l3] (vR o :: st) σ Q ↔ Rn d m_X5_cellWithStake 7 [l0, l1, l2, l3] (vR (tp o 6) :: st) σ Q := q33 (show fnd (pgm m_X5_cellWithStake) 4 = some (7, 33, 92, 0, 6, []) from rfl) hk
set_option maxRecDepth 100000 in
theorem s_X5_cellWithStake_7 {d : Nat} {l0 l2 l3 : AV} {st : List AV} {x : Int} {σ : Sg} {Q : AV → Sg → Prop}  : Rn d m_X5_cellWithStake 7 [l0, vI x, l2, l3] st σ Q ↔ Rn d m_X5_cellWithStake 8 [l0, vI x, l2, l3] (vI x :: st) σ Q := q3 (show fnd (pgm m_X5_cellWithStake) 7 = some (8, 3, 0, 1, 0, []) from rfl) rfl
set_option maxRecDepth 100000 in
theorem s_X5_cellWithStake_8 {d : Nat} {l0 l1 l2 l3 : AV} {st : List AV} {σ : Sg} {Q : AV → Sg → Prop}  : Rn d m_X5_cellWithStake 8 [l0, l1, l2, l3] st σ Q ↔ Rn d m_X5_cellWithStake 9 [l0, l1, l2, l3] (vI 1 :: st) σ Q := q0 (show fnd (pgm m_X5_cellWithStake) 8 = some (9, 0, 1, 0, 0, []) from rfl)
set_option maxRecDepth 100000 in
theorem s_X5_cellWithStake_9 {d : Nat} {l0 l1 l2 l3 : AV} {st : List AV} {i x : Int} {o : Nat} {σ : Sg} {Q : AV → Sg → Prop} (hi : 0 ≤ w32 i ∧ w32 i < al σ 1 o) : Rn d m_X5_cellWithStake 9 [l0, l1, l2, l3] (vI x :: vI i :: vR o :: st) σ Q ↔ Rn d m_X5_cellWithStake 10 [l0, l1, l2, l3] st (up σ o (w32 i) x) Q := q29 (show fnd (pgm m_X5_cellWithStake) 9 = some (10, 29, 0, 0, 0, []) from rfl) hi
set_option maxRecDepth 100000 in
theorem s_X5_cellWithStake_10 {d : Nat} {l1 l2 l3 : AV} {st : List AV} {o : Nat} {σ : Sg} {Q : AV → Sg → Prop} (ho : o ≠ 0) : Rn d m_X5_cellWithStake 10 [vR o, l1, l2, l3] st σ Q ↔ Rn d m_X5_cellWithStake 11 [vR o, l1, l2, l3] (vR o :: st) σ Q := q5 (show fnd (pgm m_X5_cellWithStake) 10 = some (11, 5, 0, 0, 0, []) from rfl) rfl ho
set_option maxRecDepth 100000 in
theorem s_X5_cellWithStake_11 {d : Nat} {l0 l1 l2 : AV} {st : List AV} {x : Int} {σ : Sg} {Q : AV → Sg → Prop}  : Rn d m_X5_cellWithStake 11 [l0, l1, l2, vI x] st σ Q ↔ Rn d m_X5_cellWithStake 12 [l0, l1, l2, vI x] (vI x :: st) σ Q := q3 (show fnd (pgm m_X5_cellWithStake) 11 = some (12, 3, 0, 3, 0, []) from rfl) rfl
set_option maxRecDepth 100000 in
theorem s_X5_cellWithStake_12 {d : Nat} {l0 l1 l2 l3 : AV} {st : List AV} {o : Nat} {a0 : Int} {σ : Sg} {Q : AV → Sg → Prop} (h4 : st.length ≤ 4) (hk : kn σ o = (0, 5)) : Rn d m_X5_cellWithStake 12 [l0, l1, l2, l3] (vI a0 :: vR o :: st) σ Q ↔ ∃ r σ1, Ev d m_X5_walkAll [vR o, vI a0] σ r σ1 ∧ Rn d m_X5_cellWithStake 15 [l0, l1, l2, l3] (psh r st) σ1 Q := q35 (show fnd (pgm m_X5_cellWithStake) 12 = some (15, 35, 138, 93, 2, []) from rfl) ⟨⟨by simp, by simpa using h4⟩, (by simp only [List.take, List.reverse, List.reverseAux, rcv]; rw [if_neg (by decide +kernel)]; exact decide_eq_true hk)⟩
set_option maxRecDepth 100000 in
theorem s_X5_cellWithStake_15 {d : Nat} {l1 l2 l3 : AV} {st : List AV} {o : Nat} {σ : Sg} {Q : AV → Sg → Prop} (ho : o ≠ 0) : Rn d m_X5_cellWithStake 15 [vR o, l1, l2, l3] st σ Q ↔ Rn d m_X5_cellWithStake 16 [vR o, l1, l2, l3] (vR o :: st) σ Q := q5 (show fnd (pgm m_X5_cellWithStake) 15 = some (16, 5, 0, 0, 0, []) from rfl) rfl ho
set_option maxRecDepth 100000 in
theorem s_X5_cellWithStake_16 {d : Nat} {l0 l1 l2 l3 : AV} {st : List AV} {o : Nat} {σ : Sg} {Q : AV → Sg → Prop} (hk : kn σ o = (0, 5)) : Rn d m_X5_cellWithStake 16 [l0, l1, l2, l3] (vR o :: st) σ Q ↔ Rn d m_X5_cellWithStake 19 [l0, l1, l2, l3] (vR (tp o 0) :: st) σ Q := q33 (show fnd (pgm m_X5_cellWithStake) 16 = some (19, 33, 12, 5, 0, []) from rfl) hk
set_option maxRecDepth 100000 in
theorem s_X5_cellWithStake_19 {d : Nat} {l0 l1 l2 l3 : AV} {st : List AV} {o : Nat} {σ : Sg} {Q : AV → Sg → Prop} (hk : kn σ o = (0, 0)) : Rn d m_X5_cellWithStake 19 [l0, l1, l2, l3] (vR o :: st) σ Q ↔ Rn d m_X5_cellWithStake 22 [l0, l1, l2, l3] (vR (tp o 6) :: st) σ Q := q33 (show fnd (pgm m_X5_cellWithStake) 19 = some (22, 33, 92, 0, 6, []) from rfl) hk
set_option maxRecDepth 100000 in
theorem s_X5_cellWithStake_22 {d : Nat} {l0 l2 l3 : AV} {st : List AV} {x : Int} {σ : Sg} {Q : AV → Sg → Prop}  : Rn d m_X5_cellWithStake 22 [l0, vI x, l2, l3] st σ Q ↔ Rn d m_X5_cellWithStake 23 [l0, vI x, l2, l3] (vI x :: st) σ Q := q3 (show fnd (pgm m_X5_cellWithStake) 22 = some (23, 3, 0, 1, 0, []) from rfl) rfl
set_option maxRecDepth 100000 in
theorem s_X5_cellWithStake_23 {d : Nat} {l0 l1 l2 l3 : AV} {st : List AV} {σ : Sg} {Q : AV → Sg → Prop}  : Rn d m_X5_cellWithStake 23 [l0, l1, l2, l3] st σ Q ↔ Rn d m_X5_cellWithStake 24 [l0, l1, l2, l3] (vI 0 :: st) σ Q := q0 (show fnd (pgm m_X5_cellWithStake) 23 = some (24, 0, 0, 0, 0, []) from rfl)
set_option maxRecDepth 100000 in
theorem s_X5_cellWithStake_24 {d : Nat} {l0 l1 l2 l3 : AV} {st : List AV} {i x : Int} {o : Nat} {σ : Sg} {Q : AV → Sg → Prop} (hi : 0 ≤ w32 i ∧ w32 i < al σ 1 o) : Rn d m_X5_cellWithStake 24 [l0, l1, l2, l3] (vI x :: vI i :: vR o :: st) σ Q ↔ Rn d m_X5_cellWithStake 25 [l0, l1, l2, l3] st (up σ o (w32 i) x) Q := q29 (show fnd (pgm m_X5_cellWithStake) 24 = some (25, 29, 0, 0, 0, []) from rfl) hi
set_option maxRecDepth 100000 in
theorem s_X5_cellWithStake_25 {d : Nat} {l1 l2 l3 : AV} {st : List AV} {o : Nat} {σ : Sg} {Q : AV → Sg → Prop} (ho : o ≠ 0) : Rn d m_X5_cellWithStake 25 [vR o, l1, l2, l3] st σ Q ↔ Rn d m_X5_cellWithStake 26 [vR o, l1, l2, l3] (vR o :: st) σ Q := q5 (show fnd (pgm m_X5_cellWithStake) 25 = some (26, 5, 0, 0, 0, []) from rfl) rfl ho
set_option maxRecDepth 100000 in
theorem s_X5_cellWithStake_26 {d : Nat} {l0 l1 l2 l3 : AV} {st : List AV} {o : Nat} {σ : Sg} {Q : AV → Sg → Prop} (hk : kn σ o = (0, 5)) : Rn d m_X5_cellWithStake 26 [l0, l1, l2, l3] (vR o :: st) σ Q ↔ Rn d m_X5_cellWithStake 29 [l0, l1, l2, l3] (vR (tp o 3) :: st) σ Q := q33 (show fnd (pgm m_X5_cellWithStake) 26 = some (29, 33, 27, 5, 3, []) from rfl) hk
set_option maxRecDepth 100000 in
theorem s_X5_cellWithStake_29 {d : Nat} {l0 l1 l2 l3 : AV} {st : List AV} {o : Nat} {σ : Sg} {Q : AV → Sg → Prop} (hk : kn σ o = (0, 4)) : Rn d m_X5_cellWithStake 29 [l0, l1, l2, l3] (vR o :: st) σ Q ↔ Rn d m_X5_cellWithStake 32 [l0, l1, l2, l3] (vR (tp o 0) :: st) σ Q := q33 (show fnd (pgm m_X5_cellWithStake) 29 = some (32, 33, 141, 4, 0, []) from rfl) hk
set_option maxRecDepth 100000 in
theorem s_X5_cellWithStake_32 {d : Nat} {l0 l1 l3 : AV} {st : List AV} {x : Int} {σ : Sg} {Q : AV → Sg → Prop}  : Rn d m_X5_cellWithStake 32 [l0, l1, vI x, l3] st σ Q ↔ Rn d m_X5_cellWithStake 33 [l0, l1, vI x, l3] (vI x :: st) σ Q := q3 (show fnd (pgm m_X5_cellWithStake) 32 = some (33, 3, 0, 2, 0, []) from rfl) rfl
set_option maxRecDepth 100000 in
theorem s_X5_cellWithStake_33 {d : Nat} {l0 l1 l2 l3 : AV} {st : List AV} {i : Int} {o : Nat} {σ : Sg} {Q : AV → Sg → Prop} (hi : 0 ≤ w32 i ∧ w32 i < al σ 1 o) : Rn d m_X5_cellWithStake 33 [l0, l1, l2, l3] (vI i :: vR o :: st) σ Q ↔ Rn d m_X5_cellWithStake 34 [l0, l1, l2, l3] (vI (σ o (w32 i)) :: st) σ Q := q25 (show fnd (pgm m_X5_cellWithStake) 33 = some (34, 25, 0, 0, 0, []) from rfl) hi
set_option maxRecDepth 100000 in
theorem s_X5_cellWithStake_34 {d : Nat} {l0 l1 l2 l3 : AV} {x : Int} {σ : Sg} {Q : AV → Sg → Prop}  : Rn d m_X5_cellWithStake 34 [l0, l1, l2, l3] [vI x] σ Q ↔ Q (vI x) σ := q37_1 (st := []) (show fnd (pgm m_X5_cellWithStake) 34 = some (35, 37, 0, 1, 0, []) from rfl)
set_option maxRecDepth 100000 in
theorem en_X5_cellWithFence {d : Nat} {o : Nat} {a0 : Int} {a1 : Int} {a2 : Int} {a3 : Int} {σ σ0 : Sg} {r0 : AV} (h : Rn d m_X5_cellWithFence 0 [vR o, vI a0, vI a1, vI a2, vI a3, none] [] σ (fun r σ1 => r = r0 ∧ σ1 = σ0)) : Ev (d + 1) m_X5_cellWithFence [vR o, vI a0, vI a1, vI a2, vI a3] σ r0 σ0 := Ev_is (Nat.le_of_ble_eq_true rfl) h
set_option maxRecDepth 100000 in
theorem eo_X5_cellWithFence {d : Nat} {o : Nat} {a0 : Int} {a1 : Int} {a2 : Int} {a3 : Int} {σ : Sg} {Q : AV → Sg → Prop} (h : Rn d m_X5_cellWithFence 0 [vR o, vI a0, vI a1, vI a2, vI a3, none] [] σ Q) : ∃ r σ1, Ev (d + 1) m_X5_cellWithFence [vR o, vI a0, vI a1, vI a2, vI a3] σ r σ1 ∧ Q r σ1 := Ev_of (Nat.le_of_ble_eq_true rfl) h
set_option maxRecDepth 100000 in
theorem s_X5_cellWithFence_0 {d : Nat} {l1 l2 l3 l4 l5 : AV} {st : List AV} {o : Nat} {σ : Sg} {Q : AV → Sg → Prop} (ho : o ≠ 0) : Rn d m_X5_cellWithFence 0 [vR o, l1, l2, l3, l4, l5] st σ Q ↔ Rn d m_X5_cellWithFence 1 [vR o, l1, l2, l3, l4, l5] (vR o :: st) σ Q := q5 (show fnd (pgm m_X5_cellWithFence) 0 = some (1, 5, 0, 0, 0, []) from rfl) rfl ho
set_option maxRecDepth 100000 in
theorem s_X5_cellWithFence_1 {d : Nat} {l0 l1 l2 l3 l4 l5 : AV} {st : List AV} {o : Nat} {σ : Sg} {Q : AV → Sg → Prop} (hk : kn σ o = (0, 5)) : Rn d m_X5_cellWithFence 1 [l0, l1, l2, l3, l4, l5] (vR o :: st) σ Q ↔ Rn d m_X5_cellWithFence 4 [l0, l1, l2, l3, l4, l5] (vR (tp o 0) :: st) σ Q := q33 (show fnd (pgm m_X5_cellWithFence) 1 = some (4, 33, 12, 5, 0, []) from rfl) hk
set_option maxRecDepth 100000 in
theorem s_X5_cellWithFence_4 {d : Nat} {l0 l1 l2 l3 l4 l5 : AV} {st : List AV} {o : Nat} {σ : Sg} {Q : AV → Sg → Prop} (hk : kn σ o = (0, 0)) : Rn d m_X5_cellWithFence 4 [l0, l1, l2, l3, l4, l5] (vR o :: st) σ Q ↔ Rn d m_X5_cellWithFence 7 [l0, l1, l2, l3, l4, l5] (vR (tp o 5) :: st) σ Q := q33 (show fnd (pgm m_X5_cellWithFence) 4 = some (7, 33, 102, 0, 5, []) from rfl) hk
set_option maxRecDepth 100000 in
theorem s_X5_cellWithFence_7 {d : Nat} {l0 l2 l3 l4 l5 : AV} {st : List AV} {x : Int} {σ : Sg} {Q : AV → Sg → Prop}  : Rn d m_X5_cellWithFence 7 [l0, vI x, l2, l3, l4, l5] st σ Q ↔ Rn d m_X5_cellWithFence 8 [l0, vI x, l2, l3, l4, l5] (vI x :: st) σ Q := q3 (show fnd (pgm m_X5_cellWithFence) 7 = some (8, 3, 0, 1, 0, []) from rfl) rfl
set_option maxRecDepth 100000 in
theorem s_X5_cellWithFence_8 {d : Nat} {l0 l1 l2 l3 l4 l5 : AV} {st : List AV} {i : Int} {o : Nat} {σ : Sg} {Q : AV → Sg → Prop} (hi : 0 ≤ w32 i ∧ w32 i < al σ 1 o) : Rn d m_X5_cellWithFence 8 [l0, l1, l2, l3, l4, l5] (vI i :: vR o :: st) σ Q ↔ Rn d m_X5_cellWithFence 9 [l0, l1, l2, l3, l4, l5] (vI (σ o (w32 i)) :: st) σ Q := q25 (show fnd (pgm m_X5_cellWithFence) 8 = some (9, 25, 0, 0, 0, []) from rfl) hi
set_option maxRecDepth 100000 in
theorem s_X5_cellWithFence_9 {d : Nat} {l0 l1 l2 l3 l4 l5 : AV} {st : List AV} {x : Int} {σ : Sg} {Q : AV → Sg → Prop}  : Rn d m_X5_cellWithFence 9 [l0, l1, l2, l3, l4, l5] (vI x :: st) σ Q ↔ Rn d m_X5_cellWithFence 11 [l0, l1, l2, l3, l4, vI x] st σ Q := q6 (show fnd (pgm m_X5_cellWithFence) 9 = some (11, 6, 0, 5, 1, []) from rfl) (by decide : 5 < 6)
set_option maxRecDepth 100000 in
theorem s_X5_cellWithFence_11 {d : Nat} {l1 l2 l3 l4 l5 : AV} {st : List AV} {o : Nat} {σ : Sg} {Q : AV → Sg → Prop} (ho : o ≠ 0) : Rn d m_X5_cellWithFence 11 [vR o, l1, l2, l3, l4, l5] st σ Q ↔ Rn d m_X5_cellWithFence 12 [vR o, l1, l2, l3, l4, l5] (vR o :: st) σ Q := q5 (show fnd (pgm m_X5_cellWithFence) 11 = some (12, 5, 0, 0, 0, []) from rfl) rfl ho
set_option maxRecDepth 100000 in
theorem s_X5_cellWithFence_12 {d : Nat} {l0 l1 l2 l3 l4 l5 : AV} {st : List AV} {o : Nat} {σ : Sg} {Q : AV → Sg → Prop} (hk : kn σ o = (0, 5)) : Rn d m_X5_cellWithFence 12 [l0, l1, l2, l3, l4, l5] (vR o :: st) σ Q ↔ Rn d m_X5_cellWithFence 15 [l0, l1, l2, l3, l4, l5] (vR (tp o 0) :: st) σ Q := q33 (show fnd (pgm m_X5_cellWithFence) 12 = some (15, 33, 12, 5, 0, []) from rfl) hk
set_option maxRecDepth 100000 in
theorem s_X5_cellWithFence_15 {d : Nat} {l0 l1 l2 l3 l4 l5 : AV} {st : List AV} {o : Nat} {σ : Sg} {Q : AV → Sg → Prop} (hk : kn σ o = (0, 0)) : Rn d m_X5_cellWithFence 15 [l0, l1, l2, l3, l4, l5] (vR o :: st) σ Q ↔ Rn d m_X5_cellWithFence 18 [l0, l1, l2, l3, l4, l5] (vR (tp o 5) :: st) σ Q := q33 (show fnd (pgm m_X5_cellWithFence) 15 = some (18, 33, 102, 0, 5, []) from rfl) hk
set_option maxRecDepth 100000 in
theorem s_X5_cellWithFence_18 {d : Nat} {l0 l2 l3 l4 l5 : AV} {st : List AV} {x : Int} {σ : Sg} {Q : AV → Sg → Prop}  : Rn d m_X5_cellWithFence 18 [l0, vI x, l2, l3, l4, l5] st σ Q ↔ Rn d m_X5_cellWithFence 19 [l0, vI x, l2, l3, l4, l5] (vI x :: st) σ Q := q3 (show fnd (pgm m_X5_cellWithFence) 18 = some (19, 3, 0, 1, 0, []) from rfl) rfl
set_option maxRecDepth 100000 in
theorem s_X5_cellWithFence_19 {d : Nat} {l0 l1 l3 l4 l5 : AV} {st : List AV} {x : Int} {σ : Sg} {Q : AV → Sg → Prop}  : Rn d m_X5_cellWithFence 19 [l0, l1, vI x, l3, l4, l5] st σ Q ↔ Rn d m_X5_cellWithFence 20 [l0, l1, vI x, l3, l4, l5] (vI x :: st) σ Q := q3 (show fnd (pgm m_X5_cellWithFence) 19 = some (20, 3, 0, 2, 0, []) from rfl) rfl
set_option maxRecDepth 100000 in
theorem s_X5_cellWithFence_20 {d : Nat} {l0 l1 l2 l3 l4 l5 : AV} {st : List AV} {i x : Int} {o : Nat} {σ : Sg} {Q : AV → Sg → Prop} (hi : 0 ≤ w32 i ∧ w32 i < al σ 1 o) : Rn d m_X5_cellWithFence 20 [l0, l1, l2, l3, l4, l5] (vI x :: vI i :: vR o :: st) σ Q ↔ Rn d m_X5_cellWithFence 21 [l0, l1, l2, l3, l4, l5] st (up σ o (w32 i) x) Q := q29 (show fnd (pgm m_X5_cellWithFence) 20 = some (21, 29, 0, 0, 0, []) from rfl) hi
set_option maxRecDepth 100000 in
theorem s_X5_cellWithFence_21 {d : Nat} {l1 l2 l3 l4 l5 : AV} {st : List AV} {o : Nat} {σ : Sg} {Q : AV → Sg → Prop} (ho : o ≠ 0) : Rn d m_X5_cellWithFence 21 [vR o, l1, l2, l3, l4, l5] st σ Q ↔ Rn d m_X5_cellWithFence 22 [vR o, l1, l2, l3, l4, l5] (vR o :: st) σ Q := q5 (show fnd (pgm m_X5_cellWithFence) 21 = some (22, 5, 0, 0, 0, []) from rfl) rfl ho
set_option maxRecDepth 100000 in
theorem s_X5_cellWithFence_22 {d : Nat} {l0 l1 l2 l3 l5 : AV} {st : List AV} {x : Int} {σ : Sg} {Q : AV → Sg → Prop}  : Rn d m_X5_cellWithFence 22 [l0, l1, l2, l3, vI x, l5] st σ Q ↔ Rn d m_X5_cellWithFence 24 [l0, l1, l2, l3, vI x, l5] (vI x :: st) σ Q := q3 (show fnd (pgm m_X5_cellWithFence) 22 = some (24, 3, 0, 4, 1, []) from rfl) rfl
set_option maxRecDepth 100000 in
theorem s_X5_cellWithFence_24 {d : Nat} {l0 l1 l2 l3 l4 l5 : AV} {st : List AV} {o : Nat} {a0 : Int} {σ : Sg} {Q : AV → Sg → Prop} (h4 : st.length ≤ 4) (hk : kn σ o = (0, 5)) : Rn d m_X5_cellWithFence 24 [l0, l1, l2, l3, l4, l5] (vI a0 :: vR o :: st) σ Q ↔ ∃ r σ1, Ev d m_X5_walkAll [vR o, vI a0] σ r σ1 ∧ Rn d m_X5_cellWithFence 27 [l0, l1, l2, l3, l4, l5] (psh r st) σ1 Q := q35 (show fnd (pgm m_X5_cellWithFence) 24 = some (27, 35, 138, 93, 2, []) from rfl) ⟨⟨by simp, by simpa using h4⟩, (by simp only [List.take, List.reverse, List.reverseAux, rcv]; rw [if_neg (by decide +kernel)]; exact decide_eq_true hk)⟩
set_option maxRecDepth 100000 in
theorem s_X5_cellWithFence_27 {d : Nat} {l1 l2 l3 l4 l5 : AV} {st : List AV} {o : Nat} {σ : Sg} {Q : AV → Sg → Prop} (ho : o ≠ 0) : Rn d m_X5_cellWithFence 27 [vR o, l1, l2, l3, l4, l5] st σ Q ↔ Rn d m_X5_cellWithFence 28 [vR o, l1, l2, l3, l4, l5] (vR o :: st) σ Q := q5 (show fnd (pgm m_X5_cellWithFence) 27 = some (28, 5, 0, 0, 0, []) from rfl) rfl ho
set_option maxRecDepth 100000 in
theorem s_X5_cellWithFence_28 {d : Nat} {l0 l1 l2 l3 l4 l5 : AV} {st : List AV} {o : Nat} {σ : Sg} {Q : AV → Sg → Prop} (hk : kn σ o = (0, 5)) : Rn d m_X5_cellWithFence 28 [l0, l1, l2, l3, l4, l5] (vR o :: st) σ Q ↔ Rn d m_X5_cellWithFence 31 [l0, l1, l2, l3, l4, l5] (vR (tp o 0) :: st) σ Q := q33 (show fnd (pgm m_X5_cellWithFence) 28 = some (31, 33, 12, 5, 0, []) from rfl) hk
set_option maxRecDepth 100000 in
theorem s_X5_cellWithFence_31 {d : Nat} {l0 l1 l2 l3 l4 l5 : AV} {st : List AV} {o : Nat} {σ : Sg} {Q : AV → Sg → Prop} (hk : kn σ o = (0, 0)) : Rn d m_X5_cellWithFence 31 [l0, l1, l2, l3, l4, l5] (vR o :: st) σ Q ↔ Rn d m_X5_cellWithFence 34 [l0, l1, l2, l3, l4, l5] (vR (tp o 5) :: st) σ Q := q33 (show fnd (pgm m_X5_cellWithFence) 31 = some (34, 33, 102, 0, 5, []) from rfl) hk
set_option maxRecDepth 100000 in
theorem s_X5_cellWithFence_34 {d : Nat} {l0 l2 l3 l4 l5 : AV} {st : List AV} {x : Int} {σ : Sg} {Q : AV → Sg → Prop}  : Rn d m_X5_cellWithFence 34 [l0, vI x, l2, l3, l4, l5] st σ Q ↔ Rn d m_X5_cellWithFence 35 [l0, vI x, l2, l3, l4, l5] (vI x :: st) σ Q := q3 (show fnd (pgm m_X5_cellWithFence) 34 = some (35, 3, 0, 1, 0, []) from rfl) rfl
set_option maxRecDepth 100000 in
theorem s_X5_cellWithFence_35 {d : Nat} {l0 l1 l2 l3 l4 : AV} {st : List AV} {x : Int} {σ : Sg} {Q : AV → Sg → Prop}  : Rn d m_X5_cellWithFence 35 [l0, l1, l2, l3, l4, vI x] st σ Q ↔ Rn d m_X5_cellWithFence 37 [l0, l1, l2, l3, l4, vI x] (vI x :: st) σ Q := q3 (show fnd (pgm m_X5_cellWithFence) 35 = some (37, 3, 0, 5, 1, []) from rfl) rfl
set_option maxRecDepth 100000 in
theorem s_X5_cellWithFence_37 {d : Nat} {l0 l1 l2 l3 l4 l5 : AV} {st : List AV} {i x : Int} {o : Nat} {σ : Sg} {Q : AV → Sg → Prop} (hi : 0 ≤ w32 i ∧ w32 i < al σ 1 o) : Rn d m_X5_cellWithFence 37 [l0, l1, l2, l3, l4, l5] (vI x :: vI i :: vR o :: st) σ Q ↔ Rn d m_X5_cellWithFence 38 [l0, l1, l2, l3, l4, l5] st (up σ o (w32 i) x) Q := q29 (show fnd (pgm m_X5_cellWithFence) 37 = some (38, 29, 0, 0, 0, []) from rfl) hi
set_option maxRecDepth 100000 in
theorem s_X5_cellWithFence_38 {d : Nat} {l1 l2 l3 l4 l5 : AV} {st : List AV} {o : Nat} {σ : Sg} {Q : AV → Sg → Prop} (ho : o ≠ 0) : Rn d m_X5_cellWithFence 38 [vR o, l1, l2, l3, l4, l5] st σ Q ↔ Rn d m_X5_cellWithFence 39 [vR o, l1, l2, l3, l4, l5] (vR o :: st) σ Q := q5 (show fnd (pgm m_X5_cellWithFence) 38 = some (39, 5, 0, 0, 0, []) from rfl) rfl ho
set_option maxRecDepth 100000 in
theorem s_X5_cellWithFence_39 {d : Nat} {l0 l1 l2 l3 l4 l5 : AV} {st : List AV} {o : Nat} {σ : Sg} {Q : AV → Sg → Prop} (hk : kn σ o = (0, 5)) : Rn d m_X5_cellWithFence 39 [l0, l1, l2, l3, l4, l5] (vR o :: st) σ Q ↔ Rn d m_X5_cellWithFence 42 [l0, l1, l2, l3, l4, l5] (vR (tp o 3) :: st) σ Q := q33 (show fnd (pgm m_X5_cellWithFence) 39 = some (42, 33, 27, 5, 3, []) from rfl) hk
set_option maxRecDepth 100000 in
theorem s_X5_cellWithFence_42 {d : Nat} {l0 l1 l2 l3 l4 l5 : AV} {st : List AV} {o : Nat} {σ : Sg} {Q : AV → Sg → Prop} (hk : kn σ o = (0, 4)) : Rn d m_X5_cellWithFence 42 [l0, l1, l2, l3, l4, l5] (vR o :: st) σ Q ↔ Rn d m_X5_cellWithFence 45 [l0, l1, l2, l3, l4, l5] (vR (tp o 0) :: st) σ Q := q33 (show fnd (pgm m_X5_cellWithFence) 42 = some (45, 33, 141, 4, 0, []) from rfl) hk
set_option maxRecDepth 100000 in
theorem s_X5_cellWithFence_45 {d : Nat} {l0 l1 l2 l4 l5 : AV} {st : List AV} {x : Int} {σ : Sg} {Q : AV → Sg → Prop}  : Rn d m_X5_cellWithFence 45 [l0, l1, l2, vI x, l4, l5] st σ Q ↔ Rn d m_X5_cellWithFence 46 [l0, l1, l2, vI x, l4, l5] (vI x :: st) σ Q := q3 (show fnd (pgm m_X5_cellWithFence) 45 = some (46, 3, 0, 3, 0, []) from rfl) rfl
set_option maxRecDepth 100000 in
theorem s_X5_cellWithFence_46 {d : Nat} {l0 l1 l2 l3 l4 l5 : AV} {st : List AV} {i : Int} {o : Nat} {σ : Sg} {Q : AV → Sg → Prop} (hi : 0 ≤ w32 i ∧ w32 i < al σ 1 o) : Rn d m_X5_cellWithFence 46 [l0, l1, l2, l3, l4, l5] (vI i :: vR o :: st) σ Q ↔ Rn d m_X5_cellWithFence 47 [l0, l1, l2, l3, l4, l5] (vI (σ o (w32 i)) :: st) σ Q := q25 (show fnd (pgm m_X5_cellWithFence) 46 = some (47, 25, 0, 0, 0, []) from rfl) hi
set_option maxRecDepth 100000 in
theorem s_X5_cellWithFence_47 {d : Nat} {l0 l1 l2 l3 l4 l5 : AV} {x : Int} {σ : Sg} {Q : AV → Sg → Prop}  : Rn d m_X5_cellWithFence 47 [l0, l1, l2, l3, l4, l5] [vI x] σ Q ↔ Q (vI x) σ := q37_1 (st := []) (show fnd (pgm m_X5_cellWithFence) 47 = some (48, 37, 0, 1, 0, []) from rfl)
set_option maxRecDepth 100000 in
theorem en_X5_spread {d : Nat} {o : Nat} {a0 : Int} {a1 : Int} {σ σ0 : Sg} {r0 : AV} (h : Rn d m_X5_spread 0 [vR o, vI a0, vI a1, none, none, none] [] σ (fun r σ1 => r = r0 ∧ σ1 = σ0)) : Ev (d + 1) m_X5_spread [vR o, vI a0, vI a1] σ r0 σ0 := Ev_is (Nat.le_of_ble_eq_true rfl) h
set_option maxRecDepth 100000 in
theorem eo_X5_spread {d : Nat} {o : Nat} {a0 : Int} {a1 : Int} {σ : Sg} {Q : AV → Sg → Prop} (h : Rn d m_X5_spread 0 [vR o, vI a0, vI a1, none, none, none] [] σ Q) : ∃ r σ1, Ev (d + 1) m_X5_spread [vR o, vI a0, vI a1] σ r σ1 ∧ Q r σ1 := Ev_of (Nat.le_of_ble_eq_true rfl) h
set_option maxRecDepth 100000 in
theorem s_X5_spread_0 {d : Nat} {l1 l2 l3 l4 l5 : AV} {st : List AV} {o : Nat} {σ : Sg} {Q : AV → Sg → Prop} (ho : o ≠ 0) : Rn d m_X5_spread 0 [vR o, l1, l2, l3, l4, l5] st σ Q ↔ Rn d m_X5_spread 1 [vR o, l1, l2, l3, l4, l5] (vR o :: st) σ Q := q5 (show fnd (pgm m_X5_spread) 0 = some (1, 5, 0, 0, 0, []) from rfl) rfl ho
set_option maxRecDepth 100000 in
theorem s_X5_spread_1 {d : Nat} {l0 l1 l2 l3 l4 l5 : AV} {st : List AV} {o : Nat} {σ : Sg} {Q : AV → Sg → Prop} (hk : kn σ o = (0, 5)) : Rn d m_X5_spread 1 [l0, l1, l2, l3, l4, l5] (vR o :: st) σ Q ↔ Rn d m_X5_spread 4 [l0, l1, l2, l3, l4, l5] (vR (tp o 10) :: st) σ Q := q33 (show fnd (pgm m_X5_spread) 1 = some (4, 33, 56, 5, 10, []) from rfl) hk
set_option maxRecDepth 100000 in
theorem s_X5_spread_4 {d : Nat} {l0 l1 l2 l3 l4 l5 : AV} {st : List AV} {σ : Sg} {Q : AV → Sg → Prop}  : Rn d m_X5_spread 4 [l0, l1, l2, l3, l4, l5] st σ Q ↔ Rn d m_X5_spread 5 [l0, l1, l2, l3, l4, l5] (vL 0 :: st) σ Q := q1 (show fnd (pgm m_X5_spread) 4 = some (5, 1, 0, 0, 0, []) from rfl)
set_option maxRecDepth 100000 in
theorem s_X5_spread_5 {d : Nat} {l0 l1 l2 l3 l4 l5 : AV} {st : List AV}  {a0 : Nat} {a1 : Int} {σ : Sg} {Q : AV → Sg → Prop} (h4 : st.length ≤ 4) : Rn d m_X5_spread 5 [l0, l1, l2, l3, l4, l5] (vL a1 :: vR a0 :: st) σ Q ↔ ∃ r σ1, Ev d m_J7_fill_d0a16 [vR a0, vL a1] σ r σ1 ∧ Rn d m_X5_spread 8 [l0, l1, l2, l3, l4, l5] (psh r st) σ1 Q := q35 (show fnd (pgm m_X5_spread) 5 = some (8, 35, 191, 177, 2, []) from rfl) ⟨⟨by simp, by simpa using h4⟩, rfl⟩
set_option maxRecDepth 100000 in
theorem s_X5_spread_8 {d : Nat} {l0 l1 l2 l3 l4 l5 : AV} {st : List AV} {σ : Sg} {Q : AV → Sg → Prop}  : Rn d m_X5_spread 8 [l0, l1, l2, l3, l4, l5] st σ Q ↔ Rn d m_X5_spread 9 [l0, l1, l2, l3, l4, l5] (vI 0 :: st) σ Q := q0 (show fnd (pgm m_X5_spread) 8 = some (9, 0, 0, 0, 0, []) from rfl)
set_option maxRecDepth 100000 in
theorem s_X5_spread_9 {d : Nat} {l0 l1 l2 l3 l4 l5 : AV} {st : List AV} {x : Int} {σ : Sg} {Q : AV → Sg → Prop}  : Rn d m_X5_spread 9 [l0, l1, l2, l3, l4, l5] (vI x :: st) σ Q ↔ Rn d m_X5_spread 10 [l0, l1, l2, vI x, l4, l5] st σ Q := q6 (show fnd (pgm m_X5_spread) 9 = some (10, 6, 0, 3, 0, []) from rfl) (by decide : 3 < 6)
set_option maxRecDepth 100000 in
theorem s_X5_spread_10 {d : Nat} {l0 l1 l2 l4 l5 : AV} {st : List AV} {x : Int} {σ : Sg} {Q : AV → Sg → Prop}  : Rn d m_X5_spread 10 [l0, l1, l2, vI x, l4, l5] st σ Q ↔ Rn d m_X5_spread 11 [l0, l1, l2, vI x, l4, l5] (vI x :: st) σ Q := q3 (show fnd (pgm m_X5_spread) 10 = some (11, 3, 0, 3, 0, []) from rfl) rfl
set_option maxRecDepth 100000 in
theorem s_X5_spread_11 {d : Nat} {l0 l1 l2 l3 l4 l5 : AV} {st : List AV} {σ : Sg} {Q : AV → Sg → Prop}  : Rn d m_X5_spread 11 [l0, l1, l2, l3, l4, l5] st σ Q ↔ Rn d m_X5_spread 14 [l0, l1, l2, l3, l4, l5] (vI 144 :: st) σ Q := q0 (show fnd (pgm m_X5_spread) 11 = some (14, 0, 144, 2, 0, []) from rfl)
set_option maxRecDepth 100000 in
theorem s_X5_spread_14 {d : Nat} {l0 l1 l2 l3 l4 l5 : AV} {st : List AV} {a b : Int} {σ : Sg} {Q : AV → Sg → Prop}  : Rn d m_X5_spread 14 [l0, l1, l2, l3, l4, l5] (vI b :: vI a :: st) σ Q ↔ if w32 b ≤ w32 a then Rn d m_X5_spread 97 [l0, l1, l2, l3, l4, l5] st σ Q else Rn d m_X5_spread 17 [l0, l1, l2, l3, l4, l5] st σ Q := q20_3 (show fnd (pgm m_X5_spread) 14 = some (17, 20, 0, 3, 97, []) from rfl)
set_option maxRecDepth 100000 in
theorem s_X5_spread_17 {d : Nat} {l1 l2 l3 l4 l5 : AV} {st : List AV} {o : Nat} {σ : Sg} {Q : AV → Sg → Prop} (ho : o ≠ 0) : Rn d m_X5_spread 17 [vR o, l1, l2, l3, l4, l5] st σ Q ↔ Rn d m_X5_spread 18 [vR o, l1, l2, l3, l4, l5] (vR o :: st) σ Q := q5 (show fnd (pgm m_X5_spread) 17 = some (18, 5, 0, 0, 0, []) from rfl) rfl ho
set_option maxRecDepth 100000 in
theorem s_X5_spread_18 {d : Nat} {l0 l1 l2 l3 l4 l5 : AV} {st : List AV} {o : Nat} {σ : Sg} {Q : AV → Sg → Prop} (hk : kn σ o = (0, 5)) : Rn d m_X5_spread 18 [l0, l1, l2, l3, l4, l5] (vR o :: st) σ Q ↔ Rn d m_X5_spread 21 [l0, l1, l2, l3, l4, l5] (vR (tp o 9) :: st) σ Q := q33 (show fnd (pgm m_X5_spread) 18 = some (21, 33, 52, 5, 9, []) from rfl) hk
set_option maxRecDepth 100000 in
theorem s_X5_spread_21 {d : Nat} {l0 l1 l2 l4 l5 : AV} {st : List AV} {x : Int} {σ : Sg} {Q : AV → Sg → Prop}  : Rn d m_X5_spread 21 [l0, l1, l2, vI x, l4, l5] st σ Q ↔ Rn d m_X5_spread 22 [l0, l1, l2, vI x, l4, l5] (vI x :: st) σ Q := q3 (show fnd (pgm m_X5_spread) 21 = some (22, 3, 0, 3, 0, []) from rfl) rfl
set_option maxRecDepth 100000 in
theorem s_X5_spread_22 {d : Nat} {l0 l1 l2 l3 l4 l5 : AV} {st : List AV} {i : Int} {o : Nat} {σ : Sg} {Q : AV → Sg → Prop} (hi : 0 ≤ w32 i ∧ w32 i < al σ 2 o) : Rn d m_X5_spread 22 [l0, l1, l2, l3, l4, l5] (vI i :: vR o :: st) σ Q ↔ Rn d m_X5_spread 23 [l0, l1, l2, l3, l4, l5] (vL (σ o (w32 i)) :: st) σ Q := q26 (show fnd (pgm m_X5_spread) 22 = some (23, 26, 0, 0, 0, []) from rfl) hi
set_option maxRecDepth 100000 in
theorem s_X5_spread_23 {d : Nat} {l0 l1 l2 l3 l4 l5 : AV} {st : List AV} {σ : Sg} {Q : AV → Sg → Prop}  : Rn d m_X5_spread 23 [l0, l1, l2, l3, l4, l5] st σ Q ↔ Rn d m_X5_spread 24 [l0, l1, l2, l3, l4, l5] (vL 0 :: st) σ Q := q1 (show fnd (pgm m_X5_spread) 23 = some (24, 1, 0, 0, 0, []) from rfl)
set_option maxRecDepth 100000 in
theorem s_X5_spread_24 {d : Nat} {l0 l1 l2 l3 l4 l5 : AV} {st : List AV} {a b : Int} {σ : Sg} {Q : AV → Sg → Prop}  : Rn d m_X5_spread 24 [l0, l1, l2, l3, l4, l5] (vL b :: vL a :: st) σ Q ↔ Rn d m_X5_spread 25 [l0, l1, l2, l3, l4, l5] (vI (cmpL a b) :: st) σ Q := q16 (show fnd (pgm m_X5_spread) 24 = some (25, 16, 0, 0, 0, []) from rfl)
set_option maxRecDepth 100000 in
theorem s_X5_spread_25 {d : Nat} {l0 l1 l2 l3 l4 l5 : AV} {st : List AV} {a : Int} {σ : Sg} {Q : AV → Sg → Prop}  : Rn d m_X5_spread 25 [l0, l1, l2, l3, l4, l5] (vI a :: st) σ Q ↔ if ¬ w32 a = 0 then Rn d m_X5_spread 31 [l0, l1, l2, l3, l4, l5] st σ Q else Rn d m_X5_spread 28 [l0, l1, l2, l3, l4, l5] st σ Q := q19_1 (show fnd (pgm m_X5_spread) 25 = some (28, 19, 0, 1, 31, []) from rfl)
set_option maxRecDepth 100000 in
theorem s_X5_spread_28 {d : Nat} {l0 l1 l2 l3 l4 l5 : AV} {st : List AV} {σ : Sg} {Q : AV → Sg → Prop}  : Rn d m_X5_spread 28 [l0, l1, l2, l3, l4, l5] st σ Q ↔ Rn d m_X5_spread 91 [l0, l1, l2, l3, l4, l5] st σ Q := q21 (show fnd (pgm m_X5_spread) 28 = some (31, 21, 0, 0, 91, []) from rfl)
set_option maxRecDepth 100000 in
theorem s_X5_spread_31 {d : Nat} {l0 l1 l2 l3 l4 l5 : AV} {st : List AV} {σ : Sg} {Q : AV → Sg → Prop}  : Rn d m_X5_spread 31 [l0, l1, l2, l3, l4, l5] st σ Q ↔ Rn d m_X5_spread 32 [l0, l1, l2, l3, l4, l5] (vI 0 :: st) σ Q := q0 (show fnd (pgm m_X5_spread) 31 = some (32, 0, 0, 0, 0, []) from rfl)
set_option maxRecDepth 100000 in
theorem s_X5_spread_32 {d : Nat} {l0 l1 l2 l3 l4 l5 : AV} {st : List AV} {x : Int} {σ : Sg} {Q : AV → Sg → Prop}  : Rn d m_X5_spread 32 [l0, l1, l2, l3, l4, l5] (vI x :: st) σ Q ↔ Rn d m_X5_spread 34 [l0, l1, l2, l3, vI x, l5] st σ Q := q6 (show fnd (pgm m_X5_spread) 32 = some (34, 6, 0, 4, 1, []) from rfl) (by decide : 4 < 6)
set_option maxRecDepth 100000 in
theorem s_X5_spread_34 {d : Nat} {l0 l1 l2 l3 l5 : AV} {st : List AV} {x : Int} {σ : Sg} {Q : AV → Sg → Prop}  : Rn d m_X5_spread 34 [l0, l1, l2, l3, vI x, l5] st σ Q ↔ Rn d m_X5_spread 36 [l0, l1, l2, l3, vI x, l5] (vI x :: st) σ Q := q3 (show fnd (pgm m_X5_spread) 34 = some (36, 3, 0, 4, 1, []) from rfl) rfl
set_option maxRecDepth 100000 in
theorem s_X5_spread_36 {d : Nat} {l0 l1 l2 l3 l4 l5 : AV} {st : List AV} {σ : Sg} {Q : AV → Sg → Prop}  : Rn d m_X5_spread 36 [l0, l1, l2, l3, l4, l5] st σ Q ↔ Rn d m_X5_spread 37 [l0, l1, l2, l3, l4, l5] (vI 4 :: st) σ Q := q0 (show fnd (pgm m_X5_spread) 36 = some (37, 0, 4, 0, 0, []) from rfl)
set_option maxRecDepth 100000 in
theorem s_X5_spread_37 {d : Nat} {l0 l1 l2 l3 l4 l5 : AV} {st : List AV} {a b : Int} {σ : Sg} {Q : AV → Sg → Prop}  : Rn d m_X5_spread 37 [l0, l1, l2, l3, l4, l5] (vI b :: vI a :: st) σ Q ↔ if w32 b ≤ w32 a then Rn d m_X5_spread 91 [l0, l1, l2, l3, l4, l5] st σ Q else Rn d m_X5_spread 40 [l0, l1, l2, l3, l4, l5] st σ Q := q20_3 (show fnd (pgm m_X5_spread) 37 = some (40, 20, 0, 3, 91, []) from rfl)
set_option maxRecDepth 100000 in
theorem s_X5_spread_40 {d : Nat} {l1 l2 l3 l4 l5 : AV} {st : List AV} {o : Nat} {σ : Sg} {Q : AV → Sg → Prop} (ho : o ≠ 0) : Rn d m_X5_spread 40 [vR o, l1, l2, l3, l4, l5] st σ Q ↔ Rn d m_X5_spread 41 [vR o, l1, l2, l3, l4, l5] (vR o :: st) σ Q := q5 (show fnd (pgm m_X5_spread) 40 = some (41, 5, 0, 0, 0, []) from rfl) rfl ho
set_option maxRecDepth 100000 in
theorem s_X5_spread_41 {d : Nat} {l0 l1 l2 l3 l4 l5 : AV} {st : List AV} {o : Nat} {σ : Sg} {Q : AV → Sg → Prop} (hk : kn σ o = (0, 5)) : Rn d m_X5_spread 41 [l0, l1, l2, l3, l4, l5] (vR o :: st) σ Q ↔ Rn d m_X5_spread 44 [l0, l1, l2, l3, l4, l5] (vR (tp o 3) :: st) σ Q := q33 (show fnd (pgm m_X5_spread) 41 = some (44, 33, 27, 5, 3, []) from rfl) hk
set_option maxRecDepth 100000 in
theorem s_X5_spread_44 {d : Nat} {l1 l2 l3 l4 l5 : AV} {st : List AV} {o : Nat} {σ : Sg} {Q : AV → Sg → Prop} (ho : o ≠ 0) : Rn d m_X5_spread 44 [vR o, l1, l2, l3, l4, l5] st σ Q ↔ Rn d m_X5_spread 45 [vR o, l1, l2, l3, l4, l5] (vR o :: st) σ Q := q5 (show fnd (pgm m_X5_spread) 44 = some (45, 5, 0, 0, 0, []) from rfl) rfl ho
set_option maxRecDepth 100000 in
theorem s_X5_spread_45 {d : Nat} {l0 l1 l2 l3 l4 l5 : AV} {st : List AV} {o : Nat} {σ : Sg} {Q : AV → Sg → Prop} (hk : kn σ o = (0, 5)) : Rn d m_X5_spread 45 [l0, l1, l2, l3, l4, l5] (vR o :: st) σ Q ↔ Rn d m_X5_spread 48 [l0, l1, l2, l3, l4, l5] (vR (tp o 0) :: st) σ Q := q33 (show fnd (pgm m_X5_spread) 45 = some (48, 33, 12, 5, 0, []) from rfl) hk
set_option maxRecDepth 100000 in
theorem s_X5_spread_48 {d : Nat} {l0 l2 l3 l4 l5 : AV} {st : List AV} {x : Int} {σ : Sg} {Q : AV → Sg → Prop}  : Rn d m_X5_spread 48 [l0, vI x, l2, l3, l4, l5] st σ Q ↔ Rn d m_X5_spread 49 [l0, vI x, l2, l3, l4, l5] (vI x :: st) σ Q := q3 (show fnd (pgm m_X5_spread) 48 = some (49, 3, 0, 1, 0, []) from rfl) rfl
set_option maxRecDepth 100000 in
theorem s_X5_spread_49 {d : Nat} {l0 l1 l2 l4 l5 : AV} {st : List AV} {x : Int} {σ : Sg} {Q : AV → Sg → Prop}  : Rn d m_X5_spread 49 [l0, l1, l2, vI x, l4, l5] st σ Q ↔ Rn d m_X5_spread 50 [l0, l1, l2, vI x, l4, l5] (vI x :: st) σ Q := q3 (show fnd (pgm m_X5_spread) 49 = some (50, 3, 0, 3, 0, []) from rfl) rfl
set_option maxRecDepth 100000 in
theorem s_X5_spread_50 {d : Nat} {l0 l1 l2 l3 l5 : AV} {st : List AV} {x : Int} {σ : Sg} {Q : AV → Sg → Prop}  : Rn d m_X5_spread 50 [l0, l1, l2, l3, vI x, l5] st σ Q ↔ Rn d m_X5_spread 52 [l0, l1, l2, l3, vI x, l5] (vI x :: st) σ Q := q3 (show fnd (pgm m_X5_spread) 50 = some (52, 3, 0, 4, 1, []) from rfl) rfl
set_option maxRecDepth 100000 in
theorem s_X5_spread_52 {d : Nat} {l0 l1 l3 l4 l5 : AV} {st : List AV} {x : Int} {σ : Sg} {Q : AV → Sg → Prop}  : Rn d m_X5_spread 52 [l0, l1, vI x, l3, l4, l5] st σ Q ↔ Rn d m_X5_spread 53 [l0, l1, vI x, l3, l4, l5] (vI x :: st) σ Q := q3 (show fnd (pgm m_X5_spread) 52 = some (53, 3, 0, 2, 0, []) from rfl) rfl
set_option maxRecDepth 100000 in
theorem s_X5_spread_53 {d : Nat} {l0 l1 l2 l3 l4 l5 : AV} {st : List AV} {o : Nat} {a0 : Nat} {a1 : Int} {a2 : Int} {a3 : Int} {a4 : Int} {σ : Sg} {Q : AV → Sg → Prop} (h4 : st.length ≤ 4) (hk : kn σ o = (0, 4)) : Rn d m_X5_spread 53 [l0, l1, l2, l3, l4, l5] (vI a4 :: vI a3 :: vI a2 :: vI a1 :: vR a0 :: vR o :: st) σ Q ↔ ∃ r σ1, Ev d m_X4_loneRoll [vR o, vR a0, vI a1, vI a2, vI a3, vI a4] σ r σ1 ∧ Rn d m_X5_spread 56 [l0, l1, l2, l3, l4, l5] (psh r st) σ1 Q := q35 (show fnd (pgm m_X5_spread) 53 = some (56, 35, 272, 37, 6, []) from rfl) ⟨⟨by simp, by simpa using h4⟩, (by simp only [List.take, List.reverse, List.reverseAux, rcv]; rw [if_neg (by decide +kernel)]; exact decide_eq_true hk)⟩
set_option maxRecDepth 100000 in
theorem s_X5_spread_56 {d : Nat} {l0 l1 l2 l3 l4 l5 : AV} {st : List AV} {x : Int} {σ : Sg} {Q : AV → Sg → Prop}  : Rn d m_X5_spread 56 [l0, l1, l2, l3, l4, l5] (vI x :: st) σ Q ↔ Rn d m_X5_spread 58 [l0, l1, l2, l3, l4, vI x] st σ Q := q6 (show fnd (pgm m_X5_spread) 56 = some (58, 6, 0, 5, 1, []) from rfl) (by decide : 5 < 6)
set_option maxRecDepth 100000 in
theorem s_X5_spread_58 {d : Nat} {l0 l1 l2 l3 l4 : AV} {st : List AV} {x : Int} {σ : Sg} {Q : AV → Sg → Prop}  : Rn d m_X5_spread 58 [l0, l1, l2, l3, l4, vI x] st σ Q ↔ Rn d m_X5_spread 60 [l0, l1, l2, l3, l4, vI x] (vI x :: st) σ Q := q3 (show fnd (pgm m_X5_spread) 58 = some (60, 3, 0, 5, 1, []) from rfl) rfl
set_option maxRecDepth 100000 in
theorem s_X5_spread_60 {d : Nat} {l0 l1 l2 l3 l4 l5 : AV} {st : List AV} {σ : Sg} {Q : AV → Sg → Prop}  : Rn d m_X5_spread 60 [l0, l1, l2, l3, l4, l5] st σ Q ↔ Rn d m_X5_spread 63 [l0, l1, l2, l3, l4, l5] (vI 144 :: st) σ Q := q0 (show fnd (pgm m_X5_spread) 60 = some (63, 0, 144, 2, 0, []) from rfl)
set_option maxRecDepth 100000 in
theorem s_X5_spread_63 {d : Nat} {l0 l1 l2 l3 l4 l5 : AV} {st : List AV}  {a0 : Int} {a1 : Int} {σ : Sg} {Q : AV → Sg → Prop} (h4 : st.length ≤ 4) : Rn d m_X5_spread 63 [l0, l1, l2, l3, l4, l5] (vI a1 :: vI a0 :: st) σ Q ↔ ∃ r σ1, Ev d m_X5_within [vI a0, vI a1] σ r σ1 ∧ Rn d m_X5_spread 66 [l0, l1, l2, l3, l4, l5] (psh r st) σ1 Q := q35 (show fnd (pgm m_X5_spread) 63 = some (66, 35, 80, 89, 2, []) from rfl) ⟨⟨by simp, by simpa using h4⟩, rfl⟩
set_option maxRecDepth 100000 in
theorem s_X5_spread_66 {d : Nat} {l0 l1 l2 l3 l4 l5 : AV} {st : List AV} {a : Int} {σ : Sg} {Q : AV → Sg → Prop}  : Rn d m_X5_spread 66 [l0, l1, l2, l3, l4, l5] (vI a :: st) σ Q ↔ if w32 a = 0 then Rn d m_X5_spread 85 [l0, l1, l2, l3, l4, l5] st σ Q else Rn d m_X5_spread 69 [l0, l1, l2, l3, l4, l5] st σ Q := q19_0 (show fnd (pgm m_X5_spread) 66 = some (69, 19, 0, 0, 85, []) from rfl)
set_option maxRecDepth 100000 in
theorem s_X5_spread_69 {d : Nat} {l1 l2 l3 l4 l5 : AV} {st : List AV} {o : Nat} {σ : Sg} {Q : AV → Sg → Prop} (ho : o ≠ 0) : Rn d m_X5_spread 69 [vR o, l1, l2, l3, l4, l5] st σ Q ↔ Rn d m_X5_spread 70 [vR o, l1, l2, l3, l4, l5] (vR o :: st) σ Q := q5 (show fnd (pgm m_X5_spread) 69 = some (70, 5, 0, 0, 0, []) from rfl) rfl ho
set_option maxRecDepth 100000 in
theorem s_X5_spread_70 {d : Nat} {l0 l1 l2 l3 l4 l5 : AV} {st : List AV} {o : Nat} {σ : Sg} {Q : AV → Sg → Prop} (hk : kn σ o = (0, 5)) : Rn d m_X5_spread 70 [l0, l1, l2, l3, l4, l5] (vR o :: st) σ Q ↔ Rn d m_X5_spread 73 [l0, l1, l2, l3, l4, l5] (vR (tp o 10) :: st) σ Q := q33 (show fnd (pgm m_X5_spread) 70 = some (73, 33, 56, 5, 10, []) from rfl) hk
set_option maxRecDepth 100000 in
theorem s_X5_spread_73 {d : Nat} {l0 l1 l2 l3 l4 : AV} {st : List AV} {x : Int} {σ : Sg} {Q : AV → Sg → Prop}  : Rn d m_X5_spread 73 [l0, l1, l2, l3, l4, vI x] st σ Q ↔ Rn d m_X5_spread 75 [l0, l1, l2, l3, l4, vI x] (vI x :: st) σ Q := q3 (show fnd (pgm m_X5_spread) 73 = some (75, 3, 0, 5, 1, []) from rfl) rfl
set_option maxRecDepth 100000 in
theorem s_X5_spread_75 {d : Nat} {l0 l1 l2 l3 l4 l5 : AV} {st : List AV} {a : Int} {o : Nat} {σ : Sg} {Q : AV → Sg → Prop}  : Rn d m_X5_spread 75 [l0, l1, l2, l3, l4, l5] (vI a :: vR o :: st) σ Q ↔ Rn d m_X5_spread 76 [l0, l1, l2, l3, l4, l5] (vI a :: vR o :: vI a :: vR o :: st) σ Q := q18 (show fnd (pgm m_X5_spread) 75 = some (76, 18, 0, 0, 0, []) from rfl)
set_option maxRecDepth 100000 in
theorem s_X5_spread_76 {d : Nat} {l0 l1 l2 l3 l4 l5 : AV} {st : List AV} {i : Int} {o : Nat} {σ : Sg} {Q : AV → Sg → Prop} (hi : 0 ≤ w32 i ∧ w32 i < al σ 2 o) : Rn d m_X5_spread 76 [l0, l1, l2, l3, l4, l5] (vI i :: vR o :: st) σ Q ↔ Rn d m_X5_spread 77 [l0, l1, l2, l3, l4, l5] (vL (σ o (w32 i)) :: st) σ Q := q26 (show fnd (pgm m_X5_spread) 76 = some (77, 26, 0, 0, 0, []) from rfl) hi
set_option maxRecDepth 100000 in
theorem s_X5_spread_77 {d : Nat} {l1 l2 l3 l4 l5 : AV} {st : List AV} {o : Nat} {σ : Sg} {Q : AV → Sg → Prop} (ho : o ≠ 0) : Rn d m_X5_spread 77 [vR o, l1, l2, l3, l4, l5] st σ Q ↔ Rn d m_X5_spread 78 [vR o, l1, l2, l3, l4, l5] (vR o :: st) σ Q := q5 (show fnd (pgm m_X5_spread) 77 = some (78, 5, 0, 0, 0, []) from rfl) rfl ho
set_option maxRecDepth 100000 in
theorem s_X5_spread_78 {d : Nat} {l0 l1 l2 l3 l4 l5 : AV} {st : List AV} {o : Nat} {σ : Sg} {Q : AV → Sg → Prop} (hk : kn σ o = (0, 5)) : Rn d m_X5_spread 78 [l0, l1, l2, l3, l4, l5] (vR o :: st) σ Q ↔ Rn d m_X5_spread 81 [l0, l1, l2, l3, l4, l5] (vR (tp o 9) :: st) σ Q := q33 (show fnd (pgm m_X5_spread) 78 = some (81, 33, 52, 5, 9, []) from rfl) hk
set_option maxRecDepth 100000 in
theorem s_X5_spread_81 {d : Nat} {l0 l1 l2 l4 l5 : AV} {st : List AV} {x : Int} {σ : Sg} {Q : AV → Sg → Prop}  : Rn d m_X5_spread 81 [l0, l1, l2, vI x, l4, l5] st σ Q ↔ Rn d m_X5_spread 82 [l0, l1, l2, vI x, l4, l5] (vI x :: st) σ Q := q3 (show fnd (pgm m_X5_spread) 81 = some (82, 3, 0, 3, 0, []) from rfl) rfl
set_option maxRecDepth 100000 in
theorem s_X5_spread_82 {d : Nat} {l0 l1 l2 l3 l4 l5 : AV} {st : List AV} {i : Int} {o : Nat} {σ : Sg} {Q : AV → Sg → Prop} (hi : 0 ≤ w32 i ∧ w32 i < al σ 2 o) : Rn d m_X5_spread 82 [l0, l1, l2, l3, l4, l5] (vI i :: vR o :: st) σ Q ↔ Rn d m_X5_spread 83 [l0, l1, l2, l3, l4, l5] (vL (σ o (w32 i)) :: st) σ Q := q26 (show fnd (pgm m_X5_spread) 82 = some (83, 26, 0, 0, 0, []) from rfl) hi
set_option maxRecDepth 100000 in
theorem s_X5_spread_83 {d : Nat} {l0 l1 l2 l3 l4 l5 : AV} {st : List AV} {a b : Int} {σ : Sg} {Q : AV → Sg → Prop}  : Rn d m_X5_spread 83 [l0, l1, l2, l3, l4, l5] (vL b :: vL a :: st) σ Q ↔ Rn d m_X5_spread 84 [l0, l1, l2, l3, l4, l5] (vL (a + b) :: st) σ Q := q11_0 (show fnd (pgm m_X5_spread) 83 = some (84, 11, 0, 0, 0, []) from rfl)
set_option maxRecDepth 100000 in
theorem s_X5_spread_84 {d : Nat} {l0 l1 l2 l3 l4 l5 : AV} {st : List AV} {i x : Int} {o : Nat} {σ : Sg} {Q : AV → Sg → Prop} (hi : 0 ≤ w32 i ∧ w32 i < al σ 2 o) : Rn d m_X5_spread 84 [l0, l1, l2, l3, l4, l5] (vL x :: vI i :: vR o :: st) σ Q ↔ Rn d m_X5_spread 85 [l0, l1, l2, l3, l4, l5] st (up σ o (w32 i) x) Q := q30 (show fnd (pgm m_X5_spread) 84 = some (85, 30, 0, 0, 0, []) from rfl) hi
set_option maxRecDepth 100000 in
theorem s_X5_spread_85 {d : Nat} {l0 l1 l2 l3 l5 : AV} {st : List AV} {x : Int} {σ : Sg} {Q : AV → Sg → Prop}  : Rn d m_X5_spread 85 [l0, l1, l2, l3, vI x, l5] st σ Q ↔ Rn d m_X5_spread 88 [l0, l1, l2, l3, vI (x + 1), l5] st σ Q := q9 (show fnd (pgm m_X5_spread) 85 = some (88, 9, 1, 4, 0, []) from rfl) rfl
set_option maxRecDepth 100000 in
theorem s_X5_spread_88 {d : Nat} {l0 l1 l2 l3 l4 l5 : AV} {st : List AV} {σ : Sg} {Q : AV → Sg → Prop}  : Rn d m_X5_spread 88 [l0, l1, l2, l3, l4, l5] st σ Q ↔ Rn d m_X5_spread 34 [l0, l1, l2, l3, l4, l5] st σ Q := q21 (show fnd (pgm m_X5_spread) 88 = some (91, 21, 0, 0, 34, []) from rfl)
set_option maxRecDepth 100000 in
theorem s_X5_spread_91 {d : Nat} {l0 l1 l2 l4 l5 : AV} {st : List AV} {x : Int} {σ : Sg} {Q : AV → Sg → Prop}  : Rn d m_X5_spread 91 [l0, l1, l2, vI x, l4, l5] st σ Q ↔ Rn d m_X5_spread 94 [l0, l1, l2, vI (x + 1), l4, l5] st σ Q := q9 (show fnd (pgm m_X5_spread) 91 = some (94, 9, 1, 3, 0, []) from rfl) rfl
set_option maxRecDepth 100000 in
theorem s_X5_spread_94 {d : Nat} {l0 l1 l2 l3 l4 l5 : AV} {st : List AV} {σ : Sg} {Q : AV → Sg → Prop}  : Rn d m_X5_spread 94 [l0, l1, l2, l3, l4, l5] st σ Q ↔ Rn d m_X5_spread 10 [l0, l1, l2, l3, l4, l5] st σ Q := q21 (show fnd (pgm m_X5_spread) 94 = some (97, 21, 0, 0, 10, []) from rfl)
set_option maxRecDepth 100000 in
theorem s_X5_spread_97 {d : Nat} {l1 l2 l3 l4 l5 : AV} {st : List AV} {o : Nat} {σ : Sg} {Q : AV → Sg → Prop} (ho : o ≠ 0) : Rn d m_X5_spread 97 [vR o, l1, l2, l3, l4, l5] st σ Q ↔ Rn d m_X5_spread 98 [vR o, l1, l2, l3, l4, l5] (vR o :: st) σ Q := q5 (show fnd (pgm m_X5_spread) 97 = some (98, 5, 0, 0, 0, []) from rfl) rfl ho
set_option maxRecDepth 100000 in
theorem s_X5_spread_98 {d : Nat} {l0 l1 l2 l3 l4 l5 : AV} {st : List AV} {o : Nat} {σ : Sg} {Q : AV → Sg → Prop} (hk : kn σ o = (0, 5)) : Rn d m_X5_spread 98 [l0, l1, l2, l3, l4, l5] (vR o :: st) σ Q ↔ Rn d m_X5_spread 101 [l0, l1, l2, l3, l4, l5] (vR (tp o 10) :: st) σ Q := q33 (show fnd (pgm m_X5_spread) 98 = some (101, 33, 56, 5, 10, []) from rfl) hk
set_option maxRecDepth 100000 in
theorem s_X5_spread_101 {d : Nat} {l0 l1 l2 l3 l4 l5 : AV} {st : List AV} {σ : Sg} {Q : AV → Sg → Prop}  : Rn d m_X5_spread 101 [l0, l1, l2, l3, l4, l5] st σ Q ↔ Rn d m_X5_spread 102 [l0, l1, l2, l3, l4, l5] (vI 0 :: st) σ Q := q0 (show fnd (pgm m_X5_spread) 101 = some (102, 0, 0, 0, 0, []) from rfl)
set_option maxRecDepth 100000 in
theorem s_X5_spread_102 {d : Nat} {l1 l2 l3 l4 l5 : AV} {st : List AV} {o : Nat} {σ : Sg} {Q : AV → Sg → Prop} (ho : o ≠ 0) : Rn d m_X5_spread 102 [vR o, l1, l2, l3, l4, l5] st σ Q ↔ Rn d m_X5_spread 103 [vR o, l1, l2, l3, l4, l5] (vR o :: st) σ Q := q5 (show fnd (pgm m_X5_spread) 102 = some (103, 5, 0, 0, 0, []) from rfl) rfl ho
set_option maxRecDepth 100000 in
theorem s_X5_spread_103 {d : Nat} {l0 l1 l2 l3 l4 l5 : AV} {st : List AV} {o : Nat} {σ : Sg} {Q : AV → Sg → Prop} (hk : kn σ o = (0, 5)) : Rn d m_X5_spread 103 [l0, l1, l2, l3, l4, l5] (vR o :: st) σ Q ↔ Rn d m_X5_spread 106 [l0, l1, l2, l3, l4, l5] (vR (tp o 9) :: st) σ Q := q33 (show fnd (pgm m_X5_spread) 103 = some (106, 33, 52, 5, 9, []) from rfl) hk
set_option maxRecDepth 100000 in
theorem s_X5_spread_106 {d : Nat} {l0 l1 l2 l3 l4 l5 : AV} {st : List AV} {σ : Sg} {Q : AV → Sg → Prop}  : Rn d m_X5_spread 106 [l0, l1, l2, l3, l4, l5] st σ Q ↔ Rn d m_X5_spread 107 [l0, l1, l2, l3, l4, l5] (vI 0 :: st) σ Q := q0 (show fnd (pgm m_X5_spread) 106 = some (107, 0, 0, 0, 0, []) from rfl)
set_option maxRecDepth 100000 in
theorem s_X5_spread_107 {d : Nat} {l0 l1 l2 l3 l4 l5 : AV} {st : List AV} {σ : Sg} {Q : AV → Sg → Prop}  : Rn d m_X5_spread 107 [l0, l1, l2, l3, l4, l5] st σ Q ↔ Rn d m_X5_spread 110 [l0, l1, l2, l3, l4, l5] (vI 144 :: st) σ Q := q0 (show fnd (pgm m_X5_spread) 107 = some (110, 0, 144, 2, 0, []) from rfl)
set_option maxRecDepth 100000 in
theorem s_X5_spread_110 {d : Nat} {l0 l1 l2 l3 l4 l5 : AV} {st : List AV} {n dp sp : Int} {a b : Nat} {σ : Sg} {Q : AV → Sg → Prop} (hc : 0 ≤ w32 sp ∧ 0 ≤ w32 dp ∧ 0 ≤ w32 n ∧ w32 sp + w32 n ≤ al σ 2 a ∧ w32 dp + w32 n ≤ al σ 2 b ∧ a ≠ b ∧ st.length ≤ 4 ∧ 0 < al σ 2 a ∧ 0 < al σ 2 b) : Rn d m_X5_spread 110 [l0, l1, l2, l3, l4, l5] (vI n :: vI dp :: vR b :: vI sp :: vR a :: st) σ Q ↔ Rn d m_X5_spread 113 [l0, l1, l2, l3, l4, l5] st (cpy σ a (w32 sp) b (w32 dp) (w32 n)) Q := q36 (show fnd (pgm m_X5_spread) 110 = some (113, 36, 276, 2, 0, []) from rfl) ⟨by decide, hc⟩
set_option maxRecDepth 100000 in
theorem s_X5_spread_113 {d : Nat} {l0 l1 l2 l3 l4 l5 : AV} {σ : Sg} {Q : AV → Sg → Prop}  : Rn d m_X5_spread 113 [l0, l1, l2, l3, l4, l5] [] σ Q ↔ Q none σ := q37_0 (st := []) (show fnd (pgm m_X5_spread) 113 = some (114, 37, 0, 0, 0, []) from rfl)
set_option maxRecDepth 100000 in
theorem en_X5_tryAllWeather {d : Nat} {o : Nat} {a0 : Int} {σ σ0 : Sg} {r0 : AV} (h : Rn d m_X5_tryAllWeather 0 [vR o, vI a0, none, none, none, none] [] σ (fun r σ1 => r = r0 ∧ σ1 = σ0)) : Ev (d + 1) m_X5_tryAllWeather [vR o, vI a0] σ r0 σ0 := Ev_is (Nat.le_of_ble_eq_true rfl) h
set_option maxRecDepth 100000 in
theorem eo_X5_tryAllWeather {d : Nat} {o : Nat} {a0 : Int} {σ : Sg} {Q : AV → Sg → Prop} (h : Rn d m_X5_tryAllWeather 0 [vR o, vI a0, none, none, none, none] [] σ Q) : ∃ r σ1, Ev (d + 1) m_X5_tryAllWeather [vR o, vI a0] σ r σ1 ∧ Q r σ1 := Ev_of (Nat.le_of_ble_eq_true rfl) h
set_option maxRecDepth 100000 in
theorem s_X5_tryAllWeather_0 {d : Nat} {l0 l1 l2 l3 l4 l5 : AV} {st : List AV} {σ : Sg} {Q : AV → Sg → Prop}  : Rn d m_X5_tryAllWeather 0 [l0, l1, l2, l3, l4, l5] st σ Q ↔ Rn d m_X5_tryAllWeather 1 [l0, l1, l2, l3, l4, l5] (vI 0 :: st) σ Q := q0 (show fnd (pgm m_X5_tryAllWeather) 0 = some (1, 0, 0, 0, 0, []) from rfl)
set_option maxRecDepth 100000 in
theorem s_X5_tryAllWeather_1 {d : Nat} {l0 l1 l2 l3 l4 l5 : AV} {st : List AV} {x : Int} {σ : Sg} {Q : AV → Sg → Prop}  : Rn d m_X5_tryAllWeather 1 [l0, l1, l2, l3, l4, l5] (vI x :: st) σ Q ↔ Rn d m_X5_tryAllWeather 2 [l0, l1, vI x, l3, l4, l5] st σ Q := q6 (show fnd (pgm m_X5_tryAllWeather) 1 = some (2, 6, 0, 2, 0, []) from rfl) (by decide : 2 < 6)
set_option maxRecDepth 100000 in
theorem s_X5_tryAllWeather_2 {d : Nat} {l1 l2 l3 l4 l5 : AV} {st : List AV} {o : Nat} {σ : Sg} {Q : AV → Sg → Prop} (ho : o ≠ 0) : Rn d m_X5_tryAllWeather 2 [vR o, l1, l2, l3, l4, l5] st σ Q ↔ Rn d m_X5_tryAllWeather 3 [vR o, l1, l2, l3, l4, l5] (vR o :: st) σ Q := q5 (show fnd (pgm m_X5_tryAllWeather) 2 = some (3, 5, 0, 0, 0, []) from rfl) rfl ho
set_option maxRecDepth 100000 in
theorem s_X5_tryAllWeather_3 {d : Nat} {l0 l1 l2 l3 l4 l5 : AV} {st : List AV} {σ : Sg} {Q : AV → Sg → Prop}  : Rn d m_X5_tryAllWeather 3 [l0, l1, l2, l3, l4, l5] st σ Q ↔ Rn d m_X5_tryAllWeather 4 [l0, l1, l2, l3, l4, l5] (vI (-1) :: st) σ Q := q0 (show fnd (pgm m_X5_tryAllWeather) 3 = some (4, 0, (-1), 0, 0, []) from rfl)
set_option maxRecDepth 100000 in
theorem s_X5_tryAllWeather_4 {d : Nat} {l0 l1 l2 l3 l4 l5 : AV} {st : List AV} {o : Nat} {x : Int} {σ : Sg} {Q : AV → Sg → Prop} (hk : kn σ o = (0, 5)) : Rn d m_X5_tryAllWeather 4 [l0, l1, l2, l3, l4, l5] (vI x :: vR o :: st) σ Q ↔ Rn d m_X5_tryAllWeather 7 [l0, l1, l2, l3, l4, l5] st (up σ o 8 x) Q := q34i (show fnd (pgm m_X5_tryAllWeather) 4 = some (7, 34, 48, 5, 8, []) from rfl) hk rfl
set_option maxRecDepth 100000 in
theorem s_X5_tryAllWeather_7 {d : Nat} {l1 l2 l3 l4 l5 : AV} {st : List AV} {o : Nat} {σ : Sg} {Q : AV → Sg → Prop} (ho : o ≠ 0) : Rn d m_X5_tryAllWeather 7 [vR o, l1, l2, l3, l4, l5] st σ Q ↔ Rn d m_X5_tryAllWeather 8 [vR o, l1, l2, l3, l4, l5] (vR o :: st) σ Q := q5 (show fnd (pgm m_X5_tryAllWeather) 7 = some (8, 5, 0, 0, 0, []) from rfl) rfl ho
set_option maxRecDepth 100000 in
theorem s_X5_tryAllWeather_8 {d : Nat} {l0 l1 l2 l3 l4 l5 : AV} {st : List AV} {o : Nat} {σ : Sg} {Q : AV → Sg → Prop} (hk : kn σ o = (0, 5)) : Rn d m_X5_tryAllWeather 8 [l0, l1, l2, l3, l4, l5] (vR o :: st) σ Q ↔ Rn d m_X5_tryAllWeather 11 [l0, l1, l2, l3, l4, l5] (vR (tp o 4) :: st) σ Q := q33 (show fnd (pgm m_X5_tryAllWeather) 8 = some (11, 33, 34, 5, 4, []) from rfl) hk
set_option maxRecDepth 100000 in
theorem s_X5_tryAllWeather_11 {d : Nat} {l1 l2 l3 l4 l5 : AV} {st : List AV} {o : Nat} {σ : Sg} {Q : AV → Sg → Prop} (ho : o ≠ 0) : Rn d m_X5_tryAllWeather 11 [vR o, l1, l2, l3, l4, l5] st σ Q ↔ Rn d m_X5_tryAllWeather 12 [vR o, l1, l2, l3, l4, l5] (vR o :: st) σ Q := q5 (show fnd (pgm m_X5_tryAllWeather) 11 = some (12, 5, 0, 0, 0, []) from rfl) rfl ho
set_option maxRecDepth 100000 in
theorem s_X5_tryAllWeather_12 {d : Nat} {l0 l1 l2 l3 l4 l5 : AV} {st : List AV} {o : Nat} {σ : Sg} {Q : AV → Sg → Prop} (hk : kn σ o = (0, 5)) : Rn d m_X5_tryAllWeather 12 [l0, l1, l2, l3, l4, l5] (vR o :: st) σ Q ↔ Rn d m_X5_tryAllWeather 15 [l0, l1, l2, l3, l4, l5] (vR (tp o 0) :: st) σ Q := q33 (show fnd (pgm m_X5_tryAllWeather) 12 = some (15, 33, 12, 5, 0, []) from rfl) hk
set_option maxRecDepth 100000 in
theorem s_X5_tryAllWeather_15 {d : Nat} {l0 l1 l2 l3 l4 l5 : AV} {st : List AV} {o : Nat} {σ : Sg} {Q : AV → Sg → Prop} (hk : kn σ o = (0, 0)) : Rn d m_X5_tryAllWeather 15 [l0, l1, l2, l3, l4, l5] (vR o :: st) σ Q ↔ Rn d m_X5_tryAllWeather 18 [l0, l1, l2, l3, l4, l5] (vR (tp o 7) :: st) σ Q := q33 (show fnd (pgm m_X5_tryAllWeather) 15 = some (18, 33, 105, 0, 7, []) from rfl) hk
set_option maxRecDepth 100000 in
theorem s_X5_tryAllWeather_18 {d : Nat} {l0 l1 l2 l3 l4 l5 : AV} {st : List AV} {o : Nat} {a0 : Nat} {σ : Sg} {Q : AV → Sg → Prop} (h4 : st.length ≤ 4) (hk : kn σ o = (0, 2)) : Rn d m_X5_tryAllWeather 18 [l0, l1, l2, l3, l4, l5] (vR a0 :: vR o :: st) σ Q ↔ ∃ r σ1, Ev d m_X2_copyOf [vR o, vR a0] σ r σ1 ∧ Rn d m_X5_tryAllWeather 21 [l0, l1, l2, l3, l4, l5] (psh r st) σ1 Q := q35 (show fnd (pgm m_X5_tryAllWeather) 18 = some (21, 35, 282, 24, 2, []) from rfl) ⟨⟨by simp, by simpa using h4⟩, (by simp only [List.take, List.reverse, List.reverseAux, rcv]; rw [if_neg (by decide +kernel)]; exact decide_eq_true hk)⟩
set_option maxRecDepth 100000 in
theorem s_X5_tryAllWeather_21 {d : Nat} {l1 l2 l3 l4 l5 : AV} {st : List AV} {o : Nat} {σ : Sg} {Q : AV → Sg → Prop} (ho : o ≠ 0) : Rn d m_X5_tryAllWeather 21 [vR o, l1, l2, l3, l4, l5] st σ Q ↔ Rn d m_X5_tryAllWeather 22 [vR o, l1, l2, l3, l4, l5] (vR o :: st) σ Q := q5 (show fnd (pgm m_X5_tryAllWeather) 21 = some (22, 5, 0, 0, 0, []) from rfl) rfl ho
set_option maxRecDepth 100000 in
theorem s_X5_tryAllWeather_22 {d : Nat} {l0 l2 l3 l4 l5 : AV} {st : List AV} {x : Int} {σ : Sg} {Q : AV → Sg → Prop}  : Rn d m_X5_tryAllWeather 22 [l0, vI x, l2, l3, l4, l5] st σ Q ↔ Rn d m_X5_tryAllWeather 23 [l0, vI x, l2, l3, l4, l5] (vI x :: st) σ Q := q3 (show fnd (pgm m_X5_tryAllWeather) 22 = some (23, 3, 0, 1, 0, []) from rfl) rfl
set_option maxRecDepth 100000 in
theorem s_X5_tryAllWeather_23 {d : Nat} {l0 l1 l2 l3 l4 l5 : AV} {st : List AV} {σ : Sg} {Q : AV → Sg → Prop}  : Rn d m_X5_tryAllWeather 23 [l0, l1, l2, l3, l4, l5] st σ Q ↔ Rn d m_X5_tryAllWeather 24 [l0, l1, l2, l3, l4, l5] (vI 1 :: st) σ Q := q0 (show fnd (pgm m_X5_tryAllWeather) 23 = some (24, 0, 1, 0, 0, []) from rfl)
set_option maxRecDepth 100000 in
theorem s_X5_tryAllWeather_24 {d : Nat} {l0 l1 l2 l3 l4 l5 : AV} {st : List AV} {a b : Int} {σ : Sg} {Q : AV → Sg → Prop}  : Rn d m_X5_tryAllWeather 24 [l0, l1, l2, l3, l4, l5] (vI b :: vI a :: st) σ Q ↔ Rn d m_X5_tryAllWeather 25 [l0, l1, l2, l3, l4, l5] (vI (a - b) :: st) σ Q := q10_1 (show fnd (pgm m_X5_tryAllWeather) 24 = some (25, 10, 0, 1, 0, []) from rfl)
set_option maxRecDepth 100000 in
theorem s_X5_tryAllWeather_25 {d : Nat} {l1 l2 l3 l4 l5 : AV} {st : List AV} {o : Nat} {σ : Sg} {Q : AV → Sg → Prop} (ho : o ≠ 0) : Rn d m_X5_tryAllWeather 25 [vR o, l1, l2, l3, l4, l5] st σ Q ↔ Rn d m_X5_tryAllWeather 26 [vR o, l1, l2, l3, l4, l5] (vR o :: st) σ Q := q5 (show fnd (pgm m_X5_tryAllWeather) 25 = some (26, 5, 0, 0, 0, []) from rfl) rfl ho
set_option maxRecDepth 100000 in
theorem s_X5_tryAllWeather_26 {d : Nat} {l0 l1 l2 l3 l4 l5 : AV} {st : List AV} {o : Nat} {σ : Sg} {Q : AV → Sg → Prop} (hk : kn σ o = (0, 5)) : Rn d m_X5_tryAllWeather 26 [l0, l1, l2, l3, l4, l5] (vR o :: st) σ Q ↔ Rn d m_X5_tryAllWeather 29 [l0, l1, l2, l3, l4, l5] (vR (tp o 0) :: st) σ Q := q33 (show fnd (pgm m_X5_tryAllWeather) 26 = some (29, 33, 12, 5, 0, []) from rfl) hk
set_option maxRecDepth 100000 in
theorem s_X5_tryAllWeather_29 {d : Nat} {l0 l1 l2 l3 l4 l5 : AV} {st : List AV} {o : Nat} {σ : Sg} {Q : AV → Sg → Prop} (hk : kn σ o = (0, 0)) : Rn d m_X5_tryAllWeather 29 [l0, l1, l2, l3, l4, l5] (vR o :: st) σ Q ↔ Rn d m_X5_tryAllWeather 32 [l0, l1, l2, l3, l4, l5] (vI (σ o 10) :: st) σ Q := q33 (show fnd (pgm m_X5_tryAllWeather) 29 = some (32, 33, 166, 0, 10, []) from rfl) hk
set_option maxRecDepth 100000 in
theorem s_X5_tryAllWeather_32 {d : Nat} {l0 l1 l2 l3 l4 l5 : AV} {st : List AV} {a b : Int} {σ : Sg} {Q : AV → Sg → Prop} (h4 : st.length ≤ 4) : Rn d m_X5_tryAllWeather 32 [l0, l1, l2, l3, l4, l5] (vI b :: vI a :: st) σ Q ↔ Rn d m_X5_tryAllWeather 35 [l0, l1, l2, l3, l4, l5] (vI (if w32 b < w32 a then b else a) :: st) σ Q := q44 (show fnd (pgm m_X5_tryAllWeather) 32 = some (35, 44, 285, 0, 0, []) from rfl) h4
set_option maxRecDepth 100000 in
theorem s_X5_tryAllWeather_35 {d : Nat} {l0 l1 l2 l3 l4 l5 : AV} {st : List AV} {o : Nat} {a0 : Int} {σ : Sg} {Q : AV → Sg → Prop} (h4 : st.length ≤ 4) (hk : kn σ o = (0, 5)) : Rn d m_X5_tryAllWeather 35 [l0, l1, l2, l3, l4, l5] (vI a0 :: vR o :: st) σ Q ↔ ∃ r σ1, Ev d m_X5_walkAll [vR o, vI a0] σ r σ1 ∧ Rn d m_X5_tryAllWeather 38 [l0, l1, l2, l3, l4, l5] (psh r st) σ1 Q := q35 (show fnd (pgm m_X5_tryAllWeather) 35 = some (38, 35, 138, 93, 2, []) from rfl) ⟨⟨by simp, by simpa using h4⟩, (by simp only [List.take, List.reverse, List.reverseAux, rcv]; rw [if_neg (by decide +kernel)]; exact decide_eq_true hk)⟩
set_option maxRecDepth 100000 in
theorem s_X5_tryAllWeather_38 {d : Nat} {l1 l2 l3 l4 l5 : AV} {st : List AV} {o : Nat} {σ : Sg} {Q : AV → Sg → Prop} (ho : o ≠ 0) : Rn d m_X5_tryAllWeather 38 [vR o, l1, l2, l3, l4, l5] st σ Q ↔ Rn d m_X5_tryAllWeather 39 [vR o, l1, l2, l3, l4, l5] (vR o :: st) σ Q := q5 (show fnd (pgm m_X5_tryAllWeather) 38 = some (39, 5, 0, 0, 0, []) from rfl) rfl ho
set_option maxRecDepth 100000 in
theorem s_X5_tryAllWeather_39 {d : Nat} {l0 l1 l2 l3 l4 l5 : AV} {st : List AV} {o : Nat} {σ : Sg} {Q : AV → Sg → Prop} (hk : kn σ o = (0, 5)) : Rn d m_X5_tryAllWeather 39 [l0, l1, l2, l3, l4, l5] (vR o :: st) σ Q ↔ Rn d m_X5_tryAllWeather 42 [l0, l1, l2, l3, l4, l5] (vR (tp o 3) :: st) σ Q := q33 (show fnd (pgm m_X5_tryAllWeather) 39 = some (42, 33, 27, 5, 3, []) from rfl) hk
set_option maxRecDepth 100000 in
theorem s_X5_tryAllWeather_42 {d : Nat} {l0 l1 l2 l3 l4 l5 : AV} {st : List AV} {o : Nat} {σ : Sg} {Q : AV → Sg → Prop} (hk : kn σ o = (0, 4)) : Rn d m_X5_tryAllWeather 42 [l0, l1, l2, l3, l4, l5] (vR o :: st) σ Q ↔ Rn d m_X5_tryAllWeather 45 [l0, l1, l2, l3, l4, l5] (vR (tp o 0) :: st) σ Q := q33 (show fnd (pgm m_X5_tryAllWeather) 42 = some (45, 33, 141, 4, 0, []) from rfl) hk
set_option maxRecDepth 100000 in
theorem s_X5_tryAllWeather_45 {d : Nat} {l0 l1 l2 l3 l4 l5 : AV} {st : List AV} {σ : Sg} {Q : AV → Sg → Prop}  : Rn d m_X5_tryAllWeather 45 [l0, l1, l2, l3, l4, l5] st σ Q ↔ Rn d m_X5_tryAllWeather 46 [l0, l1, l2, l3, l4, l5] (vI 0 :: st) σ Q := q0 (show fnd (pgm m_X5_tryAllWeather) 45 = some (46, 0, 0, 0, 0, []) from rfl)
set_option maxRecDepth 100000 in
theorem s_X5_tryAllWeather_46 {d : Nat} {l1 l2 l3 l4 l5 : AV} {st : List AV} {o : Nat} {σ : Sg} {Q : AV → Sg → Prop} (ho : o ≠ 0) : Rn d m_X5_tryAllWeather 46 [vR o, l1, l2, l3, l4, l5] st σ Q ↔ Rn d m_X5_tryAllWeather 47 [vR o, l1, l2, l3, l4, l5] (vR o :: st) σ Q := q5 (show fnd (pgm m_X5_tryAllWeather) 46 = some (47, 5, 0, 0, 0, []) from rfl) rfl ho
set_option maxRecDepth 100000 in
theorem s_X5_tryAllWeather_47 {d : Nat} {l0 l1 l2 l3 l4 l5 : AV} {st : List AV} {o : Nat} {σ : Sg} {Q : AV → Sg → Prop} (hk : kn σ o = (0, 5)) : Rn d m_X5_tryAllWeather 47 [l0, l1, l2, l3, l4, l5] (vR o :: st) σ Q ↔ Rn d m_X5_tryAllWeather 50 [l0, l1, l2, l3, l4, l5] (vR (tp o 5) :: st) σ Q := q33 (show fnd (pgm m_X5_tryAllWeather) 47 = some (50, 33, 38, 5, 5, []) from rfl) hk
set_option maxRecDepth 100000 in
theorem s_X5_tryAllWeather_50 {d : Nat} {l0 l1 l2 l3 l4 l5 : AV} {st : List AV} {σ : Sg} {Q : AV → Sg → Prop}  : Rn d m_X5_tryAllWeather 50 [l0, l1, l2, l3, l4, l5] st σ Q ↔ Rn d m_X5_tryAllWeather 51 [l0, l1, l2, l3, l4, l5] (vI 0 :: st) σ Q := q0 (show fnd (pgm m_X5_tryAllWeather) 50 = some (51, 0, 0, 0, 0, []) from rfl)
set_option maxRecDepth 100000 in
theorem s_X5_tryAllWeather_51 {d : Nat} {l0 l1 l2 l3 l4 l5 : AV} {st : List AV} {σ : Sg} {Q : AV → Sg → Prop}  : Rn d m_X5_tryAllWeather 51 [l0, l1, l2, l3, l4, l5] st σ Q ↔ Rn d m_X5_tryAllWeather 53 [l0, l1, l2, l3, l4, l5] (vI 6 :: st) σ Q := q0 (show fnd (pgm m_X5_tryAllWeather) 51 = some (53, 0, 6, 1, 0, []) from rfl)
set_option maxRecDepth 100000 in
theorem s_X5_tryAllWeather_53 {d : Nat} {l0 l1 l2 l3 l4 l5 : AV} {st : List AV} {n dp sp : Int} {a b : Nat} {σ : Sg} {Q : AV → Sg → Prop} (hc : 0 ≤ w32 sp ∧ 0 ≤ w32 dp ∧ 0 ≤ w32 n ∧ w32 sp + w32 n ≤ al σ 1 a ∧ w32 dp + w32 n ≤ al σ 1 b ∧ a ≠ b ∧ st.length ≤ 4 ∧ 0 < al σ 1 a ∧ 0 < al σ 1 b) : Rn d m_X5_tryAllWeather 53 [l0, l1, l2, l3, l4, l5] (vI n :: vI dp :: vR b :: vI sp :: vR a :: st) σ Q ↔ Rn d m_X5_tryAllWeather 56 [l0, l1, l2, l3, l4, l5] st (cpy σ a (w32 sp) b (w32 dp) (w32 n)) Q := q36 (show fnd (pgm m_X5_tryAllWeather) 53 = some (56, 36, 276, 1, 0, []) from rfl) ⟨by decide, hc⟩
set_option maxRecDepth 100000 in
theorem s_X5_tryAllWeather_56 {d : Nat} {l0 l1 l2 l3 l4 l5 : AV} {st : List AV} {σ : Sg} {Q : AV → Sg → Prop}  : Rn d m_X5_tryAllWeather 56 [l0, l1, l2, l3, l4, l5] st σ Q ↔ Rn d m_X5_tryAllWeather 57 [l0, l1, l2, l3, l4, l5] (vI 0 :: st) σ Q := q0 (show fnd (pgm m_X5_tryAllWeather) 56 = some (57, 0, 0, 0, 0, []) from rfl)
set_option maxRecDepth 100000 in
theorem s_X5_tryAllWeather_57 {d : Nat} {l0 l1 l2 l3 l4 l5 : AV} {st : List AV} {x : Int} {σ : Sg} {Q : AV → Sg → Prop}  : Rn d m_X5_tryAllWeather 57 [l0, l1, l2, l3, l4, l5] (vI x :: st) σ Q ↔ Rn d m_X5_tryAllWeather 58 [l0, l1, l2, vI x, l4, l5] st σ Q := q6 (show fnd (pgm m_X5_tryAllWeather) 57 = some (58, 6, 0, 3, 0, []) from rfl) (by decide : 3 < 6)
set_option maxRecDepth 100000 in
theorem s_X5_tryAllWeather_58 {d : Nat} {l0 l1 l2 l4 l5 : AV} {st : List AV} {x : Int} {σ : Sg} {Q : AV → Sg → Prop}  : Rn d m_X5_tryAllWeather 58 [l0, l1, l2, vI x, l4, l5] st σ Q ↔ Rn d m_X5_tryAllWeather 59 [l0, l1, l2, vI x, l4, l5] (vI x :: st) σ Q := q3 (show fnd (pgm m_X5_tryAllWeather) 58 = some (59, 3, 0, 3, 0, []) from rfl) rfl
set_option maxRecDepth 100000 in
theorem s_X5_tryAllWeather_59 {d : Nat} {l0 l1 l2 l3 l4 l5 : AV} {st : List AV} {σ : Sg} {Q : AV → Sg → Prop}  : Rn d m_X5_tryAllWeather 59 [l0, l1, l2, l3, l4, l5] st σ Q ↔ Rn d m_X5_tryAllWeather 60 [l0, l1, l2, l3, l4, l5] (vI 4 :: st) σ Q := q0 (show fnd (pgm m_X5_tryAllWeather) 59 = some (60, 0, 4, 0, 0, []) from rfl)
set_option maxRecDepth 100000 in
theorem s_X5_tryAllWeather_60 {d : Nat} {l0 l1 l2 l3 l4 l5 : AV} {st : List AV} {a b : Int} {σ : Sg} {Q : AV → Sg → Prop}  : Rn d m_X5_tryAllWeather 60 [l0, l1, l2, l3, l4, l5] (vI b :: vI a :: st) σ Q ↔ if w32 b ≤ w32 a then Rn d m_X5_tryAllWeather 167 [l0, l1, l2, l3, l4, l5] st σ Q else Rn d m_X5_tryAllWeather 63 [l0, l1, l2, l3, l4, l5] st σ Q := q20_3 (show fnd (pgm m_X5_tryAllWeather) 60 = some (63, 20, 0, 3, 167, []) from rfl)
set_option maxRecDepth 100000 in
theorem s_X5_tryAllWeather_63 {d : Nat} {l0 l1 l2 l3 l4 l5 : AV} {st : List AV} {σ : Sg} {Q : AV → Sg → Prop}  : Rn d m_X5_tryAllWeather 63 [l0, l1, l2, l3, l4, l5] st σ Q ↔ Rn d m_X5_tryAllWeather 64 [l0, l1, l2, l3, l4, l5] (vI 0 :: st) σ Q := q0 (show fnd (pgm m_X5_tryAllWeather) 63 = some (64, 0, 0, 0, 0, []) from rfl)
set_option maxRecDepth 100000 in
theorem s_X5_tryAllWeather_64 {d : Nat} {l0 l1 l2 l3 l4 l5 : AV} {st : List AV} {x : Int} {σ : Sg} {Q : AV → Sg → Prop}  : Rn d m_X5_tryAllWeather 64 [l0, l1, l2, l3, l4, l5] (vI x :: st) σ Q ↔ Rn d m_X5_tryAllWeather 66 [l0, l1, l2, l3, vI x, l5] st σ Q := q6 (show fnd (pgm m_X5_tryAllWeather) 64 = some (66, 6, 0, 4, 1, []) from rfl) (by decide : 4 < 6)
set_option maxRecDepth 100000 in
theorem s_X5_tryAllWeather_66 {d : Nat} {l0 l1 l2 l3 l5 : AV} {st : List AV} {x : Int} {σ : Sg} {Q : AV → Sg → Prop}  : Rn d m_X5_tryAllWeather 66 [l0, l1, l2, l3, vI x, l5] st σ Q ↔ Rn d m_X5_tryAllWeather 68 [l0, l1, l2, l3, vI x, l5] (vI x :: st) σ Q := q3 (show fnd (pgm m_X5_tryAllWeather) 66 = some (68, 3, 0, 4, 1, []) from rfl) rfl
set_option maxRecDepth 100000 in
theorem s_X5_tryAllWeather_68 {d : Nat} {l0 l1 l2 l3 l4 l5 : AV} {st : List AV} {σ : Sg} {Q : AV → Sg → Prop}  : Rn d m_X5_tryAllWeather 68 [l0, l1, l2, l3, l4, l5] st σ Q ↔ Rn d m_X5_tryAllWeather 71 [l0, l1, l2, l3, l4, l5] (vI 891 :: st) σ Q := q0 (show fnd (pgm m_X5_tryAllWeather) 68 = some (71, 0, 891, 2, 0, []) from rfl)
set_option maxRecDepth 100000 in
theorem s_X5_tryAllWeather_71 {d : Nat} {l0 l1 l2 l3 l4 l5 : AV} {st : List AV} {a b : Int} {σ : Sg} {Q : AV → Sg → Prop}  : Rn d m_X5_tryAllWeather 71 [l0, l1, l2, l3, l4, l5] (vI b :: vI a :: st) σ Q ↔ if w32 b < w32 a then Rn d m_X5_tryAllWeather 141 [l0, l1, l2, l3, l4, l5] st σ Q else Rn d m_X5_tryAllWeather 74 [l0, l1, l2, l3, l4, l5] st σ Q := q20_4 (show fnd (pgm m_X5_tryAllWeather) 71 = some (74, 20, 0, 4, 141, []) from rfl)
set_option maxRecDepth 100000 in
theorem s_X5_tryAllWeather_74 {d : Nat} {l0 l1 l2 l3 l5 : AV} {st : List AV} {x : Int} {σ : Sg} {Q : AV → Sg → Prop}  : Rn d m_X5_tryAllWeather 74 [l0, l1, l2, l3, vI x, l5] st σ Q ↔ Rn d m_X5_tryAllWeather 76 [l0, l1, l2, l3, vI x, l5] (vI x :: st) σ Q := q3 (show fnd (pgm m_X5_tryAllWeather) 74 = some (76, 3, 0, 4, 1, []) from rfl) rfl
set_option maxRecDepth 100000 in
theorem s_X5_tryAllWeather_76 {d : Nat} {l0 l1 l2 l3 l4 l5 : AV} {st : List AV} {a : Int} {σ : Sg} {Q : AV → Sg → Prop}  : Rn d m_X5_tryAllWeather 76 [l0, l1, l2, l3, l4, l5] (vI a :: st) σ Q ↔ if w32 a ≤ 0 then Rn d m_X5_tryAllWeather 100 [l0, l1, l2, l3, l4, l5] st σ Q else Rn d m_X5_tryAllWeather 79 [l0, l1, l2, l3, l4, l5] st σ Q := q19_5 (show fnd (pgm m_X5_tryAllWeather) 76 = some (79, 19, 0, 5, 100, []) from rfl)
set_option maxRecDepth 100000 in
theorem s_X5_tryAllWeather_79 {d : Nat} {l1 l2 l3 l4 l5 : AV} {st : List AV} {o : Nat} {σ : Sg} {Q : AV → Sg → Prop} (ho : o ≠ 0) : Rn d m_X5_tryAllWeather 79 [vR o, l1, l2, l3, l4, l5] st σ Q ↔ Rn d m_X5_tryAllWeather 80 [vR o, l1, l2, l3, l4, l5] (vR o :: st) σ Q := q5 (show fnd (pgm m_X5_tryAllWeather) 79 = some (80, 5, 0, 0, 0, []) from rfl) rfl ho
set_option maxRecDepth 100000 in
theorem s_X5_tryAllWeather_80 {d : Nat} {l0 l1 l2 l3 l4 l5 : AV} {st : List AV} {o : Nat} {σ : Sg} {Q : AV → Sg → Prop} (hk : kn σ o = (0, 5)) : Rn d m_X5_tryAllWeather 80 [l0, l1, l2, l3, l4, l5] (vR o :: st) σ Q ↔ Rn d m_X5_tryAllWeather 83 [l0, l1, l2, l3, l4, l5] (vR (tp o 0) :: st) σ Q := q33 (show fnd (pgm m_X5_tryAllWeather) 80 = some (83, 33, 12, 5, 0, []) from rfl) hk
set_option maxRecDepth 100000 in
theorem s_X5_tryAllWeather_83 {d : Nat} {l0 l1 l2 l3 l5 : AV} {st : List AV} {x : Int} {σ : Sg} {Q : AV → Sg → Prop}  : Rn d m_X5_tryAllWeather 83 [l0, l1, l2, l3, vI x, l5] st σ Q ↔ Rn d m_X5_tryAllWeather 85 [l0, l1, l2, l3, vI x, l5] (vI x :: st) σ Q := q3 (show fnd (pgm m_X5_tryAllWeather) 83 = some (85, 3, 0, 4, 1, []) from rfl) rfl
set_option maxRecDepth 100000 in
theorem s_X5_tryAllWeather_85 {d : Nat} {l0 l1 l2 l3 l4 l5 : AV} {st : List AV} {σ : Sg} {Q : AV → Sg → Prop}  : Rn d m_X5_tryAllWeather 85 [l0, l1, l2, l3, l4, l5] st σ Q ↔ Rn d m_X5_tryAllWeather 86 [l0, l1, l2, l3, l4, l5] (vI 1 :: st) σ Q := q0 (show fnd (pgm m_X5_tryAllWeather) 85 = some (86, 0, 1, 0, 0, []) from rfl)
set_option maxRecDepth 100000 in
theorem s_X5_tryAllWeather_86 {d : Nat} {l0 l1 l2 l3 l4 l5 : AV} {st : List AV} {a b : Int} {σ : Sg} {Q : AV → Sg → Prop}  : Rn d m_X5_tryAllWeather 86 [l0, l1, l2, l3, l4, l5] (vI b :: vI a :: st) σ Q ↔ Rn d m_X5_tryAllWeather 87 [l0, l1, l2, l3, l4, l5] (vI (a - b) :: st) σ Q := q10_1 (show fnd (pgm m_X5_tryAllWeather) 86 = some (87, 10, 0, 1, 0, []) from rfl)
set_option maxRecDepth 100000 in
theorem s_X5_tryAllWeather_87 {d : Nat} {l0 l1 l2 l3 l5 : AV} {st : List AV} {x : Int} {σ : Sg} {Q : AV → Sg → Prop}  : Rn d m_X5_tryAllWeather 87 [l0, l1, l2, l3, vI x, l5] st σ Q ↔ Rn d m_X5_tryAllWeather 89 [l0, l1, l2, l3, vI x, l5] (vI x :: st) σ Q := q3 (show fnd (pgm m_X5_tryAllWeather) 87 = some (89, 3, 0, 4, 1, []) from rfl) rfl
set_option maxRecDepth 100000 in
theorem s_X5_tryAllWeather_89 {d : Nat} {l0 l1 l2 l4 l5 : AV} {st : List AV} {x : Int} {σ : Sg} {Q : AV → Sg → Prop}  : Rn d m_X5_tryAllWeather 89 [l0, l1, l2, vI x, l4, l5] st σ Q ↔ Rn d m_X5_tryAllWeather 90 [l0, l1, l2, vI x, l4, l5] (vI x :: st) σ Q := q3 (show fnd (pgm m_X5_tryAllWeather) 89 = some (90, 3, 0, 3, 0, []) from rfl) rfl
set_option maxRecDepth 100000 in
theorem s_X5_tryAllWeather_90 {d : Nat} {l0 l1 l2 l3 l4 l5 : AV} {st : List AV} {o : Nat} {a0 : Int} {a1 : Int} {a2 : Int} {σ : Sg} {Q : AV → Sg → Prop} (h4 : st.length ≤ 4) (hk : kn σ o = (0, 0)) : Rn d m_X5_tryAllWeather 90 [l0, l1, l2, l3, l4, l5] (vI a2 :: vI a1 :: vI a0 :: vR o :: st) σ Q ↔ ∃ r σ1, Ev d m_X0_alikeBy [vR o, vI a0, vI a1, vI a2] σ r σ1 ∧ Rn d m_X5_tryAllWeather 93 [l0, l1, l2, l3, l4, l5] (psh r st) σ1 Q := q35 (show fnd (pgm m_X5_tryAllWeather) 90 = some (93, 35, 290, 4, 4, []) from rfl) ⟨⟨by simp, by simpa using h4⟩, (by simp only [List.take, List.reverse, List.reverseAux, rcv]; rw [if_neg (by decide +kernel)]; exact decide_eq_true hk)⟩
set_option maxRecDepth 100000 in
theorem s_X5_tryAllWeather_93 {d : Nat} {l0 l1 l2 l3 l4 l5 : AV} {st : List AV} {a : Int} {σ : Sg} {Q : AV → Sg → Prop}  : Rn d m_X5_tryAllWeather 93 [l0, l1, l2, l3, l4, l5] (vI a :: st) σ Q ↔ if w32 a = 0 then Rn d m_X5_tryAllWeather 100 [l0, l1, l2, l3, l4, l5] st σ Q else Rn d m_X5_tryAllWeather 96 [l0, l1, l2, l3, l4, l5] st σ Q := q19_0 (show fnd (pgm m_X5_tryAllWeather) 93 = some (96, 19, 0, 0, 100, []) from rfl)
set_option maxRecDepth 100000 in
theorem s_X5_tryAllWeather_96 {d : Nat} {l0 l1 l2 l3 l4 l5 : AV} {st : List AV} {σ : Sg} {Q : AV → Sg → Prop}  : Rn d m_X5_tryAllWeather 96 [l0, l1, l2, l3, l4, l5] st σ Q ↔ Rn d m_X5_tryAllWeather 97 [l0, l1, l2, l3, l4, l5] (vI 1 :: st) σ Q := q0 (show fnd (pgm m_X5_tryAllWeather) 96 = some (97, 0, 1, 0, 0, []) from rfl)
set_option maxRecDepth 100000 in
theorem s_X5_tryAllWeather_97 {d : Nat} {l0 l1 l2 l3 l4 l5 : AV} {st : List AV} {σ : Sg} {Q : AV → Sg → Prop}  : Rn d m_X5_tryAllWeather 97 [l0, l1, l2, l3, l4, l5] st σ Q ↔ Rn d m_X5_tryAllWeather 101 [l0, l1, l2, l3, l4, l5] st σ Q := q21 (show fnd (pgm m_X5_tryAllWeather) 97 = some (100, 21, 0, 0, 101, []) from rfl)
set_option maxRecDepth 100000 in
theorem s_X5_tryAllWeather_100 {d : Nat} {l0 l1 l2 l3 l4 l5 : AV} {st : List AV} {σ : Sg} {Q : AV → Sg → Prop}  : Rn d m_X5_tryAllWeather 100 [l0, l1, l2, l3, l4, l5] st σ Q ↔ Rn d m_X5_tryAllWeather 101 [l0, l1, l2, l3, l4, l5] (vI 0 :: st) σ Q := q0 (show fnd (pgm m_X5_tryAllWeather) 100 = some (101, 0, 0, 0, 0, []) from rfl)
set_option maxRecDepth 100000 in
theorem s_X5_tryAllWeather_101 {d : Nat} {l0 l1 l2 l3 l4 l5 : AV} {st : List AV} {x : Int} {σ : Sg} {Q : AV → Sg → Prop}  : Rn d m_X5_tryAllWeather 101 [l0, l1, l2, l3, l4, l5] (vI x :: st) σ Q ↔ Rn d m_X5_tryAllWeather 103 [l0, l1, l2, l3, l4, vI x] st σ Q := q6 (show fnd (pgm m_X5_tryAllWeather) 101 = some (103, 6, 0, 5, 1, []) from rfl) (by decide : 5 < 6)
set_option maxRecDepth 100000 in
theorem s_X5_tryAllWeather_103 {d : Nat} {l1 l2 l3 l4 l5 : AV} {st : List AV} {o : Nat} {σ : Sg} {Q : AV → Sg → Prop} (ho : o ≠ 0) : Rn d m_X5_tryAllWeather 103 [vR o, l1, l2, l3, l4, l5] st σ Q ↔ Rn d m_X5_tryAllWeather 104 [vR o, l1, l2, l3, l4, l5] (vR o :: st) σ Q := q5 (show fnd (pgm m_X5_tryAllWeather) 103 = some (104, 5, 0, 0, 0, []) from rfl) rfl ho
set_option maxRecDepth 100000 in
theorem s_X5_tryAllWeather_104 {d : Nat} {l0 l1 l2 l3 l4 l5 : AV} {st : List AV} {o : Nat} {σ : Sg} {Q : AV → Sg → Prop} (hk : kn σ o = (0, 5)) : Rn d m_X5_tryAllWeather 104 [l0, l1, l2, l3, l4, l5] (vR o :: st) σ Q ↔ Rn d m_X5_tryAllWeather 107 [l0, l1, l2, l3, l4, l5] (vR (tp o 6) :: st) σ Q := q33 (show fnd (pgm m_X5_tryAllWeather) 104 = some (107, 33, 41, 5, 6, []) from rfl) hk
set_option maxRecDepth 100000 in
theorem s_X5_tryAllWeather_107 {d : Nat} {l0 l1 l2 l3 l5 : AV} {st : List AV} {x : Int} {σ : Sg} {Q : AV → Sg → Prop}  : Rn d m_X5_tryAllWeather 107 [l0, l1, l2, l3, vI x, l5] st σ Q ↔ Rn d m_X5_tryAllWeather 109 [l0, l1, l2, l3, vI x, l5] (vI x :: st) σ Q := q3 (show fnd (pgm m_X5_tryAllWeather) 107 = some (109, 3, 0, 4, 1, []) from rfl) rfl
set_option maxRecDepth 100000 in
theorem s_X5_tryAllWeather_109 {d : Nat} {l0 l1 l2 l3 l4 : AV} {st : List AV} {x : Int} {σ : Sg} {Q : AV → Sg → Prop}  : Rn d m_X5_tryAllWeather 109 [l0, l1, l2, l3, l4, vI x] st σ Q ↔ Rn d m_X5_tryAllWeather 111 [l0, l1, l2, l3, l4, vI x] (vI x :: st) σ Q := q3 (show fnd (pgm m_X5_tryAllWeather) 109 = some (111, 3, 0, 5, 1, []) from rfl) rfl
set_option maxRecDepth 100000 in
theorem s_X5_tryAllWeather_111 {d : Nat} {l0 l1 l2 l3 l4 l5 : AV} {st : List AV} {a : Int} {σ : Sg} {Q : AV → Sg → Prop}  : Rn d m_X5_tryAllWeather 111 [l0, l1, l2, l3, l4, l5] (vI a :: st) σ Q ↔ if w32 a = 0 then Rn d m_X5_tryAllWeather 126 [l0, l1, l2, l3, l4, l5] st σ Q else Rn d m_X5_tryAllWeather 114 [l0, l1, l2, l3, l4, l5] st σ Q := q19_0 (show fnd (pgm m_X5_tryAllWeather) 111 = some (114, 19, 0, 0, 126, []) from rfl)
set_option maxRecDepth 100000 in
theorem s_X5_tryAllWeather_114 {d : Nat} {l1 l2 l3 l4 l5 : AV} {st : List AV} {o : Nat} {σ : Sg} {Q : AV → Sg → Prop} (ho : o ≠ 0) : Rn d m_X5_tryAllWeather 114 [vR o, l1, l2, l3, l4, l5] st σ Q ↔ Rn d m_X5_tryAllWeather 115 [vR o, l1, l2, l3, l4, l5] (vR o :: st) σ Q := q5 (show fnd (pgm m_X5_tryAllWeather) 114 = some (115, 5, 0, 0, 0, []) from rfl) rfl ho
set_option maxRecDepth 100000 in
theorem s_X5_tryAllWeather_115 {d : Nat} {l0 l1 l2 l3 l4 l5 : AV} {st : List AV} {o : Nat} {σ : Sg} {Q : AV → Sg → Prop} (hk : kn σ o = (0, 5)) : Rn d m_X5_tryAllWeather 115 [l0, l1, l2, l3, l4, l5] (vR o :: st) σ Q ↔ Rn d m_X5_tryAllWeather 118 [l0, l1, l2, l3, l4, l5] (vR (tp o 6) :: st) σ Q := q33 (show fnd (pgm m_X5_tryAllWeather) 115 = some (118, 33, 41, 5, 6, []) from rfl) hk
set_option maxRecDepth 100000 in
theorem s_X5_tryAllWeather_118 {d : Nat} {l0 l1 l2 l3 l5 : AV} {st : List AV} {x : Int} {σ : Sg} {Q : AV → Sg → Prop}  : Rn d m_X5_tryAllWeather 118 [l0, l1, l2, l3, vI x, l5] st σ Q ↔ Rn d m_X5_tryAllWeather 120 [l0, l1, l2, l3, vI x, l5] (vI x :: st) σ Q := q3 (show fnd (pgm m_X5_tryAllWeather) 118 = some (120, 3, 0, 4, 1, []) from rfl) rfl
set_option maxRecDepth 100000 in
theorem s_X5_tryAllWeather_120 {d : Nat} {l0 l1 l2 l3 l4 l5 : AV} {st : List AV} {σ : Sg} {Q : AV → Sg → Prop}  : Rn d m_X5_tryAllWeather 120 [l0, l1, l2, l3, l4, l5] st σ Q ↔ Rn d m_X5_tryAllWeather 121 [l0, l1, l2, l3, l4, l5] (vI 1 :: st) σ Q := q0 (show fnd (pgm m_X5_tryAllWeather) 120 = some (121, 0, 1, 0, 0, []) from rfl)
set_option maxRecDepth 100000 in
theorem s_X5_tryAllWeather_121 {d : Nat} {l0 l1 l2 l3 l4 l5 : AV} {st : List AV} {a b : Int} {σ : Sg} {Q : AV → Sg → Prop}  : Rn d m_X5_tryAllWeather 121 [l0, l1, l2, l3, l4, l5] (vI b :: vI a :: st) σ Q ↔ Rn d m_X5_tryAllWeather 122 [l0, l1, l2, l3, l4, l5] (vI (a - b) :: st) σ Q := q10_1 (show fnd (pgm m_X5_tryAllWeather) 121 = some (122, 10, 0, 1, 0, []) from rfl)
set_option maxRecDepth 100000 in
theorem s_X5_tryAllWeather_122 {d : Nat} {l0 l1 l2 l3 l4 l5 : AV} {st : List AV} {i : Int} {o : Nat} {σ : Sg} {Q : AV → Sg → Prop} (hi : 0 ≤ w32 i ∧ w32 i < al σ 3 o) : Rn d m_X5_tryAllWeather 122 [l0, l1, l2, l3, l4, l5] (vI i :: vR o :: st) σ Q ↔ Rn d m_X5_tryAllWeather 123 [l0, l1, l2, l3, l4, l5] (vI (σ o (w32 i)) :: st) σ Q := q27 (show fnd (pgm m_X5_tryAllWeather) 122 = some (123, 27, 0, 0, 0, []) from rfl) hi
set_option maxRecDepth 100000 in
theorem s_X5_tryAllWeather_123 {d : Nat} {l0 l1 l2 l3 l4 l5 : AV} {st : List AV} {σ : Sg} {Q : AV → Sg → Prop}  : Rn d m_X5_tryAllWeather 123 [l0, l1, l2, l3, l4, l5] st σ Q ↔ Rn d m_X5_tryAllWeather 134 [l0, l1, l2, l3, l4, l5] st σ Q := q21 (show fnd (pgm m_X5_tryAllWeather) 123 = some (126, 21, 0, 0, 134, []) from rfl)
set_option maxRecDepth 100000 in
theorem s_X5_tryAllWeather_126 {d : Nat} {l1 l2 l3 l4 l5 : AV} {st : List AV} {o : Nat} {σ : Sg} {Q : AV → Sg → Prop} (ho : o ≠ 0) : Rn d m_X5_tryAllWeather 126 [vR o, l1, l2, l3, l4, l5] st σ Q ↔ Rn d m_X5_tryAllWeather 127 [vR o, l1, l2, l3, l4, l5] (vR o :: st) σ Q := q5 (show fnd (pgm m_X5_tryAllWeather) 126 = some (127, 5, 0, 0, 0, []) from rfl) rfl ho
set_option maxRecDepth 100000 in
theorem s_X5_tryAllWeather_127 {d : Nat} {l0 l2 l3 l4 l5 : AV} {st : List AV} {x : Int} {σ : Sg} {Q : AV → Sg → Prop}  : Rn d m_X5_tryAllWeather 127 [l0, vI x, l2, l3, l4, l5] st σ Q ↔ Rn d m_X5_tryAllWeather 128 [l0, vI x, l2, l3, l4, l5] (vI x :: st) σ Q := q3 (show fnd (pgm m_X5_tryAllWeather) 127 = some (128, 3, 0, 1, 0, []) from rfl) rfl
set_option maxRecDepth 100000 in
theorem s_X5_tryAllWeather_128 {d : Nat} {l0 l1 l2 l4 l5 : AV} {st : List AV} {x : Int} {σ : Sg} {Q : AV → Sg → Prop}  : Rn d m_X5_tryAllWeather 128 [l0, l1, l2, vI x, l4, l5] st σ Q ↔ Rn d m_X5_tryAllWeather 129 [l0, l1, l2, vI x, l4, l5] (vI x :: st) σ Q := q3 (show fnd (pgm m_X5_tryAllWeather) 128 = some (129, 3, 0, 3, 0, []) from rfl) rfl
set_option maxRecDepth 100000 in
theorem s_X5_tryAllWeather_129 {d : Nat} {l0 l1 l2 l3 l5 : AV} {st : List AV} {x : Int} {σ : Sg} {Q : AV → Sg → Prop}  : Rn d m_X5_tryAllWeather 129 [l0, l1, l2, l3, vI x, l5] st σ Q ↔ Rn d m_X5_tryAllWeather 131 [l0, l1, l2, l3, vI x, l5] (vI x :: st) σ Q := q3 (show fnd (pgm m_X5_tryAllWeather) 129 = some (131, 3, 0, 4, 1, []) from rfl) rfl
set_option maxRecDepth 100000 in
theorem s_X5_tryAllWeather_131 {d : Nat} {l0 l1 l2 l3 l4 l5 : AV} {st : List AV} {o : Nat} {a0 : Int} {a1 : Int} {a2 : Int} {σ : Sg} {Q : AV → Sg → Prop} (h4 : st.length ≤ 4) (hk : kn σ o = (0, 5)) : Rn d m_X5_tryAllWeather 131 [l0, l1, l2, l3, l4, l5] (vI a2 :: vI a1 :: vI a0 :: vR o :: st) σ Q ↔ ∃ r σ1, Ev d m_X5_pushFits [vR o, vI a0, vI a1, vI a2] σ r σ1 ∧ Rn d m_X5_tryAllWeather 134 [l0, l1, l2, l3, l4, l5] (psh r st) σ1 Q := q35 (show fnd (pgm m_X5_tryAllWeather) 131 = some (134, 35, 294, 98, 4, []) from rfl) ⟨⟨by simp, by simpa using h4⟩, (by simp only [List.take, List.reverse, List.reverseAux, rcv]; rw [if_neg (by decide +kernel)]; exact decide_eq_true hk)⟩
set_option maxRecDepth 100000 in
theorem s_X5_tryAllWeather_134 {d : Nat} {l0 l1 l2 l3 l4 l5 : AV} {st : List AV} {i x : Int} {o : Nat} {σ : Sg} {Q : AV → Sg → Prop} (hi : 0 ≤ w32 i ∧ w32 i < al σ 3 o) (hx : x = 0 ∨ x = 1) : Rn d m_X5_tryAllWeather 134 [l0, l1, l2, l3, l4, l5] (vI x :: vI i :: vR o :: st) σ Q ↔ Rn d m_X5_tryAllWeather 135 [l0, l1, l2, l3, l4, l5] st (up σ o (w32 i) x) Q := q31 (show fnd (pgm m_X5_tryAllWeather) 134 = some (135, 31, 0, 0, 0, []) from rfl) hi hx
set_option maxRecDepth 100000 in
theorem s_X5_tryAllWeather_135 {d : Nat} {l0 l1 l2 l3 l5 : AV} {st : List AV} {x : Int} {σ : Sg} {Q : AV → Sg → Prop}  : Rn d m_X5_tryAllWeather 135 [l0, l1, l2, l3, vI x, l5] st σ Q ↔ Rn d m_X5_tryAllWeather 138 [l0, l1, l2, l3, vI (x + 1), l5] st σ Q := q9 (show fnd (pgm m_X5_tryAllWeather) 135 = some (138, 9, 1, 4, 0, []) from rfl) rfl
set_option maxRecDepth 100000 in
theorem s_X5_tryAllWeather_138 {d : Nat} {l0 l1 l2 l3 l4 l5 : AV} {st : List AV} {σ : Sg} {Q : AV → Sg → Prop}  : Rn d m_X5_tryAllWeather 138 [l0, l1, l2, l3, l4, l5] st σ Q ↔ Rn d m_X5_tryAllWeather 66 [l0, l1, l2, l3, l4, l5] st σ Q := q21 (show fnd (pgm m_X5_tryAllWeather) 138 = some (141, 21, 0, 0, 66, []) from rfl)
set_option maxRecDepth 100000 in
theorem s_X5_tryAllWeather_141 {d : Nat} {l1 l2 l3 l4 l5 : AV} {st : List AV} {o : Nat} {σ : Sg} {Q : AV → Sg → Prop} (ho : o ≠ 0) : Rn d m_X5_tryAllWeather 141 [vR o, l1, l2, l3, l4, l5] st σ Q ↔ Rn d m_X5_tryAllWeather 142 [vR o, l1, l2, l3, l4, l5] (vR o :: st) σ Q := q5 (show fnd (pgm m_X5_tryAllWeather) 141 = some (142, 5, 0, 0, 0, []) from rfl) rfl ho
set_option maxRecDepth 100000 in
theorem s_X5_tryAllWeather_142 {d : Nat} {l0 l1 l2 l3 l4 l5 : AV} {st : List AV} {o : Nat} {σ : Sg} {Q : AV → Sg → Prop} (hk : kn σ o = (0, 5)) : Rn d m_X5_tryAllWeather 142 [l0, l1, l2, l3, l4, l5] (vR o :: st) σ Q ↔ Rn d m_X5_tryAllWeather 145 [l0, l1, l2, l3, l4, l5] (vR (tp o 7) :: st) σ Q := q33 (show fnd (pgm m_X5_tryAllWeather) 142 = some (145, 33, 45, 5, 7, []) from rfl) hk
set_option maxRecDepth 100000 in
theorem s_X5_tryAllWeather_145 {d : Nat} {l0 l1 l2 l4 l5 : AV} {st : List AV} {x : Int} {σ : Sg} {Q : AV → Sg → Prop}  : Rn d m_X5_tryAllWeather 145 [l0, l1, l2, vI x, l4, l5] st σ Q ↔ Rn d m_X5_tryAllWeather 146 [l0, l1, l2, vI x, l4, l5] (vI x :: st) σ Q := q3 (show fnd (pgm m_X5_tryAllWeather) 145 = some (146, 3, 0, 3, 0, []) from rfl) rfl
set_option maxRecDepth 100000 in
theorem s_X5_tryAllWeather_146 {d : Nat} {l1 l2 l3 l4 l5 : AV} {st : List AV} {o : Nat} {σ : Sg} {Q : AV → Sg → Prop} (ho : o ≠ 0) : Rn d m_X5_tryAllWeather 146 [vR o, l1, l2, l3, l4, l5] st σ Q ↔ Rn d m_X5_tryAllWeather 147 [vR o, l1, l2, l3, l4, l5] (vR o :: st) σ Q := q5 (show fnd (pgm m_X5_tryAllWeather) 146 = some (147, 5, 0, 0, 0, []) from rfl) rfl ho
set_option maxRecDepth 100000 in
theorem s_X5_tryAllWeather_147 {d : Nat} {l0 l1 l2 l4 l5 : AV} {st : List AV} {x : Int} {σ : Sg} {Q : AV → Sg → Prop}  : Rn d m_X5_tryAllWeather 147 [l0, l1, l2, vI x, l4, l5] st σ Q ↔ Rn d m_X5_tryAllWeather 148 [l0, l1, l2, vI x, l4, l5] (vI x :: st) σ Q := q3 (show fnd (pgm m_X5_tryAllWeather) 147 = some (148, 3, 0, 3, 0, []) from rfl) rfl
set_option maxRecDepth 100000 in
theorem s_X5_tryAllWeather_148 {d : Nat} {l0 l1 l2 l3 l4 l5 : AV} {st : List AV} {o : Nat} {a0 : Int} {σ : Sg} {Q : AV → Sg → Prop} (h4 : st.length ≤ 4) (hk : kn σ o = (0, 5)) : Rn d m_X5_tryAllWeather 148 [l0, l1, l2, l3, l4, l5] (vI a0 :: vR o :: st) σ Q ↔ ∃ r σ1, Ev d m_X5_countFitting [vR o, vI a0] σ r σ1 ∧ Rn d m_X5_tryAllWeather 151 [l0, l1, l2, l3, l4, l5] (psh r st) σ1 Q := q35 (show fnd (pgm m_X5_tryAllWeather) 148 = some (151, 35, 297, 99, 2, []) from rfl) ⟨⟨by simp, by simpa using h4⟩, (by simp only [List.take, List.reverse, List.reverseAux, rcv]; rw [if_neg (by decide +kernel)]; exact decide_eq_true hk)⟩
set_option maxRecDepth 100000 in
theorem s_X5_tryAllWeather_151 {d : Nat} {l0 l1 l2 l3 l4 l5 : AV} {st : List AV} {i x : Int} {o : Nat} {σ : Sg} {Q : AV → Sg → Prop} (hi : 0 ≤ w32 i ∧ w32 i < al σ 1 o) : Rn d m_X5_tryAllWeather 151 [l0, l1, l2, l3, l4, l5] (vI x :: vI i :: vR o :: st) σ Q ↔ Rn d m_X5_tryAllWeather 152 [l0, l1, l2, l3, l4, l5] st (up σ o (w32 i) x) Q := q29 (show fnd (pgm m_X5_tryAllWeather) 151 = some (152, 29, 0, 0, 0, []) from rfl) hi
set_option maxRecDepth 100000 in
theorem s_X5_tryAllWeather_152 {d : Nat} {l0 l1 l3 l4 l5 : AV} {st : List AV} {x : Int} {σ : Sg} {Q : AV → Sg → Prop}  : Rn d m_X5_tryAllWeather 152 [l0, l1, vI x, l3, l4, l5] st σ Q ↔ Rn d m_X5_tryAllWeather 153 [l0, l1, vI x, l3, l4, l5] (vI x :: st) σ Q := q3 (show fnd (pgm m_X5_tryAllWeather) 152 = some (153, 3, 0, 2, 0, []) from rfl) rfl
set_option maxRecDepth 100000 in
theorem s_X5_tryAllWeather_153 {d : Nat} {l1 l2 l3 l4 l5 : AV} {st : List AV} {o : Nat} {σ : Sg} {Q : AV → Sg → Prop} (ho : o ≠ 0) : Rn d m_X5_tryAllWeather 153 [vR o, l1, l2, l3, l4, l5] st σ Q ↔ Rn d m_X5_tryAllWeather 154 [vR o, l1, l2, l3, l4, l5] (vR o :: st) σ Q := q5 (show fnd (pgm m_X5_tryAllWeather) 153 = some (154, 5, 0, 0, 0, []) from rfl) rfl ho
set_option maxRecDepth 100000 in
theorem s_X5_tryAllWeather_154 {d : Nat} {l0 l1 l2 l3 l4 l5 : AV} {st : List AV} {o : Nat} {σ : Sg} {Q : AV → Sg → Prop} (hk : kn σ o = (0, 5)) : Rn d m_X5_tryAllWeather 154 [l0, l1, l2, l3, l4, l5] (vR o :: st) σ Q ↔ Rn d m_X5_tryAllWeather 157 [l0, l1, l2, l3, l4, l5] (vR (tp o 7) :: st) σ Q := q33 (show fnd (pgm m_X5_tryAllWeather) 154 = some (157, 33, 45, 5, 7, []) from rfl) hk
set_option maxRecDepth 100000 in
theorem s_X5_tryAllWeather_157 {d : Nat} {l0 l1 l2 l4 l5 : AV} {st : List AV} {x : Int} {σ : Sg} {Q : AV → Sg → Prop}  : Rn d m_X5_tryAllWeather 157 [l0, l1, l2, vI x, l4, l5] st σ Q ↔ Rn d m_X5_tryAllWeather 158 [l0, l1, l2, vI x, l4, l5] (vI x :: st) σ Q := q3 (show fnd (pgm m_X5_tryAllWeather) 157 = some (158, 3, 0, 3, 0, []) from rfl) rfl
set_option maxRecDepth 100000 in
theorem s_X5_tryAllWeather_158 {d : Nat} {l0 l1 l2 l3 l4 l5 : AV} {st : List AV} {i : Int} {o : Nat} {σ : Sg} {Q : AV → Sg → Prop} (hi : 0 ≤ w32 i ∧ w32 i < al σ 1 o) : Rn d m_X5_tryAllWeather 158 [l0, l1, l2, l3, l4, l5] (vI i :: vR o :: st) σ Q ↔ Rn d m_X5_tryAllWeather 159 [l0, l1, l2, l3, l4, l5] (vI (σ o (w32 i)) :: st) σ Q := q25 (show fnd (pgm m_X5_tryAllWeather) 158 = some (159, 25, 0, 0, 0, []) from rfl) hi
set_option maxRecDepth 100000 in
theorem s_X5_tryAllWeather_159 {d : Nat} {l0 l1 l2 l3 l4 l5 : AV} {st : List AV} {a b : Int} {σ : Sg} {Q : AV → Sg → Prop}  : Rn d m_X5_tryAllWeather 159 [l0, l1, l2, l3, l4, l5] (vI b :: vI a :: st) σ Q ↔ Rn d m_X5_tryAllWeather 160 [l0, l1, l2, l3, l4, l5] (vI (a + b) :: st) σ Q := q10_0 (show fnd (pgm m_X5_tryAllWeather) 159 = some (160, 10, 0, 0, 0, []) from rfl)
set_option maxRecDepth 100000 in
theorem s_X5_tryAllWeather_160 {d : Nat} {l0 l1 l2 l3 l4 l5 : AV} {st : List AV} {x : Int} {σ : Sg} {Q : AV → Sg → Prop}  : Rn d m_X5_tryAllWeather 160 [l0, l1, l2, l3, l4, l5] (vI x :: st) σ Q ↔ Rn d m_X5_tryAllWeather 161 [l0, l1, vI x, l3, l4, l5] st σ Q := q6 (show fnd (pgm m_X5_tryAllWeather) 160 = some (161, 6, 0, 2, 0, []) from rfl) (by decide : 2 < 6)
set_option maxRecDepth 100000 in
theorem s_X5_tryAllWeather_161 {d : Nat} {l0 l1 l2 l4 l5 : AV} {st : List AV} {x : Int} {σ : Sg} {Q : AV → Sg → Prop}  : Rn d m_X5_tryAllWeather 161 [l0, l1, l2, vI x, l4, l5] st σ Q ↔ Rn d m_X5_tryAllWeather 164 [l0, l1, l2, vI (x + 1), l4, l5] st σ Q := q9 (show fnd (pgm m_X5_tryAllWeather) 161 = some (164, 9, 1, 3, 0, []) from rfl) rfl
set_option maxRecDepth 100000 in
theorem s_X5_tryAllWeather_164 {d : Nat} {l0 l1 l2 l3 l4 l5 : AV} {st : List AV} {σ : Sg} {Q : AV → Sg → Prop}  : Rn d m_X5_tryAllWeather 164 [l0, l1, l2, l3, l4, l5] st σ Q ↔ Rn d m_X5_tryAllWeather 58 [l0, l1, l2, l3, l4, l5] st σ Q := q21 (show fnd (pgm m_X5_tryAllWeather) 164 = some (167, 21, 0, 0, 58, []) from rfl)
set_option maxRecDepth 100000 in
theorem s_X5_tryAllWeather_167 {d : Nat} {l0 l1 l3 l4 l5 : AV} {st : List AV} {x : Int} {σ : Sg} {Q : AV → Sg → Prop}  : Rn d m_X5_tryAllWeather 167 [l0, l1, vI x, l3, l4, l5] st σ Q ↔ Rn d m_X5_tryAllWeather 168 [l0, l1, vI x, l3, l4, l5] (vI x :: st) σ Q := q3 (show fnd (pgm m_X5_tryAllWeather) 167 = some (168, 3, 0, 2, 0, []) from rfl) rfl
set_option maxRecDepth 100000 in
theorem s_X5_tryAllWeather_168 {d : Nat} {l0 l1 l2 l3 l4 l5 : AV} {x : Int} {σ : Sg} {Q : AV → Sg → Prop}  : Rn d m_X5_tryAllWeather 168 [l0, l1, l2, l3, l4, l5] [vI x] σ Q ↔ Q (vI x) σ := q37_1 (st := []) (show fnd (pgm m_X5_tryAllWeather) 168 = some (169, 37, 0, 1, 0, []) from rfl)
set_option maxRecDepth 100000 in
theorem en_X5_pushFits {d : Nat} {o : Nat} {a0 : Int} {a1 : Int} {a2 : Int} {σ σ0 : Sg} {r0 : AV} (h : Rn d m_X5_pushFits 0 [vR o, vI a0, vI a1, vI a2] [] σ (fun r σ1 => r = r0 ∧ σ1 = σ0)) : Ev (d + 1) m_X5_pushFits [vR o, vI a0, vI a1, vI a2] σ r0 σ0 := Ev_is (Nat.le_of_ble_eq_true rfl) h
set_option maxRecDepth 100000 in
theorem eo_X5_pushFits {d : Nat} {o : Nat} {a0 : Int} {a1 : Int} {a2 : Int} {σ : Sg} {Q : AV → Sg → Prop} (h : Rn d m_X5_pushFits 0 [vR o, vI a0, vI a1, vI a2] [] σ Q) : ∃ r σ1, Ev (d + 1) m_X5_pushFits [vR o, vI a0, vI a1, vI a2] σ r σ1 ∧ Q r σ1 := Ev_of (Nat.le_of_ble_eq_true rfl) h
set_option maxRecDepth 100000 in
theorem s_X5_pushFits_0 {d : Nat} {l1 l2 l3 : AV} {st : List AV} {o : Nat} {σ : Sg} {Q : AV → Sg → Prop} (ho : o ≠ 0) : Rn d m_X5_pushFits 0 [vR o, l1, l2, l3] st σ Q ↔ Rn d m_X5_pushFits 1 [vR o, l1, l2, l3] (vR o :: st) σ Q := q5 (show fnd (pgm m_X5_pushFits) 0 = some (1, 5, 0, 0, 0, []) from rfl) rfl ho
set_option maxRecDepth 100000 in
theorem s_X5_pushFits_1 {d : Nat} {l0 l1 l2 l3 : AV} {st : List AV} {o : Nat} {σ : Sg} {Q : AV → Sg → Prop} (hk : kn σ o = (0, 5)) : Rn d m_X5_pushFits 1 [l0, l1, l2, l3] (vR o :: st) σ Q ↔ Rn d m_X5_pushFits 4 [l0, l1, l2, l3] (vR (tp o 4) :: st) σ Q := q33 (show fnd (pgm m_X5_pushFits) 1 = some (4, 33, 34, 5, 4, []) from rfl) hk
set_option maxRecDepth 100000 in
theorem s_X5_pushFits_4 {d : Nat} {l0 l2 l3 : AV} {st : List AV} {x : Int} {σ : Sg} {Q : AV → Sg → Prop}  : Rn d m_X5_pushFits 4 [l0, vI x, l2, l3] st σ Q ↔ Rn d m_X5_pushFits 5 [l0, vI x, l2, l3] (vI x :: st) σ Q := q3 (show fnd (pgm m_X5_pushFits) 4 = some (5, 3, 0, 1, 0, []) from rfl) rfl
set_option maxRecDepth 100000 in
theorem s_X5_pushFits_5 {d : Nat} {l0 l1 l3 : AV} {st : List AV} {x : Int} {σ : Sg} {Q : AV → Sg → Prop}  : Rn d m_X5_pushFits 5 [l0, l1, vI x, l3] st σ Q ↔ Rn d m_X5_pushFits 6 [l0, l1, vI x, l3] (vI x :: st) σ Q := q3 (show fnd (pgm m_X5_pushFits) 5 = some (6, 3, 0, 2, 0, []) from rfl) rfl
set_option maxRecDepth 100000 in
theorem s_X5_pushFits_6 {d : Nat} {l0 l1 l2 : AV} {st : List AV} {x : Int} {σ : Sg} {Q : AV → Sg → Prop}  : Rn d m_X5_pushFits 6 [l0, l1, l2, vI x] st σ Q ↔ Rn d m_X5_pushFits 7 [l0, l1, l2, vI x] (vI x :: st) σ Q := q3 (show fnd (pgm m_X5_pushFits) 6 = some (7, 3, 0, 3, 0, []) from rfl) rfl
set_option maxRecDepth 100000 in
theorem s_X5_pushFits_7 {d : Nat} {l0 l1 l2 l3 : AV} {st : List AV} {σ : Sg} {Q : AV → Sg → Prop}  : Rn d m_X5_pushFits 7 [l0, l1, l2, l3] st σ Q ↔ Rn d m_X5_pushFits 8 [l0, l1, l2, l3] (vI 1 :: st) σ Q := q0 (show fnd (pgm m_X5_pushFits) 7 = some (8, 0, 1, 0, 0, []) from rfl)
set_option maxRecDepth 100000 in
theorem s_X5_pushFits_8 {d : Nat} {l0 l1 l2 l3 : AV} {st : List AV} {σ : Sg} {Q : AV → Sg → Prop}  : Rn d m_X5_pushFits 8 [l0, l1, l2, l3] st σ Q ↔ Rn d m_X5_pushFits 9 [l0, l1, l2, l3] (vI 0 :: st) σ Q := q0 (show fnd (pgm m_X5_pushFits) 8 = some (9, 0, 0, 0, 0, []) from rfl)
set_option maxRecDepth 100000 in
theorem s_X5_pushFits_9 {d : Nat} {l0 l1 l2 l3 : AV} {st : List AV} {o : Nat} {a0 : Int} {a1 : Int} {a2 : Int} {a3 : Int} {a4 : Int} {σ : Sg} {Q : AV → Sg → Prop} (h4 : st.length ≤ 4) (hk : kn σ o = (0, 2)) : Rn d m_X5_pushFits 9 [l0, l1, l2, l3] (vI a4 :: vI a3 :: vI a2 :: vI a1 :: vI a0 :: vR o :: st) σ Q ↔ ∃ r σ1, Ev d m_X2_tell [vR o, vI a0, vI a1, vI a2, vI a3, vI a4] σ r σ1 ∧ Rn d m_X5_pushFits 12 [l0, l1, l2, l3] (psh r st) σ1 Q := q35 (show fnd (pgm m_X5_pushFits) 9 = some (12, 35, 108, 19, 6, []) from rfl) ⟨⟨by simp, by simpa using h4⟩, (by simp only [List.take, List.reverse, List.reverseAux, rcv]; rw [if_neg (by decide +kernel)]; exact decide_eq_true hk)⟩
set_option maxRecDepth 100000 in
theorem s_X5_pushFits_12 {d : Nat} {l1 l2 l3 : AV} {st : List AV} {o : Nat} {σ : Sg} {Q : AV → Sg → Prop} (ho : o ≠ 0) : Rn d m_X5_pushFits 12 [vR o, l1, l2, l3] st σ Q ↔ Rn d m_X5_pushFits 13 [vR o, l1, l2, l3] (vR o :: st) σ Q := q5 (show fnd (pgm m_X5_pushFits) 12 = some (13, 5, 0, 0, 0, []) from rfl) rfl ho
set_option maxRecDepth 100000 in
theorem s_X5_pushFits_13 {d : Nat} {l0 l1 l2 l3 : AV} {st : List AV} {o : Nat} {σ : Sg} {Q : AV → Sg → Prop} (hk : kn σ o = (0, 5)) : Rn d m_X5_pushFits 13 [l0, l1, l2, l3] (vR o :: st) σ Q ↔ Rn d m_X5_pushFits 16 [l0, l1, l2, l3] (vR (tp o 3) :: st) σ Q := q33 (show fnd (pgm m_X5_pushFits) 13 = some (16, 33, 27, 5, 3, []) from rfl) hk
set_option maxRecDepth 100000 in
theorem s_X5_pushFits_16 {d : Nat} {l1 l2 l3 : AV} {st : List AV} {o : Nat} {σ : Sg} {Q : AV → Sg → Prop} (ho : o ≠ 0) : Rn d m_X5_pushFits 16 [vR o, l1, l2, l3] st σ Q ↔ Rn d m_X5_pushFits 17 [vR o, l1, l2, l3] (vR o :: st) σ Q := q5 (show fnd (pgm m_X5_pushFits) 16 = some (17, 5, 0, 0, 0, []) from rfl) rfl ho
set_option maxRecDepth 100000 in
theorem s_X5_pushFits_17 {d : Nat} {l0 l1 l2 l3 : AV} {st : List AV} {o : Nat} {σ : Sg} {Q : AV → Sg → Prop} (hk : kn σ o = (0, 5)) : Rn d m_X5_pushFits 17 [l0, l1, l2, l3] (vR o :: st) σ Q ↔ Rn d m_X5_pushFits 20 [l0, l1, l2, l3] (vR (tp o 0) :: st) σ Q := q33 (show fnd (pgm m_X5_pushFits) 17 = some (20, 33, 12, 5, 0, []) from rfl) hk
set_option maxRecDepth 100000 in
theorem s_X5_pushFits_20 {d : Nat} {l0 l1 l2 l3 : AV} {st : List AV} {σ : Sg} {Q : AV → Sg → Prop}  : Rn d m_X5_pushFits 20 [l0, l1, l2, l3] st σ Q ↔ Rn d m_X5_pushFits 22 [l0, l1, l2, l3] (vI 63 :: st) σ Q := q0 (show fnd (pgm m_X5_pushFits) 20 = some (22, 0, 63, 1, 0, []) from rfl)
set_option maxRecDepth 100000 in
theorem s_X5_pushFits_22 {d : Nat} {l1 l2 l3 : AV} {st : List AV} {o : Nat} {σ : Sg} {Q : AV → Sg → Prop} (ho : o ≠ 0) : Rn d m_X5_pushFits 22 [vR o, l1, l2, l3] st σ Q ↔ Rn d m_X5_pushFits 23 [vR o, l1, l2, l3] (vR o :: st) σ Q := q5 (show fnd (pgm m_X5_pushFits) 22 = some (23, 5, 0, 0, 0, []) from rfl) rfl ho
set_option maxRecDepth 100000 in
theorem s_X5_pushFits_23 {d : Nat} {l0 l1 l2 l3 : AV} {st : List AV} {o : Nat} {σ : Sg} {Q : AV → Sg → Prop} (hk : kn σ o = (0, 5)) : Rn d m_X5_pushFits 23 [l0, l1, l2, l3] (vR o :: st) σ Q ↔ Rn d m_X5_pushFits 26 [l0, l1, l2, l3] (vR (tp o 5) :: st) σ Q := q33 (show fnd (pgm m_X5_pushFits) 23 = some (26, 33, 38, 5, 5, []) from rfl) hk
set_option maxRecDepth 100000 in
theorem s_X5_pushFits_26 {d : Nat} {l0 l1 l2 l3 : AV} {st : List AV} {o : Nat} {a0 : Nat} {a1 : Int} {a2 : Nat} {σ : Sg} {Q : AV → Sg → Prop} (h4 : st.length ≤ 4) (hk : kn σ o = (0, 4)) : Rn d m_X5_pushFits 26 [l0, l1, l2, l3] (vR a2 :: vI a1 :: vR a0 :: vR o :: st) σ Q ↔ ∃ r σ1, Ev d m_X4_start [vR o, vR a0, vI a1, vR a2] σ r σ1 ∧ Rn d m_X5_pushFits 29 [l0, l1, l2, l3] (psh r st) σ1 Q := q35 (show fnd (pgm m_X5_pushFits) 26 = some (29, 35, 207, 34, 4, []) from rfl) ⟨⟨by simp, by simpa using h4⟩, (by simp only [List.take, List.reverse, List.reverseAux, rcv]; rw [if_neg (by decide +kernel)]; exact decide_eq_true hk)⟩
set_option maxRecDepth 100000 in
theorem s_X5_pushFits_29 {d : Nat} {l1 l2 l3 : AV} {st : List AV} {o : Nat} {σ : Sg} {Q : AV → Sg → Prop} (ho : o ≠ 0) : Rn d m_X5_pushFits 29 [vR o, l1, l2, l3] st σ Q ↔ Rn d m_X5_pushFits 30 [vR o, l1, l2, l3] (vR o :: st) σ Q := q5 (show fnd (pgm m_X5_pushFits) 29 = some (30, 5, 0, 0, 0, []) from rfl) rfl ho
set_option maxRecDepth 100000 in
theorem s_X5_pushFits_30 {d : Nat} {l0 l1 l2 l3 : AV} {st : List AV} {o : Nat} {σ : Sg} {Q : AV → Sg → Prop} (hk : kn σ o = (0, 5)) : Rn d m_X5_pushFits 30 [l0, l1, l2, l3] (vR o :: st) σ Q ↔ Rn d m_X5_pushFits 33 [l0, l1, l2, l3] (vR (tp o 3) :: st) σ Q := q33 (show fnd (pgm m_X5_pushFits) 30 = some (33, 33, 27, 5, 3, []) from rfl) hk
set_option maxRecDepth 100000 in
theorem s_X5_pushFits_33 {d : Nat} {l1 l2 l3 : AV} {st : List AV} {o : Nat} {σ : Sg} {Q : AV → Sg → Prop} (ho : o ≠ 0) : Rn d m_X5_pushFits 33 [vR o, l1, l2, l3] st σ Q ↔ Rn d m_X5_pushFits 34 [vR o, l1, l2, l3] (vR o :: st) σ Q := q5 (show fnd (pgm m_X5_pushFits) 33 = some (34, 5, 0, 0, 0, []) from rfl) rfl ho
set_option maxRecDepth 100000 in
theorem s_X5_pushFits_34 {d : Nat} {l0 l1 l2 l3 : AV} {st : List AV} {o : Nat} {σ : Sg} {Q : AV → Sg → Prop} (hk : kn σ o = (0, 5)) : Rn d m_X5_pushFits 34 [l0, l1, l2, l3] (vR o :: st) σ Q ↔ Rn d m_X5_pushFits 37 [l0, l1, l2, l3] (vR (tp o 4) :: st) σ Q := q33 (show fnd (pgm m_X5_pushFits) 34 = some (37, 33, 34, 5, 4, []) from rfl) hk
set_option maxRecDepth 100000 in
theorem s_X5_pushFits_37 {d : Nat} {l0 l2 l3 : AV} {st : List AV} {x : Int} {σ : Sg} {Q : AV → Sg → Prop}  : Rn d m_X5_pushFits 37 [l0, vI x, l2, l3] st σ Q ↔ Rn d m_X5_pushFits 38 [l0, vI x, l2, l3] (vI x :: st) σ Q := q3 (show fnd (pgm m_X5_pushFits) 37 = some (38, 3, 0, 1, 0, []) from rfl) rfl
set_option maxRecDepth 100000 in
theorem s_X5_pushFits_38 {d : Nat} {l1 l2 l3 : AV} {st : List AV} {o : Nat} {σ : Sg} {Q : AV → Sg → Prop} (ho : o ≠ 0) : Rn d m_X5_pushFits 38 [vR o, l1, l2, l3] st σ Q ↔ Rn d m_X5_pushFits 39 [vR o, l1, l2, l3] (vR o :: st) σ Q := q5 (show fnd (pgm m_X5_pushFits) 38 = some (39, 5, 0, 0, 0, []) from rfl) rfl ho
set_option maxRecDepth 100000 in
theorem s_X5_pushFits_39 {d : Nat} {l0 l1 l2 l3 : AV} {st : List AV} {o : Nat} {σ : Sg} {Q : AV → Sg → Prop} (hk : kn σ o = (0, 5)) : Rn d m_X5_pushFits 39 [l0, l1, l2, l3] (vR o :: st) σ Q ↔ Rn d m_X5_pushFits 42 [l0, l1, l2, l3] (vR (tp o 0) :: st) σ Q := q33 (show fnd (pgm m_X5_pushFits) 39 = some (42, 33, 12, 5, 0, []) from rfl) hk
set_option maxRecDepth 100000 in
theorem s_X5_pushFits_42 {d : Nat} {l0 l1 l2 l3 : AV} {st : List AV} {o : Nat} {σ : Sg} {Q : AV → Sg → Prop} (hk : kn σ o = (0, 0)) : Rn d m_X5_pushFits 42 [l0, l1, l2, l3] (vR o :: st) σ Q ↔ Rn d m_X5_pushFits 45 [l0, l1, l2, l3] (vI (σ o 10) :: st) σ Q := q33 (show fnd (pgm m_X5_pushFits) 42 = some (45, 33, 166, 0, 10, []) from rfl) hk
set_option maxRecDepth 100000 in
theorem s_X5_pushFits_45 {d : Nat} {l0 l1 l2 l3 : AV} {st : List AV} {o : Nat} {a0 : Nat} {a1 : Int} {a2 : Int} {σ : Sg} {Q : AV → Sg → Prop} (h4 : st.length ≤ 4) (hk : kn σ o = (0, 4)) : Rn d m_X5_pushFits 45 [l0, l1, l2, l3] (vI a2 :: vI a1 :: vR a0 :: vR o :: st) σ Q ↔ ∃ r σ1, Ev d m_X4_go [vR o, vR a0, vI a1, vI a2] σ r σ1 ∧ Rn d m_X5_pushFits 48 [l0, l1, l2, l3] (psh r st) σ1 Q := q35 (show fnd (pgm m_X5_pushFits) 45 = some (48, 35, 211, 35, 4, []) from rfl) ⟨⟨by simp, by simpa using h4⟩, (by simp only [List.take, List.reverse, List.reverseAux, rcv]; rw [if_neg (by decide +kernel)]; exact decide_eq_true hk)⟩
set_option maxRecDepth 100000 in
theorem s_X5_pushFits_48 {d : Nat} {l1 l2 l3 : AV} {st : List AV} {o : Nat} {σ : Sg} {Q : AV → Sg → Prop} (ho : o ≠ 0) : Rn d m_X5_pushFits 48 [vR o, l1, l2, l3] st σ Q ↔ Rn d m_X5_pushFits 49 [vR o, l1, l2, l3] (vR o :: st) σ Q := q5 (show fnd (pgm m_X5_pushFits) 48 = some (49, 5, 0, 0, 0, []) from rfl) rfl ho
set_option maxRecDepth 100000 in
theorem s_X5_pushFits_49 {d : Nat} {l0 l1 l2 l3 : AV} {st : List AV} {o : Nat} {σ : Sg} {Q : AV → Sg → Prop} (hk : kn σ o = (0, 5)) : Rn d m_X5_pushFits 49 [l0, l1, l2, l3] (vR o :: st) σ Q ↔ Rn d m_X5_pushFits 52 [l0, l1, l2, l3] (vR (tp o 0) :: st) σ Q := q33 (show fnd (pgm m_X5_pushFits) 49 = some (52, 33, 12, 5, 0, []) from rfl) hk
set_option maxRecDepth 100000 in
theorem s_X5_pushFits_52 {d : Nat} {l1 l2 l3 : AV} {st : List AV} {o : Nat} {σ : Sg} {Q : AV → Sg → Prop} (ho : o ≠ 0) : Rn d m_X5_pushFits 52 [vR o, l1, l2, l3] st σ Q ↔ Rn d m_X5_pushFits 53 [vR o, l1, l2, l3] (vR o :: st) σ Q := q5 (show fnd (pgm m_X5_pushFits) 52 = some (53, 5, 0, 0, 0, []) from rfl) rfl ho
set_option maxRecDepth 100000 in
theorem s_X5_pushFits_53 {d : Nat} {l0 l1 l2 l3 : AV} {st : List AV} {o : Nat} {σ : Sg} {Q : AV → Sg → Prop} (hk : kn σ o = (0, 5)) : Rn d m_X5_pushFits 53 [l0, l1, l2, l3] (vR o :: st) σ Q ↔ Rn d m_X5_pushFits 56 [l0, l1, l2, l3] (vR (tp o 3) :: st) σ Q := q33 (show fnd (pgm m_X5_pushFits) 53 = some (56, 33, 27, 5, 3, []) from rfl) hk
set_option maxRecDepth 100000 in
theorem s_X5_pushFits_56 {d : Nat} {l0 l1 l2 l3 : AV} {st : List AV} {o : Nat} {σ : Sg} {Q : AV → Sg → Prop} (hk : kn σ o = (0, 4)) : Rn d m_X5_pushFits 56 [l0, l1, l2, l3] (vR o :: st) σ Q ↔ Rn d m_X5_pushFits 59 [l0, l1, l2, l3] (vR (tp o 0) :: st) σ Q := q33 (show fnd (pgm m_X5_pushFits) 56 = some (59, 33, 141, 4, 0, []) from rfl) hk
set_option maxRecDepth 100000 in
theorem s_X5_pushFits_59 {d : Nat} {l0 l1 l2 l3 : AV} {st : List AV} {o : Nat} {a0 : Nat} {σ : Sg} {Q : AV → Sg → Prop} (h4 : st.length ≤ 4) (hk : kn σ o = (0, 0)) : Rn d m_X5_pushFits 59 [l0, l1, l2, l3] (vR a0 :: vR o :: st) σ Q ↔ ∃ r σ1, Ev d m_X0_foundElsewhere [vR o, vR a0] σ r σ1 ∧ Rn d m_X5_pushFits 62 [l0, l1, l2, l3] (psh r st) σ1 Q := q35 (show fnd (pgm m_X5_pushFits) 59 = some (62, 35, 169, 6, 2, []) from rfl) ⟨⟨by simp, by simpa using h4⟩, (by simp only [List.take, List.reverse, List.reverseAux, rcv]; rw [if_neg (by decide +kernel)]; exact decide_eq_true hk)⟩
set_option maxRecDepth 100000 in
theorem s_X5_pushFits_62 {d : Nat} {l0 l1 l2 l3 : AV} {st : List AV} {a : Int} {σ : Sg} {Q : AV → Sg → Prop}  : Rn d m_X5_pushFits 62 [l0, l1, l2, l3] (vI a :: st) σ Q ↔ if ¬ w32 a = 0 then Rn d m_X5_pushFits 69 [l0, l1, l2, l3] st σ Q else Rn d m_X5_pushFits 65 [l0, l1, l2, l3] st σ Q := q19_1 (show fnd (pgm m_X5_pushFits) 62 = some (65, 19, 0, 1, 69, []) from rfl)
set_option maxRecDepth 100000 in
theorem s_X5_pushFits_65 {d : Nat} {l0 l1 l2 l3 : AV} {st : List AV} {σ : Sg} {Q : AV → Sg → Prop}  : Rn d m_X5_pushFits 65 [l0, l1, l2, l3] st σ Q ↔ Rn d m_X5_pushFits 66 [l0, l1, l2, l3] (vI 1 :: st) σ Q := q0 (show fnd (pgm m_X5_pushFits) 65 = some (66, 0, 1, 0, 0, []) from rfl)
set_option maxRecDepth 100000 in
theorem s_X5_pushFits_66 {d : Nat} {l0 l1 l2 l3 : AV} {st : List AV} {σ : Sg} {Q : AV → Sg → Prop}  : Rn d m_X5_pushFits 66 [l0, l1, l2, l3] st σ Q ↔ Rn d m_X5_pushFits 70 [l0, l1, l2, l3] st σ Q := q21 (show fnd (pgm m_X5_pushFits) 66 = some (69, 21, 0, 0, 70, []) from rfl)
set_option maxRecDepth 100000 in
theorem s_X5_pushFits_69 {d : Nat} {l0 l1 l2 l3 : AV} {st : List AV} {σ : Sg} {Q : AV → Sg → Prop}  : Rn d m_X5_pushFits 69 [l0, l1, l2, l3] st σ Q ↔ Rn d m_X5_pushFits 70 [l0, l1, l2, l3] (vI 0 :: st) σ Q := q0 (show fnd (pgm m_X5_pushFits) 69 = some (70, 0, 0, 0, 0, []) from rfl)
set_option maxRecDepth 100000 in
theorem s_X5_pushFits_70 {d : Nat} {l0 l1 l2 l3 : AV} {x : Int} {σ : Sg} {Q : AV → Sg → Prop} (hx : x = 0 ∨ x = 1) : Rn d m_X5_pushFits 70 [l0, l1, l2, l3] [vI x] σ Q ↔ Q (vI x) σ := q37_2 (st := []) (show fnd (pgm m_X5_pushFits) 70 = some (71, 37, 0, 2, 0, []) from rfl) hx
set_option maxRecDepth 100000 in
theorem en_X5_countFitting {d : Nat} {o : Nat} {a0 : Int} {σ σ0 : Sg} {r0 : AV} (h : Rn d m_X5_countFitting 0 [vR o, vI a0, none, none, none] [] σ (fun r σ1 => r = r0 ∧ σ1 = σ0)) : Ev (d + 1) m_X5_countFitting [vR o, vI a0] σ r0 σ0 := Ev_is (Nat.le_of_ble_eq_true rfl) h
set_option maxRecDepth 100000 in
theorem eo_X5_countFitting {d : Nat} {o : Nat} {a0 : Int} {σ : Sg} {Q : AV → Sg → Prop} (h : Rn d m_X5_countFitting 0 [vR o, vI a0, none, none, none] [] σ Q) : ∃ r σ1, Ev (d + 1) m_X5_countFitting [vR o, vI a0] σ r σ1 ∧ Q r σ1 := Ev_of (Nat.le_of_ble_eq_true rfl) h
set_option maxRecDepth 100000 in
theorem s_X5_countFitting_0 {d : Nat} {l0 l1 l2 l3 l4 : AV} {st : List AV} {σ : Sg} {Q : AV → Sg → Prop}  : Rn d m_X5_countFitting 0 [l0, l1, l2, l3, l4] st σ Q ↔ Rn d m_X5_countFitting 1 [l0, l1, l2, l3, l4] (vI 0 :: st) σ Q := q0 (show fnd (pgm m_X5_countFitting) 0 = some (1, 0, 0, 0, 0, []) from rfl)
set_option maxRecDepth 100000 in
theorem s_X5_countFitting_1 {d : Nat} {l0 l1 l2 l3 l4 : AV} {st : List AV} {x : Int} {σ : Sg} {Q : AV → Sg → Prop}  : Rn d m_X5_countFitting 1 [l0, l1, l2, l3, l4] (vI x :: st) σ Q ↔ Rn d m_X5_countFitting 2 [l0, l1, vI x, l3, l4] st σ Q := q6 (show fnd (pgm m_X5_countFitting) 1 = some (2, 6, 0, 2, 0, []) from rfl) (by decide : 2 < 5)
set_option maxRecDepth 100000 in
theorem s_X5_countFitting_2 {d : Nat} {l0 l1 l2 l3 l4 : AV} {st : List AV} {σ : Sg} {Q : AV → Sg → Prop}  : Rn d m_X5_countFitting 2 [l0, l1, l2, l3, l4] st σ Q ↔ Rn d m_X5_countFitting 3 [l0, l1, l2, l3, l4] (vI 0 :: st) σ Q := q0 (show fnd (pgm m_X5_countFitting) 2 = some (3, 0, 0, 0, 0, []) from rfl)
set_option maxRecDepth 100000 in
theorem s_X5_countFitting_3 {d : Nat} {l0 l1 l2 l3 l4 : AV} {st : List AV} {x : Int} {σ : Sg} {Q : AV → Sg → Prop}  : Rn d m_X5_countFitting 3 [l0, l1, l2, l3, l4] (vI x :: st) σ Q ↔ Rn d m_X5_countFitting 4 [l0, l1, l2, vI x, l4] st σ Q := q6 (show fnd (pgm m_X5_countFitting) 3 = some (4, 6, 0, 3, 0, []) from rfl) (by decide : 3 < 5)
set_option maxRecDepth 100000 in
theorem s_X5_countFitting_4 {d : Nat} {l0 l1 l2 l4 : AV} {st : List AV} {x : Int} {σ : Sg} {Q : AV → Sg → Prop}  : Rn d m_X5_countFitting 4 [l0, l1, l2, vI x, l4] st σ Q ↔ Rn d m_X5_countFitting 5 [l0, l1, l2, vI x, l4] (vI x :: st) σ Q := q3 (show fnd (pgm m_X5_countFitting) 4 = some (5, 3, 0, 3, 0, []) from rfl) rfl
set_option maxRecDepth 100000 in
theorem s_X5_countFitting_5 {d : Nat} {l0 l1 l2 l3 l4 : AV} {st : List AV} {σ : Sg} {Q : AV → Sg → Prop}  : Rn d m_X5_countFitting 5 [l0, l1, l2, l3, l4] st σ Q ↔ Rn d m_X5_countFitting 7 [l0, l1, l2, l3, l4] (vI 100 :: st) σ Q := q0 (show fnd (pgm m_X5_countFitting) 5 = some (7, 0, 100, 1, 0, []) from rfl)
set_option maxRecDepth 100000 in
theorem s_X5_countFitting_7 {d : Nat} {l0 l1 l2 l3 l4 : AV} {st : List AV} {a b : Int} {σ : Sg} {Q : AV → Sg → Prop}  : Rn d m_X5_countFitting 7 [l0, l1, l2, l3, l4] (vI b :: vI a :: st) σ Q ↔ if w32 b ≤ w32 a then Rn d m_X5_countFitting 75 [l0, l1, l2, l3, l4] st σ Q else Rn d m_X5_countFitting 10 [l0, l1, l2, l3, l4] st σ Q := q20_3 (show fnd (pgm m_X5_countFitting) 7 = some (10, 20, 0, 3, 75, []) from rfl)
set_option maxRecDepth 100000 in
theorem s_X5_countFitting_10 {d : Nat} {l0 l1 l2 l3 l4 : AV} {st : List AV} {σ : Sg} {Q : AV → Sg → Prop}  : Rn d m_X5_countFitting 10 [l0, l1, l2, l3, l4] st σ Q ↔ Rn d m_X5_countFitting 11 [l0, l1, l2, l3, l4] (vI 0 :: st) σ Q := q0 (show fnd (pgm m_X5_countFitting) 10 = some (11, 0, 0, 0, 0, []) from rfl)
set_option maxRecDepth 100000 in
theorem s_X5_countFitting_11 {d : Nat} {l0 l1 l2 l3 l4 : AV} {st : List AV} {x : Int} {σ : Sg} {Q : AV → Sg → Prop}  : Rn d m_X5_countFitting 11 [l0, l1, l2, l3, l4] (vI x :: st) σ Q ↔ Rn d m_X5_countFitting 13 [l0, l1, l2, l3, vI x] st σ Q := q6 (show fnd (pgm m_X5_countFitting) 11 = some (13, 6, 0, 4, 1, []) from rfl) (by decide : 4 < 5)
set_option maxRecDepth 100000 in
theorem s_X5_countFitting_13 {d : Nat} {l0 l1 l2 l3 : AV} {st : List AV} {x : Int} {σ : Sg} {Q : AV → Sg → Prop}  : Rn d m_X5_countFitting 13 [l0, l1, l2, l3, vI x] st σ Q ↔ Rn d m_X5_countFitting 15 [l0, l1, l2, l3, vI x] (vI x :: st) σ Q := q3 (show fnd (pgm m_X5_countFitting) 13 = some (15, 3, 0, 4, 1, []) from rfl) rfl
set_option maxRecDepth 100000 in
theorem s_X5_countFitting_15 {d : Nat} {l0 l1 l2 l3 l4 : AV} {st : List AV} {σ : Sg} {Q : AV → Sg → Prop}  : Rn d m_X5_countFitting 15 [l0, l1, l2, l3, l4] st σ Q ↔ Rn d m_X5_countFitting 17 [l0, l1, l2, l3, l4] (vI 10 :: st) σ Q := q0 (show fnd (pgm m_X5_countFitting) 15 = some (17, 0, 10, 1, 0, []) from rfl)
set_option maxRecDepth 100000 in
theorem s_X5_countFitting_17 {d : Nat} {l0 l1 l2 l3 l4 : AV} {st : List AV} {a b : Int} {σ : Sg} {Q : AV → Sg → Prop}  : Rn d m_X5_countFitting 17 [l0, l1, l2, l3, l4] (vI b :: vI a :: st) σ Q ↔ if w32 b ≤ w32 a then Rn d m_X5_countFitting 69 [l0, l1, l2, l3, l4] st σ Q else Rn d m_X5_countFitting 20 [l0, l1, l2, l3, l4] st σ Q := q20_3 (show fnd (pgm m_X5_countFitting) 17 = some (20, 20, 0, 3, 69, []) from rfl)
set_option maxRecDepth 100000 in
theorem s_X5_countFitting_20 {d : Nat} {l1 l2 l3 l4 : AV} {st : List AV} {o : Nat} {σ : Sg} {Q : AV → Sg → Prop} (ho : o ≠ 0) : Rn d m_X5_countFitting 20 [vR o, l1, l2, l3, l4] st σ Q ↔ Rn d m_X5_countFitting 21 [vR o, l1, l2, l3, l4] (vR o :: st) σ Q := q5 (show fnd (pgm m_X5_countFitting) 20 = some (21, 5, 0, 0, 0, []) from rfl) rfl ho
set_option maxRecDepth 100000 in
theorem s_X5_countFitting_21 {d : Nat} {l0 l1 l2 l3 l4 : AV} {st : List AV} {o : Nat} {σ : Sg} {Q : AV → Sg → Prop} (hk : kn σ o = (0, 5)) : Rn d m_X5_countFitting 21 [l0, l1, l2, l3, l4] (vR o :: st) σ Q ↔ Rn d m_X5_countFitting 24 [l0, l1, l2, l3, l4] (vR (tp o 6) :: st) σ Q := q33 (show fnd (pgm m_X5_countFitting) 21 = some (24, 33, 41, 5, 6, []) from rfl) hk
set_option maxRecDepth 100000 in
theorem s_X5_countFitting_24 {d : Nat} {l0 l1 l2 l4 : AV} {st : List AV} {x : Int} {σ : Sg} {Q : AV → Sg → Prop}  : Rn d m_X5_countFitting 24 [l0, l1, l2, vI x, l4] st σ Q ↔ Rn d m_X5_countFitting 25 [l0, l1, l2, vI x, l4] (vI x :: st) σ Q := q3 (show fnd (pgm m_X5_countFitting) 24 = some (25, 3, 0, 3, 0, []) from rfl) rfl
set_option maxRecDepth 100000 in
theorem s_X5_countFitting_25 {d : Nat} {l0 l1 l2 l3 : AV} {st : List AV} {x : Int} {σ : Sg} {Q : AV → Sg → Prop}  : Rn d m_X5_countFitting 25 [l0, l1, l2, l3, vI x] st σ Q ↔ Rn d m_X5_countFitting 27 [l0, l1, l2, l3, vI x] (vI x :: st) σ Q := q3 (show fnd (pgm m_X5_countFitting) 25 = some (27, 3, 0, 4, 1, []) from rfl) rfl
set_option maxRecDepth 100000 in
theorem s_X5_countFitting_27 {d : Nat} {l0 l1 l2 l3 l4 : AV} {st : List AV} {a b : Int} {σ : Sg} {Q : AV → Sg → Prop}  : Rn d m_X5_countFitting 27 [l0, l1, l2, l3, l4] (vI b :: vI a :: st) σ Q ↔ Rn d m_X5_countFitting 28 [l0, l1, l2, l3, l4] (vI (a * b) :: st) σ Q := q10_2 (show fnd (pgm m_X5_countFitting) 27 = some (28, 10, 0, 2, 0, []) from rfl)
set_option maxRecDepth 100000 in
theorem s_X5_countFitting_28 {d : Nat} {l0 l1 l2 l3 l4 : AV} {st : List AV} {i : Int} {o : Nat} {σ : Sg} {Q : AV → Sg → Prop} (hi : 0 ≤ w32 i ∧ w32 i < al σ 3 o) : Rn d m_X5_countFitting 28 [l0, l1, l2, l3, l4] (vI i :: vR o :: st) σ Q ↔ Rn d m_X5_countFitting 29 [l0, l1, l2, l3, l4] (vI (σ o (w32 i)) :: st) σ Q := q27 (show fnd (pgm m_X5_countFitting) 28 = some (29, 27, 0, 0, 0, []) from rfl) hi
set_option maxRecDepth 100000 in
theorem s_X5_countFitting_29 {d : Nat} {l0 l1 l2 l3 l4 : AV} {st : List AV} {a : Int} {σ : Sg} {Q : AV → Sg → Prop}  : Rn d m_X5_countFitting 29 [l0, l1, l2, l3, l4] (vI a :: st) σ Q ↔ if ¬ w32 a = 0 then Rn d m_X5_countFitting 35 [l0, l1, l2, l3, l4] st σ Q else Rn d m_X5_countFitting 32 [l0, l1, l2, l3, l4] st σ Q := q19_1 (show fnd (pgm m_X5_countFitting) 29 = some (32, 19, 0, 1, 35, []) from rfl)
set_option maxRecDepth 100000 in
theorem s_X5_countFitting_32 {d : Nat} {l0 l1 l2 l3 l4 : AV} {st : List AV} {σ : Sg} {Q : AV → Sg → Prop}  : Rn d m_X5_countFitting 32 [l0, l1, l2, l3, l4] st σ Q ↔ Rn d m_X5_countFitting 63 [l0, l1, l2, l3, l4] st σ Q := q21 (show fnd (pgm m_X5_countFitting) 32 = some (35, 21, 0, 0, 63, []) from rfl)
set_option maxRecDepth 100000 in
theorem s_X5_countFitting_35 {d : Nat} {l0 l1 l3 l4 : AV} {st : List AV} {x : Int} {σ : Sg} {Q : AV → Sg → Prop}  : Rn d m_X5_countFitting 35 [l0, l1, vI x, l3, l4] st σ Q ↔ Rn d m_X5_countFitting 38 [l0, l1, vI (x + 1), l3, l4] st σ Q := q9 (show fnd (pgm m_X5_countFitting) 35 = some (38, 9, 1, 2, 0, []) from rfl) rfl
set_option maxRecDepth 100000 in
theorem s_X5_countFitting_38 {d : Nat} {l1 l2 l3 l4 : AV} {st : List AV} {o : Nat} {σ : Sg} {Q : AV → Sg → Prop} (ho : o ≠ 0) : Rn d m_X5_countFitting 38 [vR o, l1, l2, l3, l4] st σ Q ↔ Rn d m_X5_countFitting 39 [vR o, l1, l2, l3, l4] (vR o :: st) σ Q := q5 (show fnd (pgm m_X5_countFitting) 38 = some (39, 5, 0, 0, 0, []) from rfl) rfl ho
set_option maxRecDepth 100000 in
theorem s_X5_countFitting_39 {d : Nat} {l0 l1 l2 l3 l4 : AV} {st : List AV} {o : Nat} {σ : Sg} {Q : AV → Sg → Prop} (hk : kn σ o = (0, 5)) : Rn d m_X5_countFitting 39 [l0, l1, l2, l3, l4] (vR o :: st) σ Q ↔ Rn d m_X5_countFitting 42 [l0, l1, l2, l3, l4] (vI (σ o 8) :: st) σ Q := q33 (show fnd (pgm m_X5_countFitting) 39 = some (42, 33, 48, 5, 8, []) from rfl) hk
set_option maxRecDepth 100000 in
theorem s_X5_countFitting_42 {d : Nat} {l0 l1 l2 l3 l4 : AV} {st : List AV} {σ : Sg} {Q : AV → Sg → Prop}  : Rn d m_X5_countFitting 42 [l0, l1, l2, l3, l4] st σ Q ↔ Rn d m_X5_countFitting 43 [l0, l1, l2, l3, l4] (vI (-1) :: st) σ Q := q0 (show fnd (pgm m_X5_countFitting) 42 = some (43, 0, (-1), 0, 0, []) from rfl)
set_option maxRecDepth 100000 in
theorem s_X5_countFitting_43 {d : Nat} {l0 l1 l2 l3 l4 : AV} {st : List AV} {a b : Int} {σ : Sg} {Q : AV → Sg → Prop}  : Rn d m_X5_countFitting 43 [l0, l1, l2, l3, l4] (vI b :: vI a :: st) σ Q ↔ if ¬ w32 a = w32 b then Rn d m_X5_countFitting 63 [l0, l1, l2, l3, l4] st σ Q else Rn d m_X5_countFitting 46 [l0, l1, l2, l3, l4] st σ Q := q20_1 (show fnd (pgm m_X5_countFitting) 43 = some (46, 20, 0, 1, 63, []) from rfl)
set_option maxRecDepth 100000 in
theorem s_X5_countFitting_46 {d : Nat} {l1 l2 l3 l4 : AV} {st : List AV} {o : Nat} {σ : Sg} {Q : AV → Sg → Prop} (ho : o ≠ 0) : Rn d m_X5_countFitting 46 [vR o, l1, l2, l3, l4] st σ Q ↔ Rn d m_X5_countFitting 47 [vR o, l1, l2, l3, l4] (vR o :: st) σ Q := q5 (show fnd (pgm m_X5_countFitting) 46 = some (47, 5, 0, 0, 0, []) from rfl) rfl ho
set_option maxRecDepth 100000 in
theorem s_X5_countFitting_47 {d : Nat} {l0 l1 l2 l3 l4 : AV} {st : List AV} {σ : Sg} {Q : AV → Sg → Prop}  : Rn d m_X5_countFitting 47 [l0, l1, l2, l3, l4] st σ Q ↔ Rn d m_X5_countFitting 50 [l0, l1, l2, l3, l4] (vI 1000 :: st) σ Q := q0 (show fnd (pgm m_X5_countFitting) 47 = some (50, 0, 1000, 2, 0, []) from rfl)
set_option maxRecDepth 100000 in
theorem s_X5_countFitting_50 {d : Nat} {l0 l2 l3 l4 : AV} {st : List AV} {x : Int} {σ : Sg} {Q : AV → Sg → Prop}  : Rn d m_X5_countFitting 50 [l0, vI x, l2, l3, l4] st σ Q ↔ Rn d m_X5_countFitting 51 [l0, vI x, l2, l3, l4] (vI x :: st) σ Q := q3 (show fnd (pgm m_X5_countFitting) 50 = some (51, 3, 0, 1, 0, []) from rfl) rfl
set_option maxRecDepth 100000 in
theorem s_X5_countFitting_51 {d : Nat} {l0 l1 l2 l3 l4 : AV} {st : List AV} {a b : Int} {σ : Sg} {Q : AV → Sg → Prop}  : Rn d m_X5_countFitting 51 [l0, l1, l2, l3, l4] (vI b :: vI a :: st) σ Q ↔ Rn d m_X5_countFitting 52 [l0, l1, l2, l3, l4] (vI (a * b) :: st) σ Q := q10_2 (show fnd (pgm m_X5_countFitting) 51 = some (52, 10, 0, 2, 0, []) from rfl)
set_option maxRecDepth 100000 in
theorem s_X5_countFitting_52 {d : Nat} {l0 l1 l2 l3 l4 : AV} {st : List AV} {σ : Sg} {Q : AV → Sg → Prop}  : Rn d m_X5_countFitting 52 [l0, l1, l2, l3, l4] st σ Q ↔ Rn d m_X5_countFitting 54 [l0, l1, l2, l3, l4] (vI 10 :: st) σ Q := q0 (show fnd (pgm m_X5_countFitting) 52 = some (54, 0, 10, 1, 0, []) from rfl)
set_option maxRecDepth 100000 in
theorem s_X5_countFitting_54 {d : Nat} {l0 l1 l2 l4 : AV} {st : List AV} {x : Int} {σ : Sg} {Q : AV → Sg → Prop}  : Rn d m_X5_countFitting 54 [l0, l1, l2, vI x, l4] st σ Q ↔ Rn d m_X5_countFitting 55 [l0, l1, l2, vI x, l4] (vI x :: st) σ Q := q3 (show fnd (pgm m_X5_countFitting) 54 = some (55, 3, 0, 3, 0, []) from rfl) rfl
set_option maxRecDepth 100000 in
theorem s_X5_countFitting_55 {d : Nat} {l0 l1 l2 l3 l4 : AV} {st : List AV} {a b : Int} {σ : Sg} {Q : AV → Sg → Prop}  : Rn d m_X5_countFitting 55 [l0, l1, l2, l3, l4] (vI b :: vI a :: st) σ Q ↔ Rn d m_X5_countFitting 56 [l0, l1, l2, l3, l4] (vI (a * b) :: st) σ Q := q10_2 (show fnd (pgm m_X5_countFitting) 55 = some (56, 10, 0, 2, 0, []) from rfl)
set_option maxRecDepth 100000 in
theorem s_X5_countFitting_56 {d : Nat} {l0 l1 l2 l3 l4 : AV} {st : List AV} {a b : Int} {σ : Sg} {Q : AV → Sg → Prop}  : Rn d m_X5_countFitting 56 [l0, l1, l2, l3, l4] (vI b :: vI a :: st) σ Q ↔ Rn d m_X5_countFitting 57 [l0, l1, l2, l3, l4] (vI (a + b) :: st) σ Q := q10_0 (show fnd (pgm m_X5_countFitting) 56 = some (57, 10, 0, 0, 0, []) from rfl)
set_option maxRecDepth 100000 in
theorem s_X5_countFitting_57 {d : Nat} {l0 l1 l2 l3 : AV} {st : List AV} {x : Int} {σ : Sg} {Q : AV → Sg → Prop}  : Rn d m_X5_countFitting 57 [l0, l1, l2, l3, vI x] st σ Q ↔ Rn d m_X5_countFitting 59 [l0, l1, l2, l3, vI x] (vI x :: st) σ Q := q3 (show fnd (pgm m_X5_countFitting) 57 = some (59, 3, 0, 4, 1, []) from rfl) rfl
set_option maxRecDepth 100000 in
theorem s_X5_countFitting_59 {d : Nat} {l0 l1 l2 l3 l4 : AV} {st : List AV} {a b : Int} {σ : Sg} {Q : AV → Sg → Prop}  : Rn d m_X5_countFitting 59 [l0, l1, l2, l3, l4] (vI b :: vI a :: st) σ Q ↔ Rn d m_X5_countFitting 60 [l0, l1, l2, l3, l4] (vI (a + b) :: st) σ Q := q10_0 (show fnd (pgm m_X5_countFitting) 59 = some (60, 10, 0, 0, 0, []) from rfl)
set_option maxRecDepth 100000 in
theorem s_X5_countFitting_60 {d : Nat} {l0 l1 l2 l3 l4 : AV} {st : List AV} {o : Nat} {x : Int} {σ : Sg} {Q : AV → Sg → Prop} (hk : kn σ o = (0, 5)) : Rn d m_X5_countFitting 60 [l0, l1, l2, l3, l4] (vI x :: vR o :: st) σ Q ↔ Rn d m_X5_countFitting 63 [l0, l1, l2, l3, l4] st (up σ o 8 x) Q := q34i (show fnd (pgm m_X5_countFitting) 60 = some (63, 34, 48, 5, 8, []) from rfl) hk rfl
set_option maxRecDepth 100000 in
theorem s_X5_countFitting_63 {d : Nat} {l0 l1 l2 l3 : AV} {st : List AV} {x : Int} {σ : Sg} {Q : AV → Sg → Prop}  : Rn d m_X5_countFitting 63 [l0, l1, l2, l3, vI x] st σ Q ↔ Rn d m_X5_countFitting 66 [l0, l1, l2, l3, vI (x + 1)] st σ Q := q9 (show fnd (pgm m_X5_countFitting) 63 = some (66, 9, 1, 4, 0, []) from rfl) rfl
set_option maxRecDepth 100000 in
theorem s_X5_countFitting_66 {d : Nat} {l0 l1 l2 l3 l4 : AV} {st : List AV} {σ : Sg} {Q : AV → Sg → Prop}  : Rn d m_X5_countFitting 66 [l0, l1, l2, l3, l4] st σ Q ↔ Rn d m_X5_countFitting 13 [l0, l1, l2, l3, l4] st σ Q := q21 (show fnd (pgm m_X5_countFitting) 66 = some (69, 21, 0, 0, 13, []) from rfl)
set_option maxRecDepth 100000 in
theorem s_X5_countFitting_69 {d : Nat} {l0 l1 l2 l4 : AV} {st : List AV} {x : Int} {σ : Sg} {Q : AV → Sg → Prop}  : Rn d m_X5_countFitting 69 [l0, l1, l2, vI x, l4] st σ Q ↔ Rn d m_X5_countFitting 72 [l0, l1, l2, vI (x + 1), l4] st σ Q := q9 (show fnd (pgm m_X5_countFitting) 69 = some (72, 9, 1, 3, 0, []) from rfl) rfl
set_option maxRecDepth 100000 in
theorem s_X5_countFitting_72 {d : Nat} {l0 l1 l2 l3 l4 : AV} {st : List AV} {σ : Sg} {Q : AV → Sg → Prop}  : Rn d m_X5_countFitting 72 [l0, l1, l2, l3, l4] st σ Q ↔ Rn d m_X5_countFitting 4 [l0, l1, l2, l3, l4] st σ Q := q21 (show fnd (pgm m_X5_countFitting) 72 = some (75, 21, 0, 0, 4, []) from rfl)
set_option maxRecDepth 100000 in
theorem s_X5_countFitting_75 {d : Nat} {l0 l1 l3 l4 : AV} {st : List AV} {x : Int} {σ : Sg} {Q : AV → Sg → Prop}  : Rn d m_X5_countFitting 75 [l0, l1, vI x, l3, l4] st σ Q ↔ Rn d m_X5_countFitting 76 [l0, l1, vI x, l3, l4] (vI x :: st) σ Q := q3 (show fnd (pgm m_X5_countFitting) 75 = some (76, 3, 0, 2, 0, []) from rfl) rfl
set_option maxRecDepth 100000 in
theorem s_X5_countFitting_76 {d : Nat} {l0 l1 l2 l3 l4 : AV} {x : Int} {σ : Sg} {Q : AV → Sg → Prop}  : Rn d m_X5_countFitting 76 [l0, l1, l2, l3, l4] [vI x] σ Q ↔ Q (vI x) σ := q37_1 (st := []) (show fnd (pgm m_X5_countFitting) 76 = some (77, 37, 0, 1, 0, []) from rfl)
set_option maxRecDepth 100000 in
theorem en_X5_settle {d : Nat} {o : Nat} {σ σ0 : Sg} {r0 : AV} (h : Rn d m_X5_settle 0 [vR o] [] σ (fun r σ1 => r = r0 ∧ σ1 = σ0)) : Ev (d + 1) m_X5_settle [vR o] σ r0 σ0 := Ev_is (Nat.le_of_ble_eq_true rfl) h
set_option maxRecDepth 100000 in
theorem eo_X5_settle {d : Nat} {o : Nat} {σ : Sg} {Q : AV → Sg → Prop} (h : Rn d m_X5_settle 0 [vR o] [] σ Q) : ∃ r σ1, Ev (d + 1) m_X5_settle [vR o] σ r σ1 ∧ Q r σ1 := Ev_of (Nat.le_of_ble_eq_true rfl) h
set_option maxRecDepth 100000 in
theorem s_X5_settle_0 {d : Nat} {st : List AV} {o : Nat} {σ : Sg} {Q : AV → Sg → Prop} (ho : o ≠ 0) : Rn d m_X5_settle 0 [vR o] st σ Q ↔ Rn d m_X5_settle 1 [vR o] (vR o :: st) σ Q := q5 (show fnd (pgm m_X5_settle) 0 = some (1, 5, 0, 0, 0, []) from rfl) rfl ho
set_option maxRecDepth 100000 in
theorem s_X5_settle_1 {d : Nat} {l0 : AV} {st : List AV} {o : Nat} {σ : Sg} {Q : AV → Sg → Prop} (hk : kn σ o = (0, 5)) : Rn d m_X5_settle 1 [l0] (vR o :: st) σ Q ↔ Rn d m_X5_settle 4 [l0] (vR (tp o 11) :: st) σ Q := q33 (show fnd (pgm m_X5_settle) 1 = some (4, 33, 62, 5, 11, []) from rfl) hk
set_option maxRecDepth 100000 in
theorem s_X5_settle_4 {d : Nat} {st : List AV} {o : Nat} {σ : Sg} {Q : AV → Sg → Prop} (ho : o ≠ 0) : Rn d m_X5_settle 4 [vR o] st σ Q ↔ Rn d m_X5_settle 5 [vR o] (vR o :: st) σ Q := q5 (show fnd (pgm m_X5_settle) 4 = some (5, 5, 0, 0, 0, []) from rfl) rfl ho
set_option maxRecDepth 100000 in
theorem s_X5_settle_5 {d : Nat} {l0 : AV} {st : List AV} {o : Nat} {σ : Sg} {Q : AV → Sg → Prop} (hk : kn σ o = (0, 5)) : Rn d m_X5_settle 5 [l0] (vR o :: st) σ Q ↔ Rn d m_X5_settle 8 [l0] (vR (tp o 0) :: st) σ Q := q33 (show fnd (pgm m_X5_settle) 5 = some (8, 33, 12, 5, 0, []) from rfl) hk
set_option maxRecDepth 100000 in
theorem s_X5_settle_8 {d : Nat} {st : List AV} {o : Nat} {σ : Sg} {Q : AV → Sg → Prop} (ho : o ≠ 0) : Rn d m_X5_settle 8 [vR o] st σ Q ↔ Rn d m_X5_settle 9 [vR o] (vR o :: st) σ Q := q5 (show fnd (pgm m_X5_settle) 8 = some (9, 5, 0, 0, 0, []) from rfl) rfl ho
set_option maxRecDepth 100000 in
theorem s_X5_settle_9 {d : Nat} {l0 : AV} {st : List AV} {o : Nat} {σ : Sg} {Q : AV → Sg → Prop} (hk : kn σ o = (0, 5)) : Rn d m_X5_settle 9 [l0] (vR o :: st) σ Q ↔ Rn d m_X5_settle 12 [l0] (vR (tp o 12) :: st) σ Q := q33 (show fnd (pgm m_X5_settle) 9 = some (12, 33, 69, 5, 12, []) from rfl) hk
set_option maxRecDepth 100000 in
theorem s_X5_settle_12 {d : Nat} {l0 : AV} {st : List AV} {o : Nat} {a0 : Nat} {a1 : Nat} {σ : Sg} {Q : AV → Sg → Prop} (h4 : st.length ≤ 4) (hk : kn σ o = (0, 3)) : Rn d m_X5_settle 12 [l0] (vR a1 :: vR a0 :: vR o :: st) σ Q ↔ ∃ r σ1, Ev d m_X3_read [vR o, vR a0, vR a1] σ r σ1 ∧ Rn d m_X5_settle 15 [l0] (psh r st) σ1 Q := q35 (show fnd (pgm m_X5_settle) 12 = some (15, 35, 231, 25, 3, []) from rfl) ⟨⟨by simp, by simpa using h4⟩, (by simp only [List.take, List.reverse, List.reverseAux, rcv]; rw [if_neg (by decide +kernel)]; exact decide_eq_true hk)⟩
set_option maxRecDepth 100000 in
theorem s_X5_settle_15 {d : Nat} {l0 : AV} {st : List AV} {σ : Sg} {Q : AV → Sg → Prop}  : Rn d m_X5_settle 15 [l0] st σ Q ↔ Rn d m_X5_settle 16 [l0] (vI (-1) :: st) σ Q := q0 (show fnd (pgm m_X5_settle) 15 = some (16, 0, (-1), 0, 0, []) from rfl)
set_option maxRecDepth 100000 in
theorem s_X5_settle_16 {d : Nat} {l0 : AV} {st : List AV} {a b : Int} {σ : Sg} {Q : AV → Sg → Prop}  : Rn d m_X5_settle 16 [l0] (vI b :: vI a :: st) σ Q ↔ if w32 a = w32 b then Rn d m_X5_settle 21 [l0] st σ Q else Rn d m_X5_settle 19 [l0] st σ Q := q20_0 (show fnd (pgm m_X5_settle) 16 = some (19, 20, 0, 0, 21, []) from rfl)
set_option maxRecDepth 100000 in
theorem s_X5_settle_19 {d : Nat} {l0 : AV} {st : List AV} {σ : Sg} {Q : AV → Sg → Prop}  : Rn d m_X5_settle 19 [l0] st σ Q ↔ Rn d m_X5_settle 20 [l0] (vI 0 :: st) σ Q := q0 (show fnd (pgm m_X5_settle) 19 = some (20, 0, 0, 0, 0, []) from rfl)
set_option maxRecDepth 100000 in
theorem s_X5_settle_20 {d : Nat} {l0 : AV} {x : Int} {σ : Sg} {Q : AV → Sg → Prop} (hx : x = 0 ∨ x = 1) : Rn d m_X5_settle 20 [l0] [vI x] σ Q ↔ Q (vI x) σ := q37_2 (st := []) (show fnd (pgm m_X5_settle) 20 = some (21, 37, 0, 2, 0, []) from rfl) hx
set_option maxRecDepth 100000 in
theorem s_X5_settle_21 {d : Nat} {st : List AV} {o : Nat} {σ : Sg} {Q : AV → Sg → Prop} (ho : o ≠ 0) : Rn d m_X5_settle 21 [vR o] st σ Q ↔ Rn d m_X5_settle 22 [vR o] (vR o :: st) σ Q := q5 (show fnd (pgm m_X5_settle) 21 = some (22, 5, 0, 0, 0, []) from rfl) rfl ho
set_option maxRecDepth 100000 in
theorem s_X5_settle_22 {d : Nat} {st : List AV} {o : Nat} {σ : Sg} {Q : AV → Sg → Prop} (ho : o ≠ 0) : Rn d m_X5_settle 22 [vR o] st σ Q ↔ Rn d m_X5_settle 23 [vR o] (vR o :: st) σ Q := q5 (show fnd (pgm m_X5_settle) 22 = some (23, 5, 0, 0, 0, []) from rfl) rfl ho
set_option maxRecDepth 100000 in
theorem s_X5_settle_23 {d : Nat} {l0 : AV} {st : List AV} {o : Nat} {σ : Sg} {Q : AV → Sg → Prop} (hk : kn σ o = (0, 5)) : Rn d m_X5_settle 23 [l0] (vR o :: st) σ Q ↔ Rn d m_X5_settle 26 [l0] (vR (tp o 0) :: st) σ Q := q33 (show fnd (pgm m_X5_settle) 23 = some (26, 33, 12, 5, 0, []) from rfl) hk
set_option maxRecDepth 100000 in
theorem s_X5_settle_26 {d : Nat} {l0 : AV} {st : List AV} {o : Nat} {σ : Sg} {Q : AV → Sg → Prop} (hk : kn σ o = (0, 0)) : Rn d m_X5_settle 26 [l0] (vR o :: st) σ Q ↔ Rn d m_X5_settle 29 [l0] (vI (σ o 10) :: st) σ Q := q33 (show fnd (pgm m_X5_settle) 26 = some (29, 33, 166, 0, 10, []) from rfl) hk
set_option maxRecDepth 100000 in
theorem s_X5_settle_29 {d : Nat} {l0 : AV} {st : List AV} {o : Nat} {a0 : Int} {σ : Sg} {Q : AV → Sg → Prop} (h4 : st.length ≤ 4) (hk : kn σ o = (0, 5)) : Rn d m_X5_settle 29 [l0] (vI a0 :: vR o :: st) σ Q ↔ ∃ r σ1, Ev d m_X5_walkAll [vR o, vI a0] σ r σ1 ∧ Rn d m_X5_settle 32 [l0] (psh r st) σ1 Q := q35 (show fnd (pgm m_X5_settle) 29 = some (32, 35, 138, 93, 2, []) from rfl) ⟨⟨by simp, by simpa using h4⟩, (by simp only [List.take, List.reverse, List.reverseAux, rcv]; rw [if_neg (by decide +kernel)]; exact decide_eq_true hk)⟩
set_option maxRecDepth 100000 in
theorem s_X5_settle_32 {d : Nat} {st : List AV} {o : Nat} {σ : Sg} {Q : AV → Sg → Prop} (ho : o ≠ 0) : Rn d m_X5_settle 32 [vR o] st σ Q ↔ Rn d m_X5_settle 33 [vR o] (vR o :: st) σ Q := q5 (show fnd (pgm m_X5_settle) 32 = some (33, 5, 0, 0, 0, []) from rfl) rfl ho
set_option maxRecDepth 100000 in
theorem s_X5_settle_33 {d : Nat} {l0 : AV} {st : List AV} {o : Nat} {σ : Sg} {Q : AV → Sg → Prop} (hk : kn σ o = (0, 5)) : Rn d m_X5_settle 33 [l0] (vR o :: st) σ Q ↔ Rn d m_X5_settle 36 [l0] (vR (tp o 12) :: st) σ Q := q33 (show fnd (pgm m_X5_settle) 33 = some (36, 33, 69, 5, 12, []) from rfl) hk
set_option maxRecDepth 100000 in
theorem s_X5_settle_36 {d : Nat} {st : List AV} {o : Nat} {σ : Sg} {Q : AV → Sg → Prop} (ho : o ≠ 0) : Rn d m_X5_settle 36 [vR o] st σ Q ↔ Rn d m_X5_settle 37 [vR o] (vR o :: st) σ Q := q5 (show fnd (pgm m_X5_settle) 36 = some (37, 5, 0, 0, 0, []) from rfl) rfl ho
set_option maxRecDepth 100000 in
theorem s_X5_settle_37 {d : Nat} {l0 : AV} {st : List AV} {o : Nat} {σ : Sg} {Q : AV → Sg → Prop} (hk : kn σ o = (0, 5)) : Rn d m_X5_settle 37 [l0] (vR o :: st) σ Q ↔ Rn d m_X5_settle 40 [l0] (vR (tp o 0) :: st) σ Q := q33 (show fnd (pgm m_X5_settle) 37 = some (40, 33, 12, 5, 0, []) from rfl) hk
set_option maxRecDepth 100000 in
theorem s_X5_settle_40 {d : Nat} {l0 : AV} {st : List AV} {o : Nat} {σ : Sg} {Q : AV → Sg → Prop} (hk : kn σ o = (0, 0)) : Rn d m_X5_settle 40 [l0] (vR o :: st) σ Q ↔ Rn d m_X5_settle 43 [l0] (vI (σ o 10) :: st) σ Q := q33 (show fnd (pgm m_X5_settle) 40 = some (43, 33, 166, 0, 10, []) from rfl) hk
set_option maxRecDepth 100000 in
theorem s_X5_settle_43 {d : Nat} {st : List AV} {o : Nat} {σ : Sg} {Q : AV → Sg → Prop} (ho : o ≠ 0) : Rn d m_X5_settle 43 [vR o] st σ Q ↔ Rn d m_X5_settle 44 [vR o] (vR o :: st) σ Q := q5 (show fnd (pgm m_X5_settle) 43 = some (44, 5, 0, 0, 0, []) from rfl) rfl ho
set_option maxRecDepth 100000 in
theorem s_X5_settle_44 {d : Nat} {l0 : AV} {st : List AV} {o : Nat} {σ : Sg} {Q : AV → Sg → Prop} (hk : kn σ o = (0, 5)) : Rn d m_X5_settle 44 [l0] (vR o :: st) σ Q ↔ Rn d m_X5_settle 47 [l0] (vR (tp o 0) :: st) σ Q := q33 (show fnd (pgm m_X5_settle) 44 = some (47, 33, 12, 5, 0, []) from rfl) hk
set_option maxRecDepth 100000 in
theorem s_X5_settle_47 {d : Nat} {st : List AV} {o : Nat} {σ : Sg} {Q : AV → Sg → Prop} (ho : o ≠ 0) : Rn d m_X5_settle 47 [vR o] st σ Q ↔ Rn d m_X5_settle 48 [vR o] (vR o :: st) σ Q := q5 (show fnd (pgm m_X5_settle) 47 = some (48, 5, 0, 0, 0, []) from rfl) rfl ho
set_option maxRecDepth 100000 in
theorem s_X5_settle_48 {d : Nat} {l0 : AV} {st : List AV} {o : Nat} {σ : Sg} {Q : AV → Sg → Prop} (hk : kn σ o = (0, 5)) : Rn d m_X5_settle 48 [l0] (vR o :: st) σ Q ↔ Rn d m_X5_settle 51 [l0] (vR (tp o 3) :: st) σ Q := q33 (show fnd (pgm m_X5_settle) 48 = some (51, 33, 27, 5, 3, []) from rfl) hk
set_option maxRecDepth 100000 in
theorem s_X5_settle_51 {d : Nat} {l0 : AV} {st : List AV} {o : Nat} {σ : Sg} {Q : AV → Sg → Prop} (hk : kn σ o = (0, 4)) : Rn d m_X5_settle 51 [l0] (vR o :: st) σ Q ↔ Rn d m_X5_settle 54 [l0] (vR (tp o 0) :: st) σ Q := q33 (show fnd (pgm m_X5_settle) 51 = some (54, 33, 141, 4, 0, []) from rfl) hk
set_option maxRecDepth 100000 in
theorem s_X5_settle_54 {d : Nat} {l0 : AV} {st : List AV} {o : Nat} {a0 : Nat} {σ : Sg} {Q : AV → Sg → Prop} (h4 : st.length ≤ 4) (hk : kn σ o = (0, 0)) : Rn d m_X5_settle 54 [l0] (vR a0 :: vR o :: st) σ Q ↔ ∃ r σ1, Ev d m_X0_foundElsewhere [vR o, vR a0] σ r σ1 ∧ Rn d m_X5_settle 57 [l0] (psh r st) σ1 Q := q35 (show fnd (pgm m_X5_settle) 54 = some (57, 35, 169, 6, 2, []) from rfl) ⟨⟨by simp, by simpa using h4⟩, (by simp only [List.take, List.reverse, List.reverseAux, rcv]; rw [if_neg (by decide +kernel)]; exact decide_eq_true hk)⟩
set_option maxRecDepth 100000 in
theorem s_X5_settle_57 {d : Nat} {st : List AV} {o : Nat} {σ : Sg} {Q : AV → Sg → Prop} (ho : o ≠ 0) : Rn d m_X5_settle 57 [vR o] st σ Q ↔ Rn d m_X5_settle 58 [vR o] (vR o :: st) σ Q := q5 (show fnd (pgm m_X5_settle) 57 = some (58, 5, 0, 0, 0, []) from rfl) rfl ho
set_option maxRecDepth 100000 in
theorem s_X5_settle_58 {d : Nat} {l0 : AV} {st : List AV} {o : Nat} {σ : Sg} {Q : AV → Sg → Prop} (hk : kn σ o = (0, 5)) : Rn d m_X5_settle 58 [l0] (vR o :: st) σ Q ↔ Rn d m_X5_settle 61 [l0] (vR (tp o 3) :: st) σ Q := q33 (show fnd (pgm m_X5_settle) 58 = some (61, 33, 27, 5, 3, []) from rfl) hk
set_option maxRecDepth 100000 in
theorem s_X5_settle_61 {d : Nat} {l0 : AV} {st : List AV} {o : Nat} {σ : Sg} {Q : AV → Sg → Prop} (hk : kn σ o = (0, 4)) : Rn d m_X5_settle 61 [l0] (vR o :: st) σ Q ↔ Rn d m_X5_settle 64 [l0] (vR (tp o 1) :: st) σ Q := q33 (show fnd (pgm m_X5_settle) 61 = some (64, 33, 144, 4, 1, []) from rfl) hk
set_option maxRecDepth 100000 in
theorem s_X5_settle_64 {d : Nat} {l0 : AV} {st : List AV} {o : Nat} {a0 : Int} {a1 : Int} {a2 : Nat} {σ : Sg} {Q : AV → Sg → Prop} (h4 : st.length ≤ 4) (hk : kn σ o = (0, 1)) : Rn d m_X5_settle 64 [l0] (vR a2 :: vI a1 :: vI a0 :: vR o :: st) σ Q ↔ ∃ r σ1, Ev d m_X1_judge [vR o, vI a0, vI a1, vR a2] σ r σ1 ∧ Rn d m_X5_settle 67 [l0] (psh r st) σ1 Q := q35 (show fnd (pgm m_X5_settle) 64 = some (67, 35, 300, 15, 4, []) from rfl) ⟨⟨by simp, by simpa using h4⟩, (by simp only [List.take, List.reverse, List.reverseAux, rcv]; rw [if_neg (by decide +kernel)]; exact decide_eq_true hk)⟩
set_option maxRecDepth 100000 in
theorem s_X5_settle_67 {d : Nat} {l0 : AV} {st : List AV} {σ : Sg} {Q : AV → Sg → Prop}  : Rn d m_X5_settle 67 [l0] st σ Q ↔ Rn d m_X5_settle 68 [l0] (vI 1 :: st) σ Q := q0 (show fnd (pgm m_X5_settle) 67 = some (68, 0, 1, 0, 0, []) from rfl)
set_option maxRecDepth 100000 in
theorem s_X5_settle_68 {d : Nat} {l0 : AV} {x : Int} {σ : Sg} {Q : AV → Sg → Prop} (hx : x = 0 ∨ x = 1) : Rn d m_X5_settle 68 [l0] [vI x] σ Q ↔ Q (vI x) σ := q37_2 (st := []) (show fnd (pgm m_X5_settle) 68 = some (69, 37, 0, 2, 0, []) from rfl) hx
set_option maxRecDepth 100000 in
theorem en_X5_setFraction {d : Nat} {o : Nat} {a0 : Int} {a1 : Int} {σ σ0 : Sg} {r0 : AV} (h : Rn d m_X5_setFraction 0 [vR o, vL a0, none, vL a1, none, none, none] [] σ (fun r σ1 => r = r0 ∧ σ1 = σ0)) : Ev (d + 1) m_X5_setFraction [vR o, vL a0, vL a1] σ r0 σ0 := Ev_is (Nat.le_of_ble_eq_true rfl) h
set_option maxRecDepth 100000 in
theorem eo_X5_setFraction {d : Nat} {o : Nat} {a0 : Int} {a1 : Int} {σ : Sg} {Q : AV → Sg → Prop} (h : Rn d m_X5_setFraction 0 [vR o, vL a0, none, vL a1, none, none, none] [] σ Q) : ∃ r σ1, Ev (d + 1) m_X5_setFraction [vR o, vL a0, vL a1] σ r σ1 ∧ Q r σ1 := Ev_of (Nat.le_of_ble_eq_true rfl) h
set_option maxRecDepth 100000 in
theorem s_X5_setFraction_0 {d : Nat} {l0 l3 l4 l5 l6 : AV} {st : List AV} {x : Int} {σ : Sg} {Q : AV → Sg → Prop}  : Rn d m_X5_setFraction 0 [l0, vL x, none, l3, l4, l5, l6] st σ Q ↔ Rn d m_X5_setFraction 1 [l0, vL x, none, l3, l4, l5, l6] (vL x :: st) σ Q := q4 (show fnd (pgm m_X5_setFraction) 0 = some (1, 4, 0, 1, 0, []) from rfl) rfl rfl
set_option maxRecDepth 100000 in
theorem s_X5_setFraction_1 {d : Nat} {l0 l1 l2 l5 l6 : AV} {st : List AV} {x : Int} {σ : Sg} {Q : AV → Sg → Prop}  : Rn d m_X5_setFraction 1 [l0, l1, l2, vL x, none, l5, l6] st σ Q ↔ Rn d m_X5_setFraction 2 [l0, l1, l2, vL x, none, l5, l6] (vL x :: st) σ Q := q4 (show fnd (pgm m_X5_setFraction) 1 = some (2, 4, 0, 3, 0, []) from rfl) rfl rfl
set_option maxRecDepth 100000 in
theorem s_X5_setFraction_2 {d : Nat} {l0 l1 l2 l3 l4 l5 l6 : AV} {st : List AV}  {a0 : Int} {a1 : Int} {σ : Sg} {Q : AV → Sg → Prop} (h4 : st.length ≤ 4) : Rn d m_X5_setFraction 2 [l0, l1, l2, l3, l4, l5, l6] (vL a1 :: vL a0 :: st) σ Q ↔ ∃ r σ1, Ev d m_X5_commonDivisor [vL a0, vL a1] σ r σ1 ∧ Rn d m_X5_setFraction 5 [l0, l1, l2, l3, l4, l5, l6] (psh r st) σ1 Q := q35 (show fnd (pgm m_X5_setFraction) 2 = some (5, 35, 304, 102, 2, []) from rfl) ⟨⟨by simp, by simpa using h4⟩, rfl⟩
set_option maxRecDepth 100000 in
theorem s_X5_setFraction_5 {d : Nat} {l0 l1 l2 l3 l4 l5 l6 : AV} {st : List AV} {x : Int} {σ : Sg} {Q : AV → Sg → Prop}  : Rn d m_X5_setFraction 5 [l0, l1, l2, l3, l4, l5, l6] (vL x :: st) σ Q ↔ Rn d m_X5_setFraction 7 [l0, l1, l2, l3, l4, vL x, none] st σ Q := q7 (show fnd (pgm m_X5_setFraction) 5 = some (7, 7, 0, 5, 1, []) from rfl) (by decide : 6 < 7)
set_option maxRecDepth 100000 in
theorem s_X5_setFraction_7 {d : Nat} {l0 l1 l2 l3 l4 : AV} {st : List AV} {x : Int} {σ : Sg} {Q : AV → Sg → Prop}  : Rn d m_X5_setFraction 7 [l0, l1, l2, l3, l4, vL x, none] st σ Q ↔ Rn d m_X5_setFraction 9 [l0, l1, l2, l3, l4, vL x, none] (vL x :: st) σ Q := q4 (show fnd (pgm m_X5_setFraction) 7 = some (9, 4, 0, 5, 1, []) from rfl) rfl rfl
set_option maxRecDepth 100000 in
theorem s_X5_setFraction_9 {d : Nat} {l0 l1 l2 l3 l4 l5 l6 : AV} {st : List AV} {σ : Sg} {Q : AV → Sg → Prop}  : Rn d m_X5_setFraction 9 [l0, l1, l2, l3, l4, l5, l6] st σ Q ↔ Rn d m_X5_setFraction 10 [l0, l1, l2, l3, l4, l5, l6] (vL 0 :: st) σ Q := q1 (show fnd (pgm m_X5_setFraction) 9 = some (10, 1, 0, 0, 0, []) from rfl)
set_option maxRecDepth 100000 in
theorem s_X5_setFraction_10 {d : Nat} {l0 l1 l2 l3 l4 l5 l6 : AV} {st : List AV} {a b : Int} {σ : Sg} {Q : AV → Sg → Prop}  : Rn d m_X5_setFraction 10 [l0, l1, l2, l3, l4, l5, l6] (vL b :: vL a :: st) σ Q ↔ Rn d m_X5_setFraction 11 [l0, l1, l2, l3, l4, l5, l6] (vI (cmpL a b) :: st) σ Q := q16 (show fnd (pgm m_X5_setFraction) 10 = some (11, 16, 0, 0, 0, []) from rfl)
set_option maxRecDepth 100000 in
theorem s_X5_setFraction_11 {d : Nat} {l0 l1 l2 l3 l4 l5 l6 : AV} {st : List AV} {a : Int} {σ : Sg} {Q : AV → Sg → Prop}  : Rn d m_X5_setFraction 11 [l0, l1, l2, l3, l4, l5, l6] (vI a :: st) σ Q ↔ if ¬ w32 a = 0 then Rn d m_X5_setFraction 15 [l0, l1, l2, l3, l4, l5, l6] st σ Q else Rn d m_X5_setFraction 14 [l0, l1, l2, l3, l4, l5, l6] st σ Q := q19_1 (show fnd (pgm m_X5_setFraction) 11 = some (14, 19, 0, 1, 15, []) from rfl)
set_option maxRecDepth 100000 in
theorem s_X5_setFraction_14 {d : Nat} {l0 l1 l2 l3 l4 l5 l6 : AV} {σ : Sg} {Q : AV → Sg → Prop}  : Rn d m_X5_setFraction 14 [l0, l1, l2, l3, l4, l5, l6] [] σ Q ↔ Q none σ := q37_0 (st := []) (show fnd (pgm m_X5_setFraction) 14 = some (15, 37, 0, 0, 0, []) from rfl)
set_option maxRecDepth 100000 in
theorem s_X5_setFraction_15 {d : Nat} {l1 l2 l3 l4 l5 l6 : AV} {st : List AV} {o : Nat} {σ : Sg} {Q : AV → Sg → Prop} (ho : o ≠ 0) : Rn d m_X5_setFraction 15 [vR o, l1, l2, l3, l4, l5, l6] st σ Q ↔ Rn d m_X5_setFraction 16 [vR o, l1, l2, l3, l4, l5, l6] (vR o :: st) σ Q := q5 (show fnd (pgm m_X5_setFraction) 15 = some (16, 5, 0, 0, 0, []) from rfl) rfl ho
set_option maxRecDepth 100000 in
theorem s_X5_setFraction_16 {d : Nat} {l0 l3 l4 l5 l6 : AV} {st : List AV} {x : Int} {σ : Sg} {Q : AV → Sg → Prop}  : Rn d m_X5_setFraction 16 [l0, vL x, none, l3, l4, l5, l6] st σ Q ↔ Rn d m_X5_setFraction 17 [l0, vL x, none, l3, l4, l5, l6] (vL x :: st) σ Q := q4 (show fnd (pgm m_X5_setFraction) 16 = some (17, 4, 0, 1, 0, []) from rfl) rfl rfl
set_option maxRecDepth 100000 in
theorem s_X5_setFraction_17 {d : Nat} {l0 l1 l2 l3 l4 : AV} {st : List AV} {x : Int} {σ : Sg} {Q : AV → Sg → Prop}  : Rn d m_X5_setFraction 17 [l0, l1, l2, l3, l4, vL x, none] st σ Q ↔ Rn d m_X5_setFraction 19 [l0, l1, l2, l3, l4, vL x, none] (vL x :: st) σ Q := q4 (show fnd (pgm m_X5_setFraction) 17 = some (19, 4, 0, 5, 1, []) from rfl) rfl rfl
set_option maxRecDepth 100000 in
theorem s_X5_setFraction_19 {d : Nat} {l0 l1 l2 l3 l4 l5 l6 : AV} {st : List AV} {a b : Int} {σ : Sg} {Q : AV → Sg → Prop} (h0 : w64 b ≠ 0) : Rn d m_X5_setFraction 19 [l0, l1, l2, l3, l4, l5, l6] (vL b :: vL a :: st) σ Q ↔ Rn d m_X5_setFraction 20 [l0, l1, l2, l3, l4, l5, l6] (vL (div64 a b) :: st) σ Q := q11_3 (show fnd (pgm m_X5_setFraction) 19 = some (20, 11, 0, 3, 0, []) from rfl) h0
set_option maxRecDepth 100000 in
theorem s_X5_setFraction_20 {d : Nat} {l0 l1 l2 l3 l4 l5 l6 : AV} {st : List AV} {o : Nat} {x : Int} {σ : Sg} {Q : AV → Sg → Prop} (hk : kn σ o = (0, 5)) : Rn d m_X5_setFraction 20 [l0, l1, l2, l3, l4, l5, l6] (vL x :: vR o :: st) σ Q ↔ Rn d m_X5_setFraction 23 [l0, l1, l2, l3, l4, l5, l6] st (up σ o 13 x) Q := q34l (show fnd (pgm m_X5_setFraction) 20 = some (23, 34, 73, 5, 13, []) from rfl) hk rfl
set_option maxRecDepth 100000 in
theorem s_X5_setFraction_23 {d : Nat} {l1 l2 l3 l4 l5 l6 : AV} {st : List AV} {o : Nat} {σ : Sg} {Q : AV → Sg → Prop} (ho : o ≠ 0) : Rn d m_X5_setFraction 23 [vR o, l1, l2, l3, l4, l5, l6] st σ Q ↔ Rn d m_X5_setFraction 24 [vR o, l1, l2, l3, l4, l5, l6] (vR o :: st) σ Q := q5 (show fnd (pgm m_X5_setFraction) 23 = some (24, 5, 0, 0, 0, []) from rfl) rfl ho
set_option maxRecDepth 100000 in
theorem s_X5_setFraction_24 {d : Nat} {l0 l1 l2 l5 l6 : AV} {st : List AV} {x : Int} {σ : Sg} {Q : AV → Sg → Prop}  : Rn d m_X5_setFraction 24 [l0, l1, l2, vL x, none, l5, l6] st σ Q ↔ Rn d m_X5_setFraction 25 [l0, l1, l2, vL x, none, l5, l6] (vL x :: st) σ Q := q4 (show fnd (pgm m_X5_setFraction) 24 = some (25, 4, 0, 3, 0, []) from rfl) rfl rfl
set_option maxRecDepth 100000 in
theorem s_X5_setFraction_25 {d : Nat} {l0 l1 l2 l3 l4 : AV} {st : List AV} {x : Int} {σ : Sg} {Q : AV → Sg → Prop}  : Rn d m_X5_setFraction 25 [l0, l1, l2, l3, l4, vL x, none] st σ Q ↔ Rn d m_X5_setFraction 27 [l0, l1, l2, l3, l4, vL x, none] (vL x :: st) σ Q := q4 (show fnd (pgm m_X5_setFraction) 25 = some (27, 4, 0, 5, 1, []) from rfl) rfl rfl
set_option maxRecDepth 100000 in
theorem s_X5_setFraction_27 {d : Nat} {l0 l1 l2 l3 l4 l5 l6 : AV} {st : List AV} {a b : Int} {σ : Sg} {Q : AV → Sg → Prop} (h0 : w64 b ≠ 0) : Rn d m_X5_setFraction 27 [l0, l1, l2, l3, l4, l5, l6] (vL b :: vL a :: st) σ Q ↔ Rn d m_X5_setFraction 28 [l0, l1, l2, l3, l4, l5, l6] (vL (div64 a b) :: st) σ Q := q11_3 (show fnd (pgm m_X5_setFraction) 27 = some (28, 11, 0, 3, 0, []) from rfl) h0
set_option maxRecDepth 100000 in
theorem s_X5_setFraction_28 {d : Nat} {l0 l1 l2 l3 l4 l5 l6 : AV} {st : List AV} {o : Nat} {x : Int} {σ : Sg} {Q : AV → Sg → Prop} (hk : kn σ o = (0, 5)) : Rn d m_X5_setFraction 28 [l0, l1, l2, l3, l4, l5, l6] (vL x :: vR o :: st) σ Q ↔ Rn d m_X5_setFraction 31 [l0, l1, l2, l3, l4, l5, l6] st (up σ o 14 x) Q := q34l (show fnd (pgm m_X5_setFraction) 28 = some (31, 34, 77, 5, 14, []) from rfl) hk rfl
set_option maxRecDepth 100000 in
theorem s_X5_setFraction_31 {d : Nat} {l0 l1 l2 l3 l4 l5 l6 : AV} {σ : Sg} {Q : AV → Sg → Prop}  : Rn d m_X5_setFraction 31 [l0, l1, l2, l3, l4, l5, l6] [] σ Q ↔ Q none σ := q37_0 (st := []) (show fnd (pgm m_X5_setFraction) 31 = some (32, 37, 0, 0, 0, []) from rfl)
set_option maxRecDepth 100000 in
theorem en_X5_commonDivisor {d : Nat} {a0 : Int} {a1 : Int} {σ σ0 : Sg} {r0 : AV} (h : Rn d m_X5_commonDivisor 0 [vL a0, none, vL a1, none, none, none, none] [] σ (fun r σ1 => r = r0 ∧ σ1 = σ0)) : Ev (d + 1) m_X5_commonDivisor [vL a0, vL a1] σ r0 σ0 := Ev_is (Nat.le_of_ble_eq_true rfl) h
set_option maxRecDepth 100000 in
theorem eo_X5_commonDivisor {d : Nat} {a0 : Int} {a1 : Int} {σ : Sg} {Q : AV → Sg → Prop} (h : Rn d m_X5_commonDivisor 0 [vL a0, none, vL a1, none, none, none, none] [] σ Q) : ∃ r σ1, Ev (d + 1) m_X5_commonDivisor [vL a0, vL a1] σ r σ1 ∧ Q r σ1 := Ev_of (Nat.le_of_ble_eq_true rfl) h
set_option maxRecDepth 100000 in
theorem s_X5_commonDivisor_0 {d : Nat} {l0 l1 l2 l3 l4 l5 l6 : AV} {st : List AV} {σ : Sg} {Q : AV → Sg → Prop}  : Rn d m_X5_commonDivisor 0 [l0, l1, l2, l3, l4, l5, l6] st σ Q ↔ Rn d m_X5_commonDivisor 1 [l0, l1, l2, l3, l4, l5, l6] (vI 0 :: st) σ Q := q0 (show fnd (pgm m_X5_commonDivisor) 0 = some (1, 0, 0, 0, 0, []) from rfl)
set_option maxRecDepth 100000 in
theorem s_X5_commonDivisor_1 {d : Nat} {l0 l1 l2 l3 l4 l5 l6 : AV} {st : List AV} {x : Int} {σ : Sg} {Q : AV → Sg → Prop}  : Rn d m_X5_commonDivisor 1 [l0, l1, l2, l3, l4, l5, l6] (vI x :: st) σ Q ↔ Rn d m_X5_commonDivisor 3 [l0, l1, l2, l3, vI x, l5, l6] st σ Q := q6 (show fnd (pgm m_X5_commonDivisor) 1 = some (3, 6, 0, 4, 1, []) from rfl) (by decide : 4 < 7)
set_option maxRecDepth 100000 in
theorem s_X5_commonDivisor_3 {d : Nat} {l0 l1 l2 l3 l5 l6 : AV} {st : List AV} {x : Int} {σ : Sg} {Q : AV → Sg → Prop}  : Rn d m_X5_commonDivisor 3 [l0, l1, l2, l3, vI x, l5, l6] st σ Q ↔ Rn d m_X5_commonDivisor 5 [l0, l1, l2, l3, vI x, l5, l6] (vI x :: st) σ Q := q3 (show fnd (pgm m_X5_commonDivisor) 3 = some (5, 3, 0, 4, 1, []) from rfl) rfl
set_option maxRecDepth 100000 in
theorem s_X5_commonDivisor_5 {d : Nat} {l0 l1 l2 l3 l4 l5 l6 : AV} {st : List AV} {σ : Sg} {Q : AV → Sg → Prop}  : Rn d m_X5_commonDivisor 5 [l0, l1, l2, l3, l4, l5, l6] st σ Q ↔ Rn d m_X5_commonDivisor 7 [l0, l1, l2, l3, l4, l5, l6] (vI 100 :: st) σ Q := q0 (show fnd (pgm m_X5_commonDivisor) 5 = some (7, 0, 100, 1, 0, []) from rfl)
set_option maxRecDepth 100000 in
theorem s_X5_commonDivisor_7 {d : Nat} {l0 l1 l2 l3 l4 l5 l6 : AV} {st : List AV} {a b : Int} {σ : Sg} {Q : AV → Sg → Prop}  : Rn d m_X5_commonDivisor 7 [l0, l1, l2, l3, l4, l5, l6] (vI b :: vI a :: st) σ Q ↔ if w32 b ≤ w32 a then Rn d m_X5_commonDivisor 32 [l0, l1, l2, l3, l4, l5, l6] st σ Q else Rn d m_X5_commonDivisor 10 [l0, l1, l2, l3, l4, l5, l6] st σ Q := q20_3 (show fnd (pgm m_X5_commonDivisor) 7 = some (10, 20, 0, 3, 32, []) from rfl)
set_option maxRecDepth 100000 in
theorem s_X5_commonDivisor_10 {d : Nat} {l0 l1 l4 l5 l6 : AV} {st : List AV} {x : Int} {σ : Sg} {Q : AV → Sg → Prop}  : Rn d m_X5_commonDivisor 10 [l0, l1, vL x, none, l4, l5, l6] st σ Q ↔ Rn d m_X5_commonDivisor 11 [l0, l1, vL x, none, l4, l5, l6] (vL x :: st) σ Q := q4 (show fnd (pgm m_X5_commonDivisor) 10 = some (11, 4, 0, 2, 0, []) from rfl) rfl rfl
set_option maxRecDepth 100000 in
theorem s_X5_commonDivisor_11 {d : Nat} {l0 l1 l2 l3 l4 l5 l6 : AV} {st : List AV} {σ : Sg} {Q : AV → Sg → Prop}  : Rn d m_X5_commonDivisor 11 [l0, l1, l2, l3, l4, l5, l6] st σ Q ↔ Rn d m_X5_commonDivisor 12 [l0, l1, l2, l3, l4, l5, l6] (vL 0 :: st) σ Q := q1 (show fnd (pgm m_X5_commonDivisor) 11 = some (12, 1, 0, 0, 0, []) from rfl)
set_option maxRecDepth 100000 in
theorem s_X5_commonDivisor_12 {d : Nat} {l0 l1 l2 l3 l4 l5 l6 : AV} {st : List AV} {a b : Int} {σ : Sg} {Q : AV → Sg → Prop}  : Rn d m_X5_commonDivisor 12 [l0, l1, l2, l3, l4, l5, l6] (vL b :: vL a :: st) σ Q ↔ Rn d m_X5_commonDivisor 13 [l0, l1, l2, l3, l4, l5, l6] (vI (cmpL a b) :: st) σ Q := q16 (show fnd (pgm m_X5_commonDivisor) 12 = some (13, 16, 0, 0, 0, []) from rfl)
set_option maxRecDepth 100000 in
theorem s_X5_commonDivisor_13 {d : Nat} {l0 l1 l2 l3 l4 l5 l6 : AV} {st : List AV} {a : Int} {σ : Sg} {Q : AV → Sg → Prop}  : Rn d m_X5_commonDivisor 13 [l0, l1, l2, l3, l4, l5, l6] (vI a :: st) σ Q ↔ if w32 a = 0 then Rn d m_X5_commonDivisor 32 [l0, l1, l2, l3, l4, l5, l6] st σ Q else Rn d m_X5_commonDivisor 16 [l0, l1, l2, l3, l4, l5, l6] st σ Q := q19_0 (show fnd (pgm m_X5_commonDivisor) 13 = some (16, 19, 0, 0, 32, []) from rfl)
set_option maxRecDepth 100000 in
theorem s_X5_commonDivisor_16 {d : Nat} {l2 l3 l4 l5 l6 : AV} {st : List AV} {x : Int} {σ : Sg} {Q : AV → Sg → Prop}  : Rn d m_X5_commonDivisor 16 [vL x, none, l2, l3, l4, l5, l6] st σ Q ↔ Rn d m_X5_commonDivisor 17 [vL x, none, l2, l3, l4, l5, l6] (vL x :: st) σ Q := q4 (show fnd (pgm m_X5_commonDivisor) 16 = some (17, 4, 0, 0, 0, []) from rfl) rfl rfl
set_option maxRecDepth 100000 in
theorem s_X5_commonDivisor_17 {d : Nat} {l0 l1 l4 l5 l6 : AV} {st : List AV} {x : Int} {σ : Sg} {Q : AV → Sg → Prop}  : Rn d m_X5_commonDivisor 17 [l0, l1, vL x, none, l4, l5, l6] st σ Q ↔ Rn d m_X5_commonDivisor 18 [l0, l1, vL x, none, l4, l5, l6] (vL x :: st) σ Q := q4 (show fnd (pgm m_X5_commonDivisor) 17 = some (18, 4, 0, 2, 0, []) from rfl) rfl rfl
set_option maxRecDepth 100000 in
theorem s_X5_commonDivisor_18 {d : Nat} {l0 l1 l2 l3 l4 l5 l6 : AV} {st : List AV} {a b : Int} {σ : Sg} {Q : AV → Sg → Prop} (h0 : w64 b ≠ 0) : Rn d m_X5_commonDivisor 18 [l0, l1, l2, l3, l4, l5, l6] (vL b :: vL a :: st) σ Q ↔ Rn d m_X5_commonDivisor 19 [l0, l1, l2, l3, l4, l5, l6] (vL (rem64 a b) :: st) σ Q := q11_4 (show fnd (pgm m_X5_commonDivisor) 18 = some (19, 11, 0, 4, 0, []) from rfl) h0
set_option maxRecDepth 100000 in
theorem s_X5_commonDivisor_19 {d : Nat} {l0 l1 l2 l3 l4 l5 l6 : AV} {st : List AV} {x : Int} {σ : Sg} {Q : AV → Sg → Prop}  : Rn d m_X5_commonDivisor 19 [l0, l1, l2, l3, l4, l5, l6] (vL x :: st) σ Q ↔ Rn d m_X5_commonDivisor 21 [l0, l1, l2, l3, l4, vL x, none] st σ Q := q7 (show fnd (pgm m_X5_commonDivisor) 19 = some (21, 7, 0, 5, 1, []) from rfl) (by decide : 6 < 7)
set_option maxRecDepth 100000 in
theorem s_X5_commonDivisor_21 {d : Nat} {l0 l1 l4 l5 l6 : AV} {st : List AV} {x : Int} {σ : Sg} {Q : AV → Sg → Prop}  : Rn d m_X5_commonDivisor 21 [l0, l1, vL x, none, l4, l5, l6] st σ Q ↔ Rn d m_X5_commonDivisor 22 [l0, l1, vL x, none, l4, l5, l6] (vL x :: st) σ Q := q4 (show fnd (pgm m_X5_commonDivisor) 21 = some (22, 4, 0, 2, 0, []) from rfl) rfl rfl
set_option maxRecDepth 100000 in
theorem s_X5_commonDivisor_22 {d : Nat} {l0 l1 l2 l3 l4 l5 l6 : AV} {st : List AV} {x : Int} {σ : Sg} {Q : AV → Sg → Prop}  : Rn d m_X5_commonDivisor 22 [l0, l1, l2, l3, l4, l5, l6] (vL x :: st) σ Q ↔ Rn d m_X5_commonDivisor 23 [vL x, none, l2, l3, l4, l5, l6] st σ Q := q7 (show fnd (pgm m_X5_commonDivisor) 22 = some (23, 7, 0, 0, 0, []) from rfl) (by decide : 1 < 7)
set_option maxRecDepth 100000 in
theorem s_X5_commonDivisor_23 {d : Nat} {l0 l1 l2 l3 l4 : AV} {st : List AV} {x : Int} {σ : Sg} {Q : AV → Sg → Prop}  : Rn d m_X5_commonDivisor 23 [l0, l1, l2, l3, l4, vL x, none] st σ Q ↔ Rn d m_X5_commonDivisor 25 [l0, l1, l2, l3, l4, vL x, none] (vL x :: st) σ Q := q4 (show fnd (pgm m_X5_commonDivisor) 23 = some (25, 4, 0, 5, 1, []) from rfl) rfl rfl
set_option maxRecDepth 100000 in
theorem s_X5_commonDivisor_25 {d : Nat} {l0 l1 l2 l3 l4 l5 l6 : AV} {st : List AV} {x : Int} {σ : Sg} {Q : AV → Sg → Prop}  : Rn d m_X5_commonDivisor 25 [l0, l1, l2, l3, l4, l5, l6] (vL x :: st) σ Q ↔ Rn d m_X5_commonDivisor 26 [l0, l1, vL x, none, l4, l5, l6] st σ Q := q7 (show fnd (pgm m_X5_commonDivisor) 25 = some (26, 7, 0, 2, 0, []) from rfl) (by decide : 3 < 7)
set_option maxRecDepth 100000 in
theorem s_X5_commonDivisor_26 {d : Nat} {l0 l1 l2 l3 l5 l6 : AV} {st : List AV} {x : Int} {σ : Sg} {Q : AV → Sg → Prop}  : Rn d m_X5_commonDivisor 26 [l0, l1, l2, l3, vI x, l5, l6] st σ Q ↔ Rn d m_X5_commonDivisor 29 [l0, l1, l2, l3, vI (x + 1), l5, l6] st σ Q := q9 (show fnd (pgm m_X5_commonDivisor) 26 = some (29, 9, 1, 4, 0, []) from rfl) rfl
set_option maxRecDepth 100000 in
theorem s_X5_commonDivisor_29 {d : Nat} {l0 l1 l2 l3 l4 l5 l6 : AV} {st : List AV} {σ : Sg} {Q : AV → Sg → Prop}  : Rn d m_X5_commonDivisor 29 [l0, l1, l2, l3, l4, l5, l6] st σ Q ↔ Rn d m_X5_commonDivisor 3 [l0, l1, l2, l3, l4, l5, l6] st σ Q := q21 (show fnd (pgm m_X5_commonDivisor) 29 = some (32, 21, 0, 0, 3, []) from rfl)
set_option maxRecDepth 100000 in
theorem s_X5_commonDivisor_32 {d : Nat} {l2 l3 l4 l5 l6 : AV} {st : List AV} {x : Int} {σ : Sg} {Q : AV → Sg → Prop}  : Rn d m_X5_commonDivisor 32 [vL x, none, l2, l3, l4, l5, l6] st σ Q ↔ Rn d m_X5_commonDivisor 33 [vL x, none, l2, l3, l4, l5, l6] (vL x :: st) σ Q := q4 (show fnd (pgm m_X5_commonDivisor) 32 = some (33, 4, 0, 0, 0, []) from rfl) rfl rfl
set_option maxRecDepth 100000 in
theorem s_X5_commonDivisor_33 {d : Nat} {l0 l1 l2 l3 l4 l5 l6 : AV} {x : Int} {σ : Sg} {Q : AV → Sg → Prop}  : Rn d m_X5_commonDivisor 33 [l0, l1, l2, l3, l4, l5, l6] [vL x] σ Q ↔ Q (vL x) σ := q37_3 (st := []) (show fnd (pgm m_X5_commonDivisor) 33 = some (34, 37, 0, 3, 0, []) from rfl)
