set_option maxRecDepth 100000 in
theorem en_X0_isFirstCell {d : Nat} {o : Nat} {a0 : Int} {σ σ0 : Sg} {r0 : AV} (h : Rn d m_X0_isFirstCell 0 [vR o, vI a0, none] [] σ (fun r σ1 => r = r0 ∧ σ1 = σ0)) : Ev (d + 1) m_X0_isFirstCell [vR o, vI a0] σ r0 σ0 := Ev_is (Nat.le_of_ble_eq_true rfl) h
set_option maxRecDepth 100000 in
theorem eo_X0_isFirstCell {d : Nat} {o : Nat} {a0 : Int} {σ : Sg} {Q : AV → Sg → Prop} (h : Rn d m_X0_isFirstCell 0 [vR o, vI a0, none] [] σ Q) : ∃ r σ1, Ev (d + 1) m_X0_isFirstCell [vR o, vI a0] σ r σ1 ∧ Q r σ1 := Ev_of (Nat.le_of_ble_eq_true rfl) h
set_option maxRecDepth 100000 in
theorem s_X0_isFirstCell_0 {d : Nat} {l0 l1 l2 : AV} {st : List AV} {σ : Sg} {Q : AV → Sg → Prop}  : Rn d m_X0_isFirstCell 0 [l0, l1, l2] st σ Q ↔ Rn d m_X0_isFirstCell 1 [l0, l1, l2] (vI 0 :: st) σ Q := q0 (show fnd (pgm m_X0_isFirstCell) 0 = some (1, 0, 0, 0, 0, []) from rfl)
set_option maxRecDepth 100000 in
theorem s_X0_isFirstCell_1 {d : Nat} {l0 l1 l2 : AV} {st : List AV} {x : Int} {σ : Sg} {Q : AV → Sg → Prop}  : Rn d m_X0_isFirstCell 1 [l0, l1, l2] (vI x :: st) σ Q ↔ Rn d m_X0_isFirstCell 2 [l0, l1, vI x] st σ Q := q6 (show fnd (pgm m_X0_isFirstCell) 1 = some (2, 6, 0, 2, 0, []) from rfl) (by decide : 2 < 3)
set_option maxRecDepth 100000 in
theorem s_X0_isFirstCell_2 {d : Nat} {l0 l1 : AV} {st : List AV} {x : Int} {σ : Sg} {Q : AV → Sg → Prop}  : Rn d m_X0_isFirstCell 2 [l0, l1, vI x] st σ Q ↔ Rn d m_X0_isFirstCell 3 [l0, l1, vI x] (vI x :: st) σ Q := q3 (show fnd (pgm m_X0_isFirstCell) 2 = some (3, 3, 0, 2, 0, []) from rfl) rfl
set_option maxRecDepth 100000 in
theorem s_X0_isFirstCell_3 {d : Nat} {l1 l2 : AV} {st : List AV} {o : Nat} {σ : Sg} {Q : AV → Sg → Prop} (ho : o ≠ 0) : Rn d m_X0_isFirstCell 3 [vR o, l1, l2] st σ Q ↔ Rn d m_X0_isFirstCell 4 [vR o, l1, l2] (vR o :: st) σ Q := q5 (show fnd (pgm m_X0_isFirstCell) 3 = some (4, 5, 0, 0, 0, []) from rfl) rfl ho
set_option maxRecDepth 100000 in
theorem s_X0_isFirstCell_4 {d : Nat} {l0 l1 l2 : AV} {st : List AV} {o : Nat} {σ : Sg} {Q : AV → Sg → Prop} (hk : kn σ o = (0, 0)) : Rn d m_X0_isFirstCell 4 [l0, l1, l2] (vR o :: st) σ Q ↔ Rn d m_X0_isFirstCell 7 [l0, l1, l2] (vI (σ o 0) :: st) σ Q := q33 (show fnd (pgm m_X0_isFirstCell) 4 = some (7, 33, 9, 0, 0, []) from rfl) hk
set_option maxRecDepth 100000 in
theorem s_X0_isFirstCell_7 {d : Nat} {l0 l1 l2 : AV} {st : List AV} {a b : Int} {σ : Sg} {Q : AV → Sg → Prop}  : Rn d m_X0_isFirstCell 7 [l0, l1, l2] (vI b :: vI a :: st) σ Q ↔ if w32 b ≤ w32 a then Rn d m_X0_isFirstCell 28 [l0, l1, l2] st σ Q else Rn d m_X0_isFirstCell 10 [l0, l1, l2] st σ Q := q20_3 (show fnd (pgm m_X0_isFirstCell) 7 = some (10, 20, 0, 3, 28, []) from rfl)
set_option maxRecDepth 100000 in
theorem s_X0_isFirstCell_10 {d : Nat} {l1 l2 : AV} {st : List AV} {o : Nat} {σ : Sg} {Q : AV → Sg → Prop} (ho : o ≠ 0) : Rn d m_X0_isFirstCell 10 [vR o, l1, l2] st σ Q ↔ Rn d m_X0_isFirstCell 11 [vR o, l1, l2] (vR o :: st) σ Q := q5 (show fnd (pgm m_X0_isFirstCell) 10 = some (11, 5, 0, 0, 0, []) from rfl) rfl ho
set_option maxRecDepth 100000 in
theorem s_X0_isFirstCell_11 {d : Nat} {l0 l1 l2 : AV} {st : List AV} {o : Nat} {σ : Sg} {Q : AV → Sg → Prop} (hk : kn σ o = (0, 0)) : Rn d m_X0_isFirstCell 11 [l0, l1, l2] (vR o :: st) σ Q ↔ Rn d m_X0_isFirstCell 14 [l0, l1, l2] (vR (tp o 2) :: st) σ Q := q33 (show fnd (pgm m_X0_isFirstCell) 11 = some (14, 33, 19, 0, 2, []) from rfl) hk
set_option maxRecDepth 100000 in
theorem s_X0_isFirstCell_14 {d : Nat} {l0 l1 : AV} {st : List AV} {x : Int} {σ : Sg} {Q : AV → Sg → Prop}  : Rn d m_X0_isFirstCell 14 [l0, l1, vI x] st σ Q ↔ Rn d m_X0_isFirstCell 15 [l0, l1, vI x] (vI x :: st) σ Q := q3 (show fnd (pgm m_X0_isFirstCell) 14 = some (15, 3, 0, 2, 0, []) from rfl) rfl
set_option maxRecDepth 100000 in
theorem s_X0_isFirstCell_15 {d : Nat} {l0 l1 l2 : AV} {st : List AV} {i : Int} {o : Nat} {σ : Sg} {Q : AV → Sg → Prop} (hi : 0 ≤ w32 i ∧ w32 i < al σ 1 o) : Rn d m_X0_isFirstCell 15 [l0, l1, l2] (vI i :: vR o :: st) σ Q ↔ Rn d m_X0_isFirstCell 16 [l0, l1, l2] (vI (σ o (w32 i)) :: st) σ Q := q25 (show fnd (pgm m_X0_isFirstCell) 15 = some (16, 25, 0, 0, 0, []) from rfl) hi
set_option maxRecDepth 100000 in
theorem s_X0_isFirstCell_16 {d : Nat} {l0 l2 : AV} {st : List AV} {x : Int} {σ : Sg} {Q : AV → Sg → Prop}  : Rn d m_X0_isFirstCell 16 [l0, vI x, l2] st σ Q ↔ Rn d m_X0_isFirstCell 17 [l0, vI x, l2] (vI x :: st) σ Q := q3 (show fnd (pgm m_X0_isFirstCell) 16 = some (17, 3, 0, 1, 0, []) from rfl) rfl
set_option maxRecDepth 100000 in
theorem s_X0_isFirstCell_17 {d : Nat} {l0 l1 l2 : AV} {st : List AV} {a b : Int} {σ : Sg} {Q : AV → Sg → Prop}  : Rn d m_X0_isFirstCell 17 [l0, l1, l2] (vI b :: vI a :: st) σ Q ↔ if ¬ w32 a = w32 b then Rn d m_X0_isFirstCell 22 [l0, l1, l2] st σ Q else Rn d m_X0_isFirstCell 20 [l0, l1, l2] st σ Q := q20_1 (show fnd (pgm m_X0_isFirstCell) 17 = some (20, 20, 0, 1, 22, []) from rfl)
set_option maxRecDepth 100000 in
theorem s_X0_isFirstCell_20 {d : Nat} {l0 l1 l2 : AV} {st : List AV} {σ : Sg} {Q : AV → Sg → Prop}  : Rn d m_X0_isFirstCell 20 [l0, l1, l2] st σ Q ↔ Rn d m_X0_isFirstCell 21 [l0, l1, l2] (vI 1 :: st) σ Q := q0 (show fnd (pgm m_X0_isFirstCell) 20 = some (21, 0, 1, 0, 0, []) from rfl)
set_option maxRecDepth 100000 in
theorem s_X0_isFirstCell_21 {d : Nat} {l0 l1 l2 : AV} {x : Int} {σ : Sg} {Q : AV → Sg → Prop} (hx : x = 0 ∨ x = 1) : Rn d m_X0_isFirstCell 21 [l0, l1, l2] [vI x] σ Q ↔ Q (vI x) σ := q37_2 (st := []) (show fnd (pgm m_X0_isFirstCell) 21 = some (22, 37, 0, 2, 0, []) from rfl) hx
set_option maxRecDepth 100000 in
theorem s_X0_isFirstCell_22 {d : Nat} {l0 l1 : AV} {st : List AV} {x : Int} {σ : Sg} {Q : AV → Sg → Prop}  : Rn d m_X0_isFirstCell 22 [l0, l1, vI x] st σ Q ↔ Rn d m_X0_isFirstCell 25 [l0, l1, vI (x + 1)] st σ Q := q9 (show fnd (pgm m_X0_isFirstCell) 22 = some (25, 9, 1, 2, 0, []) from rfl) rfl
set_option maxRecDepth 100000 in
theorem s_X0_isFirstCell_25 {d : Nat} {l0 l1 l2 : AV} {st : List AV} {σ : Sg} {Q : AV → Sg → Prop}  : Rn d m_X0_isFirstCell 25 [l0, l1, l2] st σ Q ↔ Rn d m_X0_isFirstCell 2 [l0, l1, l2] st σ Q := q21 (show fnd (pgm m_X0_isFirstCell) 25 = some (28, 21, 0, 0, 2, []) from rfl)
set_option maxRecDepth 100000 in
theorem s_X0_isFirstCell_28 {d : Nat} {l0 l1 l2 : AV} {st : List AV} {σ : Sg} {Q : AV → Sg → Prop}  : Rn d m_X0_isFirstCell 28 [l0, l1, l2] st σ Q ↔ Rn d m_X0_isFirstCell 29 [l0, l1, l2] (vI 0 :: st) σ Q := q0 (show fnd (pgm m_X0_isFirstCell) 28 = some (29, 0, 0, 0, 0, []) from rfl)
set_option maxRecDepth 100000 in
theorem s_X0_isFirstCell_29 {d : Nat} {l0 l1 l2 : AV} {x : Int} {σ : Sg} {Q : AV → Sg → Prop} (hx : x = 0 ∨ x = 1) : Rn d m_X0_isFirstCell 29 [l0, l1, l2] [vI x] σ Q ↔ Q (vI x) σ := q37_2 (st := []) (show fnd (pgm m_X0_isFirstCell) 29 = some (30, 37, 0, 2, 0, []) from rfl) hx
set_option maxRecDepth 100000 in
theorem en_X0_addStone {d : Nat} {o : Nat} {a0 : Int} {a1 : Int} {a2 : Int} {σ σ0 : Sg} {r0 : AV} (h : Rn d m_X0_addStone 0 [vR o, vI a0, vI a1, vI a2, none] [] σ (fun r σ1 => r = r0 ∧ σ1 = σ0)) : Ev (d + 1) m_X0_addStone [vR o, vI a0, vI a1, vI a2] σ r0 σ0 := Ev_is (Nat.le_of_ble_eq_true rfl) h
set_option maxRecDepth 100000 in
theorem eo_X0_addStone {d : Nat} {o : Nat} {a0 : Int} {a1 : Int} {a2 : Int} {σ : Sg} {Q : AV → Sg → Prop} (h : Rn d m_X0_addStone 0 [vR o, vI a0, vI a1, vI a2, none] [] σ Q) : ∃ r σ1, Ev (d + 1) m_X0_addStone [vR o, vI a0, vI a1, vI a2] σ r σ1 ∧ Q r σ1 := Ev_of (Nat.le_of_ble_eq_true rfl) h
set_option maxRecDepth 100000 in
theorem s_X0_addStone_0 {d : Nat} {l1 l2 l3 l4 : AV} {st : List AV} {o : Nat} {σ : Sg} {Q : AV → Sg → Prop} (ho : o ≠ 0) : Rn d m_X0_addStone 0 [vR o, l1, l2, l3, l4] st σ Q ↔ Rn d m_X0_addStone 1 [vR o, l1, l2, l3, l4] (vR o :: st) σ Q := q5 (show fnd (pgm m_X0_addStone) 0 = some (1, 5, 0, 0, 0, []) from rfl) rfl ho
set_option maxRecDepth 100000 in
theorem s_X0_addStone_1 {d : Nat} {l0 l1 l2 l3 l4 : AV} {st : List AV} {o : Nat} {σ : Sg} {Q : AV → Sg → Prop} (hk : kn σ o = (0, 0)) : Rn d m_X0_addStone 1 [l0, l1, l2, l3, l4] (vR o :: st) σ Q ↔ Rn d m_X0_addStone 4 [l0, l1, l2, l3, l4] (vR (tp o 1) :: st) σ Q := q33 (show fnd (pgm m_X0_addStone) 1 = some (4, 33, 15, 0, 1, []) from rfl) hk
set_option maxRecDepth 100000 in
theorem s_X0_addStone_4 {d : Nat} {l1 l2 l3 l4 : AV} {st : List AV} {o : Nat} {σ : Sg} {Q : AV → Sg → Prop} (ho : o ≠ 0) : Rn d m_X0_addStone 4 [vR o, l1, l2, l3, l4] st σ Q ↔ Rn d m_X0_addStone 5 [vR o, l1, l2, l3, l4] (vR o :: st) σ Q := q5 (show fnd (pgm m_X0_addStone) 4 = some (5, 5, 0, 0, 0, []) from rfl) rfl ho
set_option maxRecDepth 100000 in
theorem s_X0_addStone_5 {d : Nat} {l0 l1 l2 l3 l4 : AV} {st : List AV} {o : Nat} {σ : Sg} {Q : AV → Sg → Prop} (hk : kn σ o = (0, 0)) : Rn d m_X0_addStone 5 [l0, l1, l2, l3, l4] (vR o :: st) σ Q ↔ Rn d m_X0_addStone 8 [l0, l1, l2, l3, l4] (vI (σ o 0) :: st) σ Q := q33 (show fnd (pgm m_X0_addStone) 5 = some (8, 33, 9, 0, 0, []) from rfl) hk
set_option maxRecDepth 100000 in
theorem s_X0_addStone_8 {d : Nat} {l0 l2 l3 l4 : AV} {st : List AV} {x : Int} {σ : Sg} {Q : AV → Sg → Prop}  : Rn d m_X0_addStone 8 [l0, vI x, l2, l3, l4] st σ Q ↔ Rn d m_X0_addStone 9 [l0, vI x, l2, l3, l4] (vI x :: st) σ Q := q3 (show fnd (pgm m_X0_addStone) 8 = some (9, 3, 0, 1, 0, []) from rfl) rfl
set_option maxRecDepth 100000 in
theorem s_X0_addStone_9 {d : Nat} {l0 l1 l2 l3 l4 : AV} {st : List AV} {i x : Int} {o : Nat} {σ : Sg} {Q : AV → Sg → Prop} (hi : 0 ≤ w32 i ∧ w32 i < al σ 1 o) : Rn d m_X0_addStone 9 [l0, l1, l2, l3, l4] (vI x :: vI i :: vR o :: st) σ Q ↔ Rn d m_X0_addStone 10 [l0, l1, l2, l3, l4] st (up σ o (w32 i) x) Q := q29 (show fnd (pgm m_X0_addStone) 9 = some (10, 29, 0, 0, 0, []) from rfl) hi
set_option maxRecDepth 100000 in
theorem s_X0_addStone_10 {d : Nat} {l1 l2 l3 l4 : AV} {st : List AV} {o : Nat} {σ : Sg} {Q : AV → Sg → Prop} (ho : o ≠ 0) : Rn d m_X0_addStone 10 [vR o, l1, l2, l3, l4] st σ Q ↔ Rn d m_X0_addStone 11 [vR o, l1, l2, l3, l4] (vR o :: st) σ Q := q5 (show fnd (pgm m_X0_addStone) 10 = some (11, 5, 0, 0, 0, []) from rfl) rfl ho
set_option maxRecDepth 100000 in
theorem s_X0_addStone_11 {d : Nat} {l0 l1 l2 l3 l4 : AV} {st : List AV} {o : Nat} {σ : Sg} {Q : AV → Sg → Prop} (hk : kn σ o = (0, 0)) : Rn d m_X0_addStone 11 [l0, l1, l2, l3, l4] (vR o :: st) σ Q ↔ Rn d m_X0_addStone 14 [l0, l1, l2, l3, l4] (vR (tp o 2) :: st) σ Q := q33 (show fnd (pgm m_X0_addStone) 11 = some (14, 33, 19, 0, 2, []) from rfl) hk
set_option maxRecDepth 100000 in
theorem s_X0_addStone_14 {d : Nat} {l1 l2 l3 l4 : AV} {st : List AV} {o : Nat} {σ : Sg} {Q : AV → Sg → Prop} (ho : o ≠ 0) : Rn d m_X0_addStone 14 [vR o, l1, l2, l3, l4] st σ Q ↔ Rn d m_X0_addStone 15 [vR o, l1, l2, l3, l4] (vR o :: st) σ Q := q5 (show fnd (pgm m_X0_addStone) 14 = some (15, 5, 0, 0, 0, []) from rfl) rfl ho
set_option maxRecDepth 100000 in
theorem s_X0_addStone_15 {d : Nat} {l0 l1 l2 l3 l4 : AV} {st : List AV} {o : Nat} {σ : Sg} {Q : AV → Sg → Prop} (hk : kn σ o = (0, 0)) : Rn d m_X0_addStone 15 [l0, l1, l2, l3, l4] (vR o :: st) σ Q ↔ Rn d m_X0_addStone 18 [l0, l1, l2, l3, l4] (vI (σ o 0) :: st) σ Q := q33 (show fnd (pgm m_X0_addStone) 15 = some (18, 33, 9, 0, 0, []) from rfl) hk
set_option maxRecDepth 100000 in
theorem s_X0_addStone_18 {d : Nat} {l0 l1 l3 l4 : AV} {st : List AV} {x : Int} {σ : Sg} {Q : AV → Sg → Prop}  : Rn d m_X0_addStone 18 [l0, l1, vI x, l3, l4] st σ Q ↔ Rn d m_X0_addStone 19 [l0, l1, vI x, l3, l4] (vI x :: st) σ Q := q3 (show fnd (pgm m_X0_addStone) 18 = some (19, 3, 0, 2, 0, []) from rfl) rfl
set_option maxRecDepth 100000 in
theorem s_X0_addStone_19 {d : Nat} {l0 l1 l2 l3 l4 : AV} {st : List AV} {i x : Int} {o : Nat} {σ : Sg} {Q : AV → Sg → Prop} (hi : 0 ≤ w32 i ∧ w32 i < al σ 1 o) : Rn d m_X0_addStone 19 [l0, l1, l2, l3, l4] (vI x :: vI i :: vR o :: st) σ Q ↔ Rn d m_X0_addStone 20 [l0, l1, l2, l3, l4] st (up σ o (w32 i) x) Q := q29 (show fnd (pgm m_X0_addStone) 19 = some (20, 29, 0, 0, 0, []) from rfl) hi
set_option maxRecDepth 100000 in
theorem s_X0_addStone_20 {d : Nat} {l1 l2 l3 l4 : AV} {st : List AV} {o : Nat} {σ : Sg} {Q : AV → Sg → Prop} (ho : o ≠ 0) : Rn d m_X0_addStone 20 [vR o, l1, l2, l3, l4] st σ Q ↔ Rn d m_X0_addStone 21 [vR o, l1, l2, l3, l4] (vR o :: st) σ Q := q5 (show fnd (pgm m_X0_addStone) 20 = some (21, 5, 0, 0, 0, []) from rfl) rfl ho
set_option maxRecDepth 100000 in
theorem s_X0_addStone_21 {d : Nat} {l0 l1 l2 l3 l4 : AV} {st : List AV} {o : Nat} {σ : Sg} {Q : AV → Sg → Prop} (hk : kn σ o = (0, 0)) : Rn d m_X0_addStone 21 [l0, l1, l2, l3, l4] (vR o :: st) σ Q ↔ Rn d m_X0_addStone 24 [l0, l1, l2, l3, l4] (vR (tp o 3) :: st) σ Q := q33 (show fnd (pgm m_X0_addStone) 21 = some (24, 33, 22, 0, 3, []) from rfl) hk
set_option maxRecDepth 100000 in
theorem s_X0_addStone_24 {d : Nat} {l1 l2 l3 l4 : AV} {st : List AV} {o : Nat} {σ : Sg} {Q : AV → Sg → Prop} (ho : o ≠ 0) : Rn d m_X0_addStone 24 [vR o, l1, l2, l3, l4] st σ Q ↔ Rn d m_X0_addStone 25 [vR o, l1, l2, l3, l4] (vR o :: st) σ Q := q5 (show fnd (pgm m_X0_addStone) 24 = some (25, 5, 0, 0, 0, []) from rfl) rfl ho
set_option maxRecDepth 100000 in
theorem s_X0_addStone_25 {d : Nat} {l0 l1 l2 l3 l4 : AV} {st : List AV} {o : Nat} {σ : Sg} {Q : AV → Sg → Prop} (hk : kn σ o = (0, 0)) : Rn d m_X0_addStone 25 [l0, l1, l2, l3, l4] (vR o :: st) σ Q ↔ Rn d m_X0_addStone 28 [l0, l1, l2, l3, l4] (vI (σ o 0) :: st) σ Q := q33 (show fnd (pgm m_X0_addStone) 25 = some (28, 33, 9, 0, 0, []) from rfl) hk
set_option maxRecDepth 100000 in
theorem s_X0_addStone_28 {d : Nat} {l0 l1 l2 l4 : AV} {st : List AV} {x : Int} {σ : Sg} {Q : AV → Sg → Prop}  : Rn d m_X0_addStone 28 [l0, l1, l2, vI x, l4] st σ Q ↔ Rn d m_X0_addStone 29 [l0, l1, l2, vI x, l4] (vI x :: st) σ Q := q3 (show fnd (pgm m_X0_addStone) 28 = some (29, 3, 0, 3, 0, []) from rfl) rfl
set_option maxRecDepth 100000 in
theorem s_X0_addStone_29 {d : Nat} {l0 l1 l2 l3 l4 : AV} {st : List AV} {i x : Int} {o : Nat} {σ : Sg} {Q : AV → Sg → Prop} (hi : 0 ≤ w32 i ∧ w32 i < al σ 1 o) : Rn d m_X0_addStone 29 [l0, l1, l2, l3, l4] (vI x :: vI i :: vR o :: st) σ Q ↔ Rn d m_X0_addStone 30 [l0, l1, l2, l3, l4] st (up σ o (w32 i) x) Q := q29 (show fnd (pgm m_X0_addStone) 29 = some (30, 29, 0, 0, 0, []) from rfl) hi
set_option maxRecDepth 100000 in
theorem s_X0_addStone_30 {d : Nat} {l0 l1 l2 l3 l4 : AV} {st : List AV} {σ : Sg} {Q : AV → Sg → Prop}  : Rn d m_X0_addStone 30 [l0, l1, l2, l3, l4] st σ Q ↔ Rn d m_X0_addStone 31 [l0, l1, l2, l3, l4] (vI 0 :: st) σ Q := q0 (show fnd (pgm m_X0_addStone) 30 = some (31, 0, 0, 0, 0, []) from rfl)
set_option maxRecDepth 100000 in
theorem s_X0_addStone_31 {d : Nat} {l0 l1 l2 l3 l4 : AV} {st : List AV} {x : Int} {σ : Sg} {Q : AV → Sg → Prop}  : Rn d m_X0_addStone 31 [l0, l1, l2, l3, l4] (vI x :: st) σ Q ↔ Rn d m_X0_addStone 33 [l0, l1, l2, l3, vI x] st σ Q := q6 (show fnd (pgm m_X0_addStone) 31 = some (33, 6, 0, 4, 1, []) from rfl) (by decide : 4 < 5)
set_option maxRecDepth 100000 in
theorem s_X0_addStone_33 {d : Nat} {l0 l1 l2 l3 : AV} {st : List AV} {x : Int} {σ : Sg} {Q : AV → Sg → Prop}  : Rn d m_X0_addStone 33 [l0, l1, l2, l3, vI x] st σ Q ↔ Rn d m_X0_addStone 35 [l0, l1, l2, l3, vI x] (vI x :: st) σ Q := q3 (show fnd (pgm m_X0_addStone) 33 = some (35, 3, 0, 4, 1, []) from rfl) rfl
set_option maxRecDepth 100000 in
theorem s_X0_addStone_35 {d : Nat} {l0 l1 l2 l3 l4 : AV} {st : List AV} {σ : Sg} {Q : AV → Sg → Prop}  : Rn d m_X0_addStone 35 [l0, l1, l2, l3, l4] st σ Q ↔ Rn d m_X0_addStone 36 [l0, l1, l2, l3, l4] (vI 4 :: st) σ Q := q0 (show fnd (pgm m_X0_addStone) 35 = some (36, 0, 4, 0, 0, []) from rfl)
set_option maxRecDepth 100000 in
theorem s_X0_addStone_36 {d : Nat} {l0 l1 l2 l3 l4 : AV} {st : List AV} {a b : Int} {σ : Sg} {Q : AV → Sg → Prop}  : Rn d m_X0_addStone 36 [l0, l1, l2, l3, l4] (vI b :: vI a :: st) σ Q ↔ if w32 b ≤ w32 a then Rn d m_X0_addStone 66 [l0, l1, l2, l3, l4] st σ Q else Rn d m_X0_addStone 39 [l0, l1, l2, l3, l4] st σ Q := q20_3 (show fnd (pgm m_X0_addStone) 36 = some (39, 20, 0, 3, 66, []) from rfl)
set_option maxRecDepth 100000 in
theorem s_X0_addStone_39 {d : Nat} {l1 l2 l3 l4 : AV} {st : List AV} {o : Nat} {σ : Sg} {Q : AV → Sg → Prop} (ho : o ≠ 0) : Rn d m_X0_addStone 39 [vR o, l1, l2, l3, l4] st σ Q ↔ Rn d m_X0_addStone 40 [vR o, l1, l2, l3, l4] (vR o :: st) σ Q := q5 (show fnd (pgm m_X0_addStone) 39 = some (40, 5, 0, 0, 0, []) from rfl) rfl ho
set_option maxRecDepth 100000 in
theorem s_X0_addStone_40 {d : Nat} {l0 l1 l2 l3 l4 : AV} {st : List AV} {o : Nat} {σ : Sg} {Q : AV → Sg → Prop} (hk : kn σ o = (0, 0)) : Rn d m_X0_addStone 40 [l0, l1, l2, l3, l4] (vR o :: st) σ Q ↔ Rn d m_X0_addStone 43 [l0, l1, l2, l3, l4] (vR (tp o 4) :: st) σ Q := q33 (show fnd (pgm m_X0_addStone) 40 = some (43, 33, 25, 0, 4, []) from rfl) hk
set_option maxRecDepth 100000 in
theorem s_X0_addStone_43 {d : Nat} {l0 l1 l2 l3 l4 : AV} {st : List AV} {σ : Sg} {Q : AV → Sg → Prop}  : Rn d m_X0_addStone 43 [l0, l1, l2, l3, l4] st σ Q ↔ Rn d m_X0_addStone 44 [l0, l1, l2, l3, l4] (vI 4 :: st) σ Q := q0 (show fnd (pgm m_X0_addStone) 43 = some (44, 0, 4, 0, 0, []) from rfl)
set_option maxRecDepth 100000 in
theorem s_X0_addStone_44 {d : Nat} {l1 l2 l3 l4 : AV} {st : List AV} {o : Nat} {σ : Sg} {Q : AV → Sg → Prop} (ho : o ≠ 0) : Rn d m_X0_addStone 44 [vR o, l1, l2, l3, l4] st σ Q ↔ Rn d m_X0_addStone 45 [vR o, l1, l2, l3, l4] (vR o :: st) σ Q := q5 (show fnd (pgm m_X0_addStone) 44 = some (45, 5, 0, 0, 0, []) from rfl) rfl ho
set_option maxRecDepth 100000 in
theorem s_X0_addStone_45 {d : Nat} {l0 l1 l2 l3 l4 : AV} {st : List AV} {o : Nat} {σ : Sg} {Q : AV → Sg → Prop} (hk : kn σ o = (0, 0)) : Rn d m_X0_addStone 45 [l0, l1, l2, l3, l4] (vR o :: st) σ Q ↔ Rn d m_X0_addStone 48 [l0, l1, l2, l3, l4] (vI (σ o 0) :: st) σ Q := q33 (show fnd (pgm m_X0_addStone) 45 = some (48, 33, 9, 0, 0, []) from rfl) hk
set_option maxRecDepth 100000 in
theorem s_X0_addStone_48 {d : Nat} {l0 l1 l2 l3 l4 : AV} {st : List AV} {a b : Int} {σ : Sg} {Q : AV → Sg → Prop}  : Rn d m_X0_addStone 48 [l0, l1, l2, l3, l4] (vI b :: vI a :: st) σ Q ↔ Rn d m_X0_addStone 49 [l0, l1, l2, l3, l4] (vI (a * b) :: st) σ Q := q10_2 (show fnd (pgm m_X0_addStone) 48 = some (49, 10, 0, 2, 0, []) from rfl)
set_option maxRecDepth 100000 in
theorem s_X0_addStone_49 {d : Nat} {l0 l1 l2 l3 : AV} {st : List AV} {x : Int} {σ : Sg} {Q : AV → Sg → Prop}  : Rn d m_X0_addStone 49 [l0, l1, l2, l3, vI x] st σ Q ↔ Rn d m_X0_addStone 51 [l0, l1, l2, l3, vI x] (vI x :: st) σ Q := q3 (show fnd (pgm m_X0_addStone) 49 = some (51, 3, 0, 4, 1, []) from rfl) rfl
set_option maxRecDepth 100000 in
theorem s_X0_addStone_51 {d : Nat} {l0 l1 l2 l3 l4 : AV} {st : List AV} {a b : Int} {σ : Sg} {Q : AV → Sg → Prop}  : Rn d m_X0_addStone 51 [l0, l1, l2, l3, l4] (vI b :: vI a :: st) σ Q ↔ Rn d m_X0_addStone 52 [l0, l1, l2, l3, l4] (vI (a + b) :: st) σ Q := q10_0 (show fnd (pgm m_X0_addStone) 51 = some (52, 10, 0, 0, 0, []) from rfl)
set_option maxRecDepth 100000 in
theorem s_X0_addStone_52 {d : Nat} {l0 l2 l3 l4 : AV} {st : List AV} {x : Int} {σ : Sg} {Q : AV → Sg → Prop}  : Rn d m_X0_addStone 52 [l0, vI x, l2, l3, l4] st σ Q ↔ Rn d m_X0_addStone 53 [l0, vI x, l2, l3, l4] (vI x :: st) σ Q := q3 (show fnd (pgm m_X0_addStone) 52 = some (53, 3, 0, 1, 0, []) from rfl) rfl
set_option maxRecDepth 100000 in
theorem s_X0_addStone_53 {d : Nat} {l0 l1 l2 l4 : AV} {st : List AV} {x : Int} {σ : Sg} {Q : AV → Sg → Prop}  : Rn d m_X0_addStone 53 [l0, l1, l2, vI x, l4] st σ Q ↔ Rn d m_X0_addStone 54 [l0, l1, l2, vI x, l4] (vI x :: st) σ Q := q3 (show fnd (pgm m_X0_addStone) 53 = some (54, 3, 0, 3, 0, []) from rfl) rfl
set_option maxRecDepth 100000 in
theorem s_X0_addStone_54 {d : Nat} {l0 l1 l2 l3 : AV} {st : List AV} {x : Int} {σ : Sg} {Q : AV → Sg → Prop}  : Rn d m_X0_addStone 54 [l0, l1, l2, l3, vI x] st σ Q ↔ Rn d m_X0_addStone 56 [l0, l1, l2, l3, vI x] (vI x :: st) σ Q := q3 (show fnd (pgm m_X0_addStone) 54 = some (56, 3, 0, 4, 1, []) from rfl) rfl
set_option maxRecDepth 100000 in
theorem s_X0_addStone_56 {d : Nat} {l0 l1 l2 l3 l4 : AV} {st : List AV}  {a0 : Int} {a1 : Int} {a2 : Int} {σ : Sg} {Q : AV → Sg → Prop} (h4 : st.length ≤ 4) : Rn d m_X0_addStone 56 [l0, l1, l2, l3, l4] (vI a2 :: vI a1 :: vI a0 :: st) σ Q ↔ ∃ r σ1, Ev d m_X0_needBy [vI a0, vI a1, vI a2] σ r σ1 ∧ Rn d m_X0_addStone 59 [l0, l1, l2, l3, l4] (psh r st) σ1 Q := q35 (show fnd (pgm m_X0_addStone) 56 = some (59, 35, 59, 2, 3, []) from rfl) ⟨⟨by simp, by simpa using h4⟩, rfl⟩
set_option maxRecDepth 100000 in
theorem s_X0_addStone_59 {d : Nat} {l0 l1 l2 l3 l4 : AV} {st : List AV} {i x : Int} {o : Nat} {σ : Sg} {Q : AV → Sg → Prop} (hi : 0 ≤ w32 i ∧ w32 i < al σ 1 o) : Rn d m_X0_addStone 59 [l0, l1, l2, l3, l4] (vI x :: vI i :: vR o :: st) σ Q ↔ Rn d m_X0_addStone 60 [l0, l1, l2, l3, l4] st (up σ o (w32 i) x) Q := q29 (show fnd (pgm m_X0_addStone) 59 = some (60, 29, 0, 0, 0, []) from rfl) hi
set_option maxRecDepth 100000 in
theorem s_X0_addStone_60 {d : Nat} {l0 l1 l2 l3 : AV} {st : List AV} {x : Int} {σ : Sg} {Q : AV → Sg → Prop}  : Rn d m_X0_addStone 60 [l0, l1, l2, l3, vI x] st σ Q ↔ Rn d m_X0_addStone 63 [l0, l1, l2, l3, vI (x + 1)] st σ Q := q9 (show fnd (pgm m_X0_addStone) 60 = some (63, 9, 1, 4, 0, []) from rfl) rfl
set_option maxRecDepth 100000 in
theorem s_X0_addStone_63 {d : Nat} {l0 l1 l2 l3 l4 : AV} {st : List AV} {σ : Sg} {Q : AV → Sg → Prop}  : Rn d m_X0_addStone 63 [l0, l1, l2, l3, l4] st σ Q ↔ Rn d m_X0_addStone 33 [l0, l1, l2, l3, l4] st σ Q := q21 (show fnd (pgm m_X0_addStone) 63 = some (66, 21, 0, 0, 33, []) from rfl)
set_option maxRecDepth 100000 in
theorem s_X0_addStone_66 {d : Nat} {l1 l2 l3 l4 : AV} {st : List AV} {o : Nat} {σ : Sg} {Q : AV → Sg → Prop} (ho : o ≠ 0) : Rn d m_X0_addStone 66 [vR o, l1, l2, l3, l4] st σ Q ↔ Rn d m_X0_addStone 67 [vR o, l1, l2, l3, l4] (vR o :: st) σ Q := q5 (show fnd (pgm m_X0_addStone) 66 = some (67, 5, 0, 0, 0, []) from rfl) rfl ho
set_option maxRecDepth 100000 in
theorem s_X0_addStone_67 {d : Nat} {l0 l1 l2 l3 l4 : AV} {st : List AV} {a : Int} {σ : Sg} {Q : AV → Sg → Prop} : Rn d m_X0_addStone 67 [l0, l1, l2, l3, l4] (vI a :: st) σ Q ↔ Rn d m_X0_addStone 68 [l0, l1, l2, l3, l4] (vI a :: vI a :: st) σ Q := q17i (show fnd (pgm m_X0_addStone) 67 = some (68, 17, 0, 0, 0, []) from rfl)
set_option maxRecDepth 100000 in
theorem s_X0_addStone_67r {d : Nat} {l0 l1 l2 l3 l4 : AV} {st : List AV} {o : Nat} {σ : Sg} {Q : AV → Sg → Prop} : Rn d m_X0_addStone 67 [l0, l1, l2, l3, l4] (vR o :: st) σ Q ↔ Rn d m_X0_addStone 68 [l0, l1, l2, l3, l4] (vR o :: vR o :: st) σ Q := q17r (show fnd (pgm m_X0_addStone) 67 = some (68, 17, 0, 0, 0, []) from rfl)
set_option maxRecDepth 100000 in
theorem s_X0_addStone_68 {d : Nat} {l0 l1 l2 l3 l4 : AV} {st : List AV} {o : Nat} {σ : Sg} {Q : AV → Sg → Prop} (hk : kn σ o = (0, 0)) : Rn d m_X0_addStone 68 [l0, l1, l2, l3, l4] (vR o :: st) σ Q ↔ Rn d m_X0_addStone 71 [l0, l1, l2, l3, l4] (vI (σ o 0) :: st) σ Q := q33 (show fnd (pgm m_X0_addStone) 68 = some (71, 33, 9, 0, 0, []) from rfl) hk
set_option maxRecDepth 100000 in
theorem s_X0_addStone_71 {d : Nat} {l0 l1 l2 l3 l4 : AV} {st : List AV} {σ : Sg} {Q : AV → Sg → Prop}  : Rn d m_X0_addStone 71 [l0, l1, l2, l3, l4] st σ Q ↔ Rn d m_X0_addStone 72 [l0, l1, l2, l3, l4] (vI 1 :: st) σ Q := q0 (show fnd (pgm m_X0_addStone) 71 = some (72, 0, 1, 0, 0, []) from rfl)
set_option maxRecDepth 100000 in
theorem s_X0_addStone_72 {d : Nat} {l0 l1 l2 l3 l4 : AV} {st : List AV} {a b : Int} {σ : Sg} {Q : AV → Sg → Prop}  : Rn d m_X0_addStone 72 [l0, l1, l2, l3, l4] (vI b :: vI a :: st) σ Q ↔ Rn d m_X0_addStone 73 [l0, l1, l2, l3, l4] (vI (a + b) :: st) σ Q := q10_0 (show fnd (pgm m_X0_addStone) 72 = some (73, 10, 0, 0, 0, []) from rfl)
set_option maxRecDepth 100000 in
theorem s_X0_addStone_73 {d : Nat} {l0 l1 l2 l3 l4 : AV} {st : List AV} {o : Nat} {x : Int} {σ : Sg} {Q : AV → Sg → Prop} (hk : kn σ o = (0, 0)) : Rn d m_X0_addStone 73 [l0, l1, l2, l3, l4] (vI x :: vR o :: st) σ Q ↔ Rn d m_X0_addStone 76 [l0, l1, l2, l3, l4] st (up σ o 0 x) Q := q34i (show fnd (pgm m_X0_addStone) 73 = some (76, 34, 9, 0, 0, []) from rfl) hk rfl
set_option maxRecDepth 100000 in
theorem s_X0_addStone_76 {d : Nat} {l1 l2 l3 l4 : AV} {st : List AV} {o : Nat} {σ : Sg} {Q : AV → Sg → Prop} (ho : o ≠ 0) : Rn d m_X0_addStone 76 [vR o, l1, l2, l3, l4] st σ Q ↔ Rn d m_X0_addStone 77 [vR o, l1, l2, l3, l4] (vR o :: st) σ Q := q5 (show fnd (pgm m_X0_addStone) 76 = some (77, 5, 0, 0, 0, []) from rfl) rfl ho
set_option maxRecDepth 100000 in
theorem s_X0_addStone_77 {d : Nat} {l0 l1 l2 l3 l4 : AV} {st : List AV} {o : Nat} {σ : Sg} {Q : AV → Sg → Prop} (hk : kn σ o = (0, 0)) : Rn d m_X0_addStone 77 [l0, l1, l2, l3, l4] (vR o :: st) σ Q ↔ Rn d m_X0_addStone 80 [l0, l1, l2, l3, l4] (vI (σ o 0) :: st) σ Q := q33 (show fnd (pgm m_X0_addStone) 77 = some (80, 33, 9, 0, 0, []) from rfl) hk
set_option maxRecDepth 100000 in
theorem s_X0_addStone_80 {d : Nat} {l0 l1 l2 l3 l4 : AV} {st : List AV} {σ : Sg} {Q : AV → Sg → Prop}  : Rn d m_X0_addStone 80 [l0, l1, l2, l3, l4] st σ Q ↔ Rn d m_X0_addStone 81 [l0, l1, l2, l3, l4] (vI 1 :: st) σ Q := q0 (show fnd (pgm m_X0_addStone) 80 = some (81, 0, 1, 0, 0, []) from rfl)
set_option maxRecDepth 100000 in
theorem s_X0_addStone_81 {d : Nat} {l0 l1 l2 l3 l4 : AV} {st : List AV} {a b : Int} {σ : Sg} {Q : AV → Sg → Prop}  : Rn d m_X0_addStone 81 [l0, l1, l2, l3, l4] (vI b :: vI a :: st) σ Q ↔ Rn d m_X0_addStone 82 [l0, l1, l2, l3, l4] (vI (a - b) :: st) σ Q := q10_1 (show fnd (pgm m_X0_addStone) 81 = some (82, 10, 0, 1, 0, []) from rfl)
set_option maxRecDepth 100000 in
theorem s_X0_addStone_82 {d : Nat} {l0 l1 l2 l3 l4 : AV} {x : Int} {σ : Sg} {Q : AV → Sg → Prop}  : Rn d m_X0_addStone 82 [l0, l1, l2, l3, l4] [vI x] σ Q ↔ Q (vI x) σ := q37_1 (st := []) (show fnd (pgm m_X0_addStone) 82 = some (83, 37, 0, 1, 0, []) from rfl)
set_option maxRecDepth 100000 in
theorem en_X0_needBy {d : Nat} {a0 : Int} {a1 : Int} {a2 : Int} {σ σ0 : Sg} {r0 : AV} (h : Rn d m_X0_needBy 0 [vI a0, vI a1, vI a2, none, none] [] σ (fun r σ1 => r = r0 ∧ σ1 = σ0)) : Ev (d + 1) m_X0_needBy [vI a0, vI a1, vI a2] σ r0 σ0 := Ev_is (Nat.le_of_ble_eq_true rfl) h
set_option maxRecDepth 100000 in
theorem eo_X0_needBy {d : Nat} {a0 : Int} {a1 : Int} {a2 : Int} {σ : Sg} {Q : AV → Sg → Prop} (h : Rn d m_X0_needBy 0 [vI a0, vI a1, vI a2, none, none] [] σ Q) : ∃ r σ1, Ev (d + 1) m_X0_needBy [vI a0, vI a1, vI a2] σ r σ1 ∧ Q r σ1 := Ev_of (Nat.le_of_ble_eq_true rfl) h
set_option maxRecDepth 100000 in
theorem s_X0_needBy_0 {d : Nat} {l0 l1 l2 l3 l4 : AV} {st : List AV} {σ : Sg} {Q : AV → Sg → Prop}  : Rn d m_X0_needBy 0 [l0, l1, l2, l3, l4] st σ Q ↔ Rn d m_X0_needBy 1 [l0, l1, l2, l3, l4] (vI 4 :: st) σ Q := q0 (show fnd (pgm m_X0_needBy) 0 = some (1, 0, 4, 0, 0, []) from rfl)
set_option maxRecDepth 100000 in
theorem s_X0_needBy_1 {d : Nat} {l0 l2 l3 l4 : AV} {st : List AV} {x : Int} {σ : Sg} {Q : AV → Sg → Prop}  : Rn d m_X0_needBy 1 [l0, vI x, l2, l3, l4] st σ Q ↔ Rn d m_X0_needBy 2 [l0, vI x, l2, l3, l4] (vI x :: st) σ Q := q3 (show fnd (pgm m_X0_needBy) 1 = some (2, 3, 0, 1, 0, []) from rfl) rfl
set_option maxRecDepth 100000 in
theorem s_X0_needBy_2 {d : Nat} {l0 l1 l2 l3 l4 : AV} {st : List AV} {a b : Int} {σ : Sg} {Q : AV → Sg → Prop}  : Rn d m_X0_needBy 2 [l0, l1, l2, l3, l4] (vI b :: vI a :: st) σ Q ↔ Rn d m_X0_needBy 3 [l0, l1, l2, l3, l4] (vI (a * b) :: st) σ Q := q10_2 (show fnd (pgm m_X0_needBy) 2 = some (3, 10, 0, 2, 0, []) from rfl)
set_option maxRecDepth 100000 in
theorem s_X0_needBy_3 {d : Nat} {l0 l1 l2 l3 l4 : AV} {st : List AV} {x : Int} {σ : Sg} {Q : AV → Sg → Prop}  : Rn d m_X0_needBy 3 [l0, l1, l2, l3, l4] (vI x :: st) σ Q ↔ Rn d m_X0_needBy 4 [l0, l1, l2, vI x, l4] st σ Q := q6 (show fnd (pgm m_X0_needBy) 3 = some (4, 6, 0, 3, 0, []) from rfl) (by decide : 3 < 5)
set_option maxRecDepth 100000 in
theorem s_X0_needBy_4 {d : Nat} {l0 l1 l2 l3 l4 : AV} {st : List AV} {σ : Sg} {Q : AV → Sg → Prop}  : Rn d m_X0_needBy 4 [l0, l1, l2, l3, l4] st σ Q ↔ Rn d m_X0_needBy 5 [l0, l1, l2, l3, l4] (vI 3 :: st) σ Q := q0 (show fnd (pgm m_X0_needBy) 4 = some (5, 0, 3, 0, 0, []) from rfl)
set_option maxRecDepth 100000 in
theorem s_X0_needBy_5 {d : Nat} {l0 l1 l2 l4 : AV} {st : List AV} {x : Int} {σ : Sg} {Q : AV → Sg → Prop}  : Rn d m_X0_needBy 5 [l0, l1, l2, vI x, l4] st σ Q ↔ Rn d m_X0_needBy 6 [l0, l1, l2, vI x, l4] (vI x :: st) σ Q := q3 (show fnd (pgm m_X0_needBy) 5 = some (6, 3, 0, 3, 0, []) from rfl) rfl
set_option maxRecDepth 100000 in
theorem s_X0_needBy_6 {d : Nat} {l0 l1 l2 l3 l4 : AV} {st : List AV} {a b : Int} {σ : Sg} {Q : AV → Sg → Prop}  : Rn d m_X0_needBy 6 [l0, l1, l2, l3, l4] (vI b :: vI a :: st) σ Q ↔ Rn d m_X0_needBy 7 [l0, l1, l2, l3, l4] (vI (a * b) :: st) σ Q := q10_2 (show fnd (pgm m_X0_needBy) 6 = some (7, 10, 0, 2, 0, []) from rfl)
set_option maxRecDepth 100000 in
theorem s_X0_needBy_7 {d : Nat} {l0 l1 l2 l3 l4 : AV} {st : List AV} {x : Int} {σ : Sg} {Q : AV → Sg → Prop}  : Rn d m_X0_needBy 7 [l0, l1, l2, l3, l4] (vI x :: st) σ Q ↔ Rn d m_X0_needBy 9 [l0, l1, l2, l3, vI x] st σ Q := q6 (show fnd (pgm m_X0_needBy) 7 = some (9, 6, 0, 4, 1, []) from rfl) (by decide : 4 < 5)
set_option maxRecDepth 100000 in
theorem s_X0_needBy_9 {d : Nat} {l1 l2 l3 l4 : AV} {st : List AV} {x : Int} {σ : Sg} {Q : AV → Sg → Prop}  : Rn d m_X0_needBy 9 [vI x, l1, l2, l3, l4] st σ Q ↔ Rn d m_X0_needBy 10 [vI x, l1, l2, l3, l4] (vI x :: st) σ Q := q3 (show fnd (pgm m_X0_needBy) 9 = some (10, 3, 0, 0, 0, []) from rfl) rfl
set_option maxRecDepth 100000 in
theorem s_X0_needBy_10 {d : Nat} {l0 l1 l2 l3 l4 : AV} {st : List AV} {a : Int} {σ : Sg} {Q : AV → Sg → Prop}  : Rn d m_X0_needBy 10 [l0, l1, l2, l3, l4] (vI a :: st) σ Q ↔ Rn d m_X0_needBy (swt [(0, 75), (1, 44), (2, 59), (3, 62), (4, 67)] 75 (w32 a)) [l0, l1, l2, l3, l4] st σ Q := q24 (show fnd (pgm m_X0_needBy) 10 = some (44, 24, 0, 0, 75, [(0, 75), (1, 44), (2, 59), (3, 62), (4, 67)]) from rfl)
set_option maxRecDepth 100000 in
theorem s_X0_needBy_44 {d : Nat} {l0 l1 l3 l4 : AV} {st : List AV} {x : Int} {σ : Sg} {Q : AV → Sg → Prop}  : Rn d m_X0_needBy 44 [l0, l1, vI x, l3, l4] st σ Q ↔ Rn d m_X0_needBy 45 [l0, l1, vI x, l3, l4] (vI x :: st) σ Q := q3 (show fnd (pgm m_X0_needBy) 44 = some (45, 3, 0, 2, 0, []) from rfl) rfl
set_option maxRecDepth 100000 in
theorem s_X0_needBy_45 {d : Nat} {l0 l1 l2 l3 l4 : AV} {st : List AV} {σ : Sg} {Q : AV → Sg → Prop}  : Rn d m_X0_needBy 45 [l0, l1, l2, l3, l4] st σ Q ↔ Rn d m_X0_needBy 46 [l0, l1, l2, l3, l4] (vI 2 :: st) σ Q := q0 (show fnd (pgm m_X0_needBy) 45 = some (46, 0, 2, 0, 0, []) from rfl)
set_option maxRecDepth 100000 in
theorem s_X0_needBy_46 {d : Nat} {l0 l1 l2 l3 l4 : AV} {st : List AV} {a b : Int} {σ : Sg} {Q : AV → Sg → Prop} (h0 : w32 b ≠ 0) : Rn d m_X0_needBy 46 [l0, l1, l2, l3, l4] (vI b :: vI a :: st) σ Q ↔ Rn d m_X0_needBy 47 [l0, l1, l2, l3, l4] (vI (rem32 a b) :: st) σ Q := q10_4 (show fnd (pgm m_X0_needBy) 46 = some (47, 10, 0, 4, 0, []) from rfl) h0
set_option maxRecDepth 100000 in
theorem s_X0_needBy_47 {d : Nat} {l0 l1 l2 l3 l4 : AV} {st : List AV} {σ : Sg} {Q : AV → Sg → Prop}  : Rn d m_X0_needBy 47 [l0, l1, l2, l3, l4] st σ Q ↔ Rn d m_X0_needBy 48 [l0, l1, l2, l3, l4] (vI 1 :: st) σ Q := q0 (show fnd (pgm m_X0_needBy) 47 = some (48, 0, 1, 0, 0, []) from rfl)
set_option maxRecDepth 100000 in
theorem s_X0_needBy_48 {d : Nat} {l0 l1 l2 l3 l4 : AV} {st : List AV} {a b : Int} {σ : Sg} {Q : AV → Sg → Prop}  : Rn d m_X0_needBy 48 [l0, l1, l2, l3, l4] (vI b :: vI a :: st) σ Q ↔ if ¬ w32 a = w32 b then Rn d m_X0_needBy 57 [l0, l1, l2, l3, l4] st σ Q else Rn d m_X0_needBy 51 [l0, l1, l2, l3, l4] st σ Q := q20_1 (show fnd (pgm m_X0_needBy) 48 = some (51, 20, 0, 1, 57, []) from rfl)
set_option maxRecDepth 100000 in
theorem s_X0_needBy_51 {d : Nat} {l0 l1 l2 l3 l4 : AV} {st : List AV} {σ : Sg} {Q : AV → Sg → Prop}  : Rn d m_X0_needBy 51 [l0, l1, l2, l3, l4] st σ Q ↔ Rn d m_X0_needBy 52 [l0, l1, l2, l3, l4] (vI 2 :: st) σ Q := q0 (show fnd (pgm m_X0_needBy) 51 = some (52, 0, 2, 0, 0, []) from rfl)
set_option maxRecDepth 100000 in
theorem s_X0_needBy_52 {d : Nat} {l0 l1 l2 l4 : AV} {st : List AV} {x : Int} {σ : Sg} {Q : AV → Sg → Prop}  : Rn d m_X0_needBy 52 [l0, l1, l2, vI x, l4] st σ Q ↔ Rn d m_X0_needBy 53 [l0, l1, l2, vI x, l4] (vI x :: st) σ Q := q3 (show fnd (pgm m_X0_needBy) 52 = some (53, 3, 0, 3, 0, []) from rfl) rfl
set_option maxRecDepth 100000 in
theorem s_X0_needBy_53 {d : Nat} {l0 l1 l2 l3 l4 : AV} {st : List AV} {a b : Int} {σ : Sg} {Q : AV → Sg → Prop}  : Rn d m_X0_needBy 53 [l0, l1, l2, l3, l4] (vI b :: vI a :: st) σ Q ↔ Rn d m_X0_needBy 54 [l0, l1, l2, l3, l4] (vI (a * b) :: st) σ Q := q10_2 (show fnd (pgm m_X0_needBy) 53 = some (54, 10, 0, 2, 0, []) from rfl)
set_option maxRecDepth 100000 in
theorem s_X0_needBy_54 {d : Nat} {l0 l1 l2 l3 l4 : AV} {st : List AV} {σ : Sg} {Q : AV → Sg → Prop}  : Rn d m_X0_needBy 54 [l0, l1, l2, l3, l4] st σ Q ↔ Rn d m_X0_needBy 58 [l0, l1, l2, l3, l4] st σ Q := q21 (show fnd (pgm m_X0_needBy) 54 = some (57, 21, 0, 0, 58, []) from rfl)
set_option maxRecDepth 100000 in
theorem s_X0_needBy_57 {d : Nat} {l0 l1 l2 l4 : AV} {st : List AV} {x : Int} {σ : Sg} {Q : AV → Sg → Prop}  : Rn d m_X0_needBy 57 [l0, l1, l2, vI x, l4] st σ Q ↔ Rn d m_X0_needBy 58 [l0, l1, l2, vI x, l4] (vI x :: st) σ Q := q3 (show fnd (pgm m_X0_needBy) 57 = some (58, 3, 0, 3, 0, []) from rfl) rfl
set_option maxRecDepth 100000 in
theorem s_X0_needBy_58 {d : Nat} {l0 l1 l2 l3 l4 : AV} {x : Int} {σ : Sg} {Q : AV → Sg → Prop}  : Rn d m_X0_needBy 58 [l0, l1, l2, l3, l4] [vI x] σ Q ↔ Q (vI x) σ := q37_1 (st := []) (show fnd (pgm m_X0_needBy) 58 = some (59, 37, 0, 1, 0, []) from rfl)
set_option maxRecDepth 100000 in
theorem s_X0_needBy_59 {d : Nat} {l0 l1 l2 l3 : AV} {st : List AV} {x : Int} {σ : Sg} {Q : AV → Sg → Prop}  : Rn d m_X0_needBy 59 [l0, l1, l2, l3, vI x] st σ Q ↔ Rn d m_X0_needBy 61 [l0, l1, l2, l3, vI x] (vI x :: st) σ Q := q3 (show fnd (pgm m_X0_needBy) 59 = some (61, 3, 0, 4, 1, []) from rfl) rfl
set_option maxRecDepth 100000 in
theorem s_X0_needBy_61 {d : Nat} {l0 l1 l2 l3 l4 : AV} {x : Int} {σ : Sg} {Q : AV → Sg → Prop}  : Rn d m_X0_needBy 61 [l0, l1, l2, l3, l4] [vI x] σ Q ↔ Q (vI x) σ := q37_1 (st := []) (show fnd (pgm m_X0_needBy) 61 = some (62, 37, 0, 1, 0, []) from rfl)
set_option maxRecDepth 100000 in
theorem s_X0_needBy_62 {d : Nat} {l0 l1 l2 l3 : AV} {st : List AV} {x : Int} {σ : Sg} {Q : AV → Sg → Prop}  : Rn d m_X0_needBy 62 [l0, l1, l2, l3, vI x] st σ Q ↔ Rn d m_X0_needBy 64 [l0, l1, l2, l3, vI x] (vI x :: st) σ Q := q3 (show fnd (pgm m_X0_needBy) 62 = some (64, 3, 0, 4, 1, []) from rfl) rfl
set_option maxRecDepth 100000 in
theorem s_X0_needBy_64 {d : Nat} {l0 l1 l2 l3 l4 : AV} {st : List AV} {σ : Sg} {Q : AV → Sg → Prop}  : Rn d m_X0_needBy 64 [l0, l1, l2, l3, l4] st σ Q ↔ Rn d m_X0_needBy 65 [l0, l1, l2, l3, l4] (vI 2 :: st) σ Q := q0 (show fnd (pgm m_X0_needBy) 64 = some (65, 0, 2, 0, 0, []) from rfl)
set_option maxRecDepth 100000 in
theorem s_X0_needBy_65 {d : Nat} {l0 l1 l2 l3 l4 : AV} {st : List AV} {a b : Int} {σ : Sg} {Q : AV → Sg → Prop} (h0 : w32 b ≠ 0) : Rn d m_X0_needBy 65 [l0, l1, l2, l3, l4] (vI b :: vI a :: st) σ Q ↔ Rn d m_X0_needBy 66 [l0, l1, l2, l3, l4] (vI (div32 a b) :: st) σ Q := q10_3 (show fnd (pgm m_X0_needBy) 65 = some (66, 10, 0, 3, 0, []) from rfl) h0
set_option maxRecDepth 100000 in
theorem s_X0_needBy_66 {d : Nat} {l0 l1 l2 l3 l4 : AV} {x : Int} {σ : Sg} {Q : AV → Sg → Prop}  : Rn d m_X0_needBy 66 [l0, l1, l2, l3, l4] [vI x] σ Q ↔ Q (vI x) σ := q37_1 (st := []) (show fnd (pgm m_X0_needBy) 66 = some (67, 37, 0, 1, 0, []) from rfl)
set_option maxRecDepth 100000 in
theorem s_X0_needBy_67 {d : Nat} {l0 l1 l2 l3 : AV} {st : List AV} {x : Int} {σ : Sg} {Q : AV → Sg → Prop}  : Rn d m_X0_needBy 67 [l0, l1, l2, l3, vI x] st σ Q ↔ Rn d m_X0_needBy 69 [l0, l1, l2, l3, vI x] (vI x :: st) σ Q := q3 (show fnd (pgm m_X0_needBy) 67 = some (69, 3, 0, 4, 1, []) from rfl) rfl
set_option maxRecDepth 100000 in
theorem s_X0_needBy_69 {d : Nat} {l0 l1 l2 l3 l4 : AV} {st : List AV} {σ : Sg} {Q : AV → Sg → Prop}  : Rn d m_X0_needBy 69 [l0, l1, l2, l3, l4] st σ Q ↔ Rn d m_X0_needBy 70 [l0, l1, l2, l3, l4] (vI 2 :: st) σ Q := q0 (show fnd (pgm m_X0_needBy) 69 = some (70, 0, 2, 0, 0, []) from rfl)
set_option maxRecDepth 100000 in
theorem s_X0_needBy_70 {d : Nat} {l0 l1 l2 l3 l4 : AV} {st : List AV} {a b : Int} {σ : Sg} {Q : AV → Sg → Prop} (h0 : w32 b ≠ 0) : Rn d m_X0_needBy 70 [l0, l1, l2, l3, l4] (vI b :: vI a :: st) σ Q ↔ Rn d m_X0_needBy 71 [l0, l1, l2, l3, l4] (vI (div32 a b) :: st) σ Q := q10_3 (show fnd (pgm m_X0_needBy) 70 = some (71, 10, 0, 3, 0, []) from rfl) h0
set_option maxRecDepth 100000 in
theorem s_X0_needBy_71 {d : Nat} {l0 l1 l2 l3 l4 : AV} {st : List AV} {σ : Sg} {Q : AV → Sg → Prop}  : Rn d m_X0_needBy 71 [l0, l1, l2, l3, l4] st σ Q ↔ Rn d m_X0_needBy 73 [l0, l1, l2, l3, l4] (vI 40 :: st) σ Q := q0 (show fnd (pgm m_X0_needBy) 71 = some (73, 0, 40, 1, 0, []) from rfl)
set_option maxRecDepth 100000 in
theorem s_X0_needBy_73 {d : Nat} {l0 l1 l2 l3 l4 : AV} {st : List AV} {a b : Int} {σ : Sg} {Q : AV → Sg → Prop}  : Rn d m_X0_needBy 73 [l0, l1, l2, l3, l4] (vI b :: vI a :: st) σ Q ↔ Rn d m_X0_needBy 74 [l0, l1, l2, l3, l4] (vI (a + b) :: st) σ Q := q10_0 (show fnd (pgm m_X0_needBy) 73 = some (74, 10, 0, 0, 0, []) from rfl)
set_option maxRecDepth 100000 in
theorem s_X0_needBy_74 {d : Nat} {l0 l1 l2 l3 l4 : AV} {x : Int} {σ : Sg} {Q : AV → Sg → Prop}  : Rn d m_X0_needBy 74 [l0, l1, l2, l3, l4] [vI x] σ Q ↔ Q (vI x) σ := q37_1 (st := []) (show fnd (pgm m_X0_needBy) 74 = some (75, 37, 0, 1, 0, []) from rfl)
set_option maxRecDepth 100000 in
theorem s_X0_needBy_75 {d : Nat} {l0 l1 l2 l4 : AV} {st : List AV} {x : Int} {σ : Sg} {Q : AV → Sg → Prop}  : Rn d m_X0_needBy 75 [l0, l1, l2, vI x, l4] st σ Q ↔ Rn d m_X0_needBy 76 [l0, l1, l2, vI x, l4] (vI x :: st) σ Q := q3 (show fnd (pgm m_X0_needBy) 75 = some (76, 3, 0, 3, 0, []) from rfl) rfl
set_option maxRecDepth 100000 in
theorem s_X0_needBy_76 {d : Nat} {l0 l1 l2 l3 l4 : AV} {x : Int} {σ : Sg} {Q : AV → Sg → Prop}  : Rn d m_X0_needBy 76 [l0, l1, l2, l3, l4] [vI x] σ Q ↔ Q (vI x) σ := q37_1 (st := []) (show fnd (pgm m_X0_needBy) 76 = some (77, 37, 0, 1, 0, []) from rfl)
set_option maxRecDepth 100000 in
theorem en_X0_stepsBy {d : Nat} {o : Nat} {a0 : Int} {a1 : Int} {a2 : Int} {σ σ0 : Sg} {r0 : AV} (h : Rn d m_X0_stepsBy 0 [vR o, vI a0, vI a1, vI a2, none, none] [] σ (fun r σ1 => r = r0 ∧ σ1 = σ0)) : Ev (d + 1) m_X0_stepsBy [vR o, vI a0, vI a1, vI a2] σ r0 σ0 := Ev_is (Nat.le_of_ble_eq_true rfl) h
set_option maxRecDepth 100000 in
theorem eo_X0_stepsBy {d : Nat} {o : Nat} {a0 : Int} {a1 : Int} {a2 : Int} {σ : Sg} {Q : AV → Sg → Prop} (h : Rn d m_X0_stepsBy 0 [vR o, vI a0, vI a1, vI a2, none, none] [] σ Q) : ∃ r σ1, Ev (d + 1) m_X0_stepsBy [vR o, vI a0, vI a1, vI a2] σ r σ1 ∧ Q r σ1 := Ev_of (Nat.le_of_ble_eq_true rfl) h
set_option maxRecDepth 100000 in
theorem s_X0_stepsBy_0 {d : Nat} {l0 l1 l2 l4 l5 : AV} {st : List AV} {x : Int} {σ : Sg} {Q : AV → Sg → Prop}  : Rn d m_X0_stepsBy 0 [l0, l1, l2, vI x, l4, l5] st σ Q ↔ Rn d m_X0_stepsBy 1 [l0, l1, l2, vI x, l4, l5] (vI x :: st) σ Q := q3 (show fnd (pgm m_X0_stepsBy) 0 = some (1, 3, 0, 3, 0, []) from rfl) rfl
set_option maxRecDepth 100000 in
theorem s_X0_stepsBy_1 {d : Nat} {l1 l2 l3 l4 l5 : AV} {st : List AV} {o : Nat} {σ : Sg} {Q : AV → Sg → Prop} (ho : o ≠ 0) : Rn d m_X0_stepsBy 1 [vR o, l1, l2, l3, l4, l5] st σ Q ↔ Rn d m_X0_stepsBy 2 [vR o, l1, l2, l3, l4, l5] (vR o :: st) σ Q := q5 (show fnd (pgm m_X0_stepsBy) 1 = some (2, 5, 0, 0, 0, []) from rfl) rfl ho
set_option maxRecDepth 100000 in
theorem s_X0_stepsBy_2 {d : Nat} {l0 l1 l2 l3 l4 l5 : AV} {st : List AV} {o : Nat} {σ : Sg} {Q : AV → Sg → Prop} (hk : kn σ o = (0, 0)) : Rn d m_X0_stepsBy 2 [l0, l1, l2, l3, l4, l5] (vR o :: st) σ Q ↔ Rn d m_X0_stepsBy 5 [l0, l1, l2, l3, l4, l5] (vR (tp o 4) :: st) σ Q := q33 (show fnd (pgm m_X0_stepsBy) 2 = some (5, 33, 25, 0, 4, []) from rfl) hk
set_option maxRecDepth 100000 in
theorem s_X0_stepsBy_5 {d : Nat} {l0 l1 l2 l3 l4 l5 : AV} {st : List AV} {σ : Sg} {Q : AV → Sg → Prop}  : Rn d m_X0_stepsBy 5 [l0, l1, l2, l3, l4, l5] st σ Q ↔ Rn d m_X0_stepsBy 6 [l0, l1, l2, l3, l4, l5] (vI 4 :: st) σ Q := q0 (show fnd (pgm m_X0_stepsBy) 5 = some (6, 0, 4, 0, 0, []) from rfl)
set_option maxRecDepth 100000 in
theorem s_X0_stepsBy_6 {d : Nat} {l0 l2 l3 l4 l5 : AV} {st : List AV} {x : Int} {σ : Sg} {Q : AV → Sg → Prop}  : Rn d m_X0_stepsBy 6 [l0, vI x, l2, l3, l4, l5] st σ Q ↔ Rn d m_X0_stepsBy 7 [l0, vI x, l2, l3, l4, l5] (vI x :: st) σ Q := q3 (show fnd (pgm m_X0_stepsBy) 6 = some (7, 3, 0, 1, 0, []) from rfl) rfl
set_option maxRecDepth 100000 in
theorem s_X0_stepsBy_7 {d : Nat} {l0 l1 l2 l3 l4 l5 : AV} {st : List AV} {a b : Int} {σ : Sg} {Q : AV → Sg → Prop}  : Rn d m_X0_stepsBy 7 [l0, l1, l2, l3, l4, l5] (vI b :: vI a :: st) σ Q ↔ Rn d m_X0_stepsBy 8 [l0, l1, l2, l3, l4, l5] (vI (a * b) :: st) σ Q := q10_2 (show fnd (pgm m_X0_stepsBy) 7 = some (8, 10, 0, 2, 0, []) from rfl)
set_option maxRecDepth 100000 in
theorem s_X0_stepsBy_8 {d : Nat} {l0 l1 l3 l4 l5 : AV} {st : List AV} {x : Int} {σ : Sg} {Q : AV → Sg → Prop}  : Rn d m_X0_stepsBy 8 [l0, l1, vI x, l3, l4, l5] st σ Q ↔ Rn d m_X0_stepsBy 9 [l0, l1, vI x, l3, l4, l5] (vI x :: st) σ Q := q3 (show fnd (pgm m_X0_stepsBy) 8 = some (9, 3, 0, 2, 0, []) from rfl) rfl
set_option maxRecDepth 100000 in
theorem s_X0_stepsBy_9 {d : Nat} {l0 l1 l2 l3 l4 l5 : AV} {st : List AV} {a b : Int} {σ : Sg} {Q : AV → Sg → Prop}  : Rn d m_X0_stepsBy 9 [l0, l1, l2, l3, l4, l5] (vI b :: vI a :: st) σ Q ↔ Rn d m_X0_stepsBy 10 [l0, l1, l2, l3, l4, l5] (vI (a + b) :: st) σ Q := q10_0 (show fnd (pgm m_X0_stepsBy) 9 = some (10, 10, 0, 0, 0, []) from rfl)
set_option maxRecDepth 100000 in
theorem s_X0_stepsBy_10 {d : Nat} {l0 l1 l2 l3 l4 l5 : AV} {st : List AV} {i : Int} {o : Nat} {σ : Sg} {Q : AV → Sg → Prop} (hi : 0 ≤ w32 i ∧ w32 i < al σ 1 o) : Rn d m_X0_stepsBy 10 [l0, l1, l2, l3, l4, l5] (vI i :: vR o :: st) σ Q ↔ Rn d m_X0_stepsBy 11 [l0, l1, l2, l3, l4, l5] (vI (σ o (w32 i)) :: st) σ Q := q25 (show fnd (pgm m_X0_stepsBy) 10 = some (11, 25, 0, 0, 0, []) from rfl) hi
set_option maxRecDepth 100000 in
theorem s_X0_stepsBy_11 {d : Nat} {l0 l1 l2 l3 l4 l5 : AV} {st : List AV} {a b : Int} {σ : Sg} {Q : AV → Sg → Prop}  : Rn d m_X0_stepsBy 11 [l0, l1, l2, l3, l4, l5] (vI b :: vI a :: st) σ Q ↔ Rn d m_X0_stepsBy 12 [l0, l1, l2, l3, l4, l5] (vI (a - b) :: st) σ Q := q10_1 (show fnd (pgm m_X0_stepsBy) 11 = some (12, 10, 0, 1, 0, []) from rfl)
set_option maxRecDepth 100000 in
theorem s_X0_stepsBy_12 {d : Nat} {l0 l1 l2 l3 l4 l5 : AV} {st : List AV} {x : Int} {σ : Sg} {Q : AV → Sg → Prop}  : Rn d m_X0_stepsBy 12 [l0, l1, l2, l3, l4, l5] (vI x :: st) σ Q ↔ Rn d m_X0_stepsBy 14 [l0, l1, l2, l3, vI x, l5] st σ Q := q6 (show fnd (pgm m_X0_stepsBy) 12 = some (14, 6, 0, 4, 1, []) from rfl) (by decide : 4 < 6)
set_option maxRecDepth 100000 in
theorem s_X0_stepsBy_14 {d : Nat} {l0 l1 l2 l3 l5 : AV} {st : List AV} {x : Int} {σ : Sg} {Q : AV → Sg → Prop}  : Rn d m_X0_stepsBy 14 [l0, l1, l2, l3, vI x, l5] st σ Q ↔ Rn d m_X0_stepsBy 16 [l0, l1, l2, l3, vI x, l5] (vI x :: st) σ Q := q3 (show fnd (pgm m_X0_stepsBy) 14 = some (16, 3, 0, 4, 1, []) from rfl) rfl
set_option maxRecDepth 100000 in
theorem s_X0_stepsBy_16 {d : Nat} {l0 l1 l2 l3 l4 l5 : AV} {st : List AV} {a : Int} {σ : Sg} {Q : AV → Sg → Prop}  : Rn d m_X0_stepsBy 16 [l0, l1, l2, l3, l4, l5] (vI a :: st) σ Q ↔ if 0 ≤ w32 a then Rn d m_X0_stepsBy 21 [l0, l1, l2, l3, l4, l5] st σ Q else Rn d m_X0_stepsBy 19 [l0, l1, l2, l3, l4, l5] st σ Q := q19_3 (show fnd (pgm m_X0_stepsBy) 16 = some (19, 19, 0, 3, 21, []) from rfl)
set_option maxRecDepth 100000 in
theorem s_X0_stepsBy_19 {d : Nat} {l0 l1 l2 l3 l4 l5 : AV} {st : List AV} {σ : Sg} {Q : AV → Sg → Prop}  : Rn d m_X0_stepsBy 19 [l0, l1, l2, l3, l4, l5] st σ Q ↔ Rn d m_X0_stepsBy 20 [l0, l1, l2, l3, l4, l5] (vI 0 :: st) σ Q := q0 (show fnd (pgm m_X0_stepsBy) 19 = some (20, 0, 0, 0, 0, []) from rfl)
set_option maxRecDepth 100000 in
theorem s_X0_stepsBy_20 {d : Nat} {l0 l1 l2 l3 l4 l5 : AV} {x : Int} {σ : Sg} {Q : AV → Sg → Prop}  : Rn d m_X0_stepsBy 20 [l0, l1, l2, l3, l4, l5] [vI x] σ Q ↔ Q (vI x) σ := q37_1 (st := []) (show fnd (pgm m_X0_stepsBy) 20 = some (21, 37, 0, 1, 0, []) from rfl)
set_option maxRecDepth 100000 in
theorem s_X0_stepsBy_21 {d : Nat} {l0 l1 l2 l3 l5 : AV} {st : List AV} {x : Int} {σ : Sg} {Q : AV → Sg → Prop}  : Rn d m_X0_stepsBy 21 [l0, l1, l2, l3, vI x, l5] st σ Q ↔ Rn d m_X0_stepsBy 23 [l0, l1, l2, l3, vI x, l5] (vI x :: st) σ Q := q3 (show fnd (pgm m_X0_stepsBy) 21 = some (23, 3, 0, 4, 1, []) from rfl) rfl
set_option maxRecDepth 100000 in
theorem s_X0_stepsBy_23 {d : Nat} {l0 l1 l2 l3 l4 l5 : AV} {st : List AV} {σ : Sg} {Q : AV → Sg → Prop}  : Rn d m_X0_stepsBy 23 [l0, l1, l2, l3, l4, l5] st σ Q ↔ Rn d m_X0_stepsBy 24 [l0, l1, l2, l3, l4, l5] (vI 1 :: st) σ Q := q0 (show fnd (pgm m_X0_stepsBy) 23 = some (24, 0, 1, 0, 0, []) from rfl)
set_option maxRecDepth 100000 in
theorem s_X0_stepsBy_24 {d : Nat} {l0 l1 l2 l3 l4 l5 : AV} {st : List AV} {σ : Sg} {Q : AV → Sg → Prop}  : Rn d m_X0_stepsBy 24 [l0, l1, l2, l3, l4, l5] st σ Q ↔ Rn d m_X0_stepsBy 25 [l0, l1, l2, l3, l4, l5] (vI 4 :: st) σ Q := q0 (show fnd (pgm m_X0_stepsBy) 24 = some (25, 0, 4, 0, 0, []) from rfl)
set_option maxRecDepth 100000 in
theorem s_X0_stepsBy_25 {d : Nat} {l1 l2 l3 l4 l5 : AV} {st : List AV} {o : Nat} {σ : Sg} {Q : AV → Sg → Prop} (ho : o ≠ 0) : Rn d m_X0_stepsBy 25 [vR o, l1, l2, l3, l4, l5] st σ Q ↔ Rn d m_X0_stepsBy 26 [vR o, l1, l2, l3, l4, l5] (vR o :: st) σ Q := q5 (show fnd (pgm m_X0_stepsBy) 25 = some (26, 5, 0, 0, 0, []) from rfl) rfl ho
set_option maxRecDepth 100000 in
theorem s_X0_stepsBy_26 {d : Nat} {l0 l1 l2 l3 l4 l5 : AV} {st : List AV} {o : Nat} {σ : Sg} {Q : AV → Sg → Prop} (hk : kn σ o = (0, 0)) : Rn d m_X0_stepsBy 26 [l0, l1, l2, l3, l4, l5] (vR o :: st) σ Q ↔ Rn d m_X0_stepsBy 29 [l0, l1, l2, l3, l4, l5] (vR (tp o 3) :: st) σ Q := q33 (show fnd (pgm m_X0_stepsBy) 26 = some (29, 33, 22, 0, 3, []) from rfl) hk
set_option maxRecDepth 100000 in
theorem s_X0_stepsBy_29 {d : Nat} {l0 l2 l3 l4 l5 : AV} {st : List AV} {x : Int} {σ : Sg} {Q : AV → Sg → Prop}  : Rn d m_X0_stepsBy 29 [l0, vI x, l2, l3, l4, l5] st σ Q ↔ Rn d m_X0_stepsBy 30 [l0, vI x, l2, l3, l4, l5] (vI x :: st) σ Q := q3 (show fnd (pgm m_X0_stepsBy) 29 = some (30, 3, 0, 1, 0, []) from rfl) rfl
set_option maxRecDepth 100000 in
theorem s_X0_stepsBy_30 {d : Nat} {l0 l1 l2 l3 l4 l5 : AV} {st : List AV} {i : Int} {o : Nat} {σ : Sg} {Q : AV → Sg → Prop} (hi : 0 ≤ w32 i ∧ w32 i < al σ 1 o) : Rn d m_X0_stepsBy 30 [l0, l1, l2, l3, l4, l5] (vI i :: vR o :: st) σ Q ↔ Rn d m_X0_stepsBy 31 [l0, l1, l2, l3, l4, l5] (vI (σ o (w32 i)) :: st) σ Q := q25 (show fnd (pgm m_X0_stepsBy) 30 = some (31, 25, 0, 0, 0, []) from rfl) hi
set_option maxRecDepth 100000 in
theorem s_X0_stepsBy_31 {d : Nat} {l0 l1 l2 l3 l4 l5 : AV} {st : List AV} {a b : Int} {σ : Sg} {Q : AV → Sg → Prop}  : Rn d m_X0_stepsBy 31 [l0, l1, l2, l3, l4, l5] (vI b :: vI a :: st) σ Q ↔ Rn d m_X0_stepsBy 32 [l0, l1, l2, l3, l4, l5] (vI (a * b) :: st) σ Q := q10_2 (show fnd (pgm m_X0_stepsBy) 31 = some (32, 10, 0, 2, 0, []) from rfl)
set_option maxRecDepth 100000 in
theorem s_X0_stepsBy_32 {d : Nat} {l0 l1 l2 l3 l4 l5 : AV} {st : List AV} {a b : Int} {σ : Sg} {Q : AV → Sg → Prop} (h4 : st.length ≤ 4) : Rn d m_X0_stepsBy 32 [l0, l1, l2, l3, l4, l5] (vI b :: vI a :: st) σ Q ↔ Rn d m_X0_stepsBy 35 [l0, l1, l2, l3, l4, l5] (vI (if w32 a < w32 b then b else a) :: st) σ Q := q43 (show fnd (pgm m_X0_stepsBy) 32 = some (35, 43, 63, 0, 0, []) from rfl) h4
set_option maxRecDepth 100000 in
theorem s_X0_stepsBy_35 {d : Nat} {l0 l1 l2 l3 l4 l5 : AV} {st : List AV} {a b : Int} {σ : Sg} {Q : AV → Sg → Prop} (h0 : w32 b ≠ 0) : Rn d m_X0_stepsBy 35 [l0, l1, l2, l3, l4, l5] (vI b :: vI a :: st) σ Q ↔ Rn d m_X0_stepsBy 36 [l0, l1, l2, l3, l4, l5] (vI (div32 a b) :: st) σ Q := q10_3 (show fnd (pgm m_X0_stepsBy) 35 = some (36, 10, 0, 3, 0, []) from rfl) h0
set_option maxRecDepth 100000 in
theorem s_X0_stepsBy_36 {d : Nat} {l0 l1 l2 l3 l4 l5 : AV} {st : List AV} {x : Int} {σ : Sg} {Q : AV → Sg → Prop}  : Rn d m_X0_stepsBy 36 [l0, l1, l2, l3, l4, l5] (vI x :: st) σ Q ↔ Rn d m_X0_stepsBy 38 [l0, l1, l2, l3, l4, vI x] st σ Q := q6 (show fnd (pgm m_X0_stepsBy) 36 = some (38, 6, 0, 5, 1, []) from rfl) (by decide : 5 < 6)
set_option maxRecDepth 100000 in
theorem s_X0_stepsBy_38 {d : Nat} {l0 l1 l2 l3 l4 l5 : AV} {st : List AV} {σ : Sg} {Q : AV → Sg → Prop}  : Rn d m_X0_stepsBy 38 [l0, l1, l2, l3, l4, l5] st σ Q ↔ Rn d m_X0_stepsBy 40 [l0, l1, l2, l3, l4, l5] (vI 9 :: st) σ Q := q0 (show fnd (pgm m_X0_stepsBy) 38 = some (40, 0, 9, 1, 0, []) from rfl)
set_option maxRecDepth 100000 in
theorem s_X0_stepsBy_40 {d : Nat} {l0 l1 l2 l3 l4 l5 : AV} {st : List AV} {σ : Sg} {Q : AV → Sg → Prop}  : Rn d m_X0_stepsBy 40 [l0, l1, l2, l3, l4, l5] st σ Q ↔ Rn d m_X0_stepsBy 41 [l0, l1, l2, l3, l4, l5] (vI 1 :: st) σ Q := q0 (show fnd (pgm m_X0_stepsBy) 40 = some (41, 0, 1, 0, 0, []) from rfl)
set_option maxRecDepth 100000 in
theorem s_X0_stepsBy_41 {d : Nat} {l0 l1 l2 l3 l4 : AV} {st : List AV} {x : Int} {σ : Sg} {Q : AV → Sg → Prop}  : Rn d m_X0_stepsBy 41 [l0, l1, l2, l3, l4, vI x] st σ Q ↔ Rn d m_X0_stepsBy 43 [l0, l1, l2, l3, l4, vI x] (vI x :: st) σ Q := q3 (show fnd (pgm m_X0_stepsBy) 41 = some (43, 3, 0, 5, 1, []) from rfl) rfl
set_option maxRecDepth 100000 in
theorem s_X0_stepsBy_43 {d : Nat} {l0 l1 l2 l3 l4 l5 : AV} {st : List AV} {a b : Int} {σ : Sg} {Q : AV → Sg → Prop}  : Rn d m_X0_stepsBy 43 [l0, l1, l2, l3, l4, l5] (vI b :: vI a :: st) σ Q ↔ Rn d m_X0_stepsBy 44 [l0, l1, l2, l3, l4, l5] (vI (a + b) :: st) σ Q := q10_0 (show fnd (pgm m_X0_stepsBy) 43 = some (44, 10, 0, 0, 0, []) from rfl)
set_option maxRecDepth 100000 in
theorem s_X0_stepsBy_44 {d : Nat} {l0 l1 l2 l3 l4 l5 : AV} {st : List AV} {a b : Int} {σ : Sg} {Q : AV → Sg → Prop} (h4 : st.length ≤ 4) : Rn d m_X0_stepsBy 44 [l0, l1, l2, l3, l4, l5] (vI b :: vI a :: st) σ Q ↔ Rn d m_X0_stepsBy 47 [l0, l1, l2, l3, l4, l5] (vI (if w32 b < w32 a then b else a) :: st) σ Q := q44 (show fnd (pgm m_X0_stepsBy) 44 = some (47, 44, 69, 0, 0, []) from rfl) h4
set_option maxRecDepth 100000 in
theorem s_X0_stepsBy_47 {d : Nat} {l0 l1 l2 l3 l4 l5 : AV} {x : Int} {σ : Sg} {Q : AV → Sg → Prop}  : Rn d m_X0_stepsBy 47 [l0, l1, l2, l3, l4, l5] [vI x] σ Q ↔ Q (vI x) σ := q37_1 (st := []) (show fnd (pgm m_X0_stepsBy) 47 = some (48, 37, 0, 1, 0, []) from rfl)
set_option maxRecDepth 100000 in
theorem en_X0_alikeBy {d : Nat} {o : Nat} {a0 : Int} {a1 : Int} {a2 : Int} {σ σ0 : Sg} {r0 : AV} (h : Rn d m_X0_alikeBy 0 [vR o, vI a0, vI a1, vI a2, none, none] [] σ (fun r σ1 => r = r0 ∧ σ1 = σ0)) : Ev (d + 1) m_X0_alikeBy [vR o, vI a0, vI a1, vI a2] σ r0 σ0 := Ev_is (Nat.le_of_ble_eq_true rfl) h
set_option maxRecDepth 100000 in
theorem eo_X0_alikeBy {d : Nat} {o : Nat} {a0 : Int} {a1 : Int} {a2 : Int} {σ : Sg} {Q : AV → Sg → Prop} (h : Rn d m_X0_alikeBy 0 [vR o, vI a0, vI a1, vI a2, none, none] [] σ Q) : ∃ r σ1, Ev (d + 1) m_X0_alikeBy [vR o, vI a0, vI a1, vI a2] σ r σ1 ∧ Q r σ1 := Ev_of (Nat.le_of_ble_eq_true rfl) h
set_option maxRecDepth 100000 in
theorem s_X0_alikeBy_0 {d : Nat} {l0 l1 l2 l3 l4 l5 : AV} {st : List AV} {σ : Sg} {Q : AV → Sg → Prop}  : Rn d m_X0_alikeBy 0 [l0, l1, l2, l3, l4, l5] st σ Q ↔ Rn d m_X0_alikeBy 1 [l0, l1, l2, l3, l4, l5] (vI 0 :: st) σ Q := q0 (show fnd (pgm m_X0_alikeBy) 0 = some (1, 0, 0, 0, 0, []) from rfl)
set_option maxRecDepth 100000 in
theorem s_X0_alikeBy_1 {d : Nat} {l0 l1 l2 l3 l4 l5 : AV} {st : List AV} {x : Int} {σ : Sg} {Q : AV → Sg → Prop}  : Rn d m_X0_alikeBy 1 [l0, l1, l2, l3, l4, l5] (vI x :: st) σ Q ↔ Rn d m_X0_alikeBy 3 [l0, l1, l2, l3, vI x, l5] st σ Q := q6 (show fnd (pgm m_X0_alikeBy) 1 = some (3, 6, 0, 4, 1, []) from rfl) (by decide : 4 < 6)
set_option maxRecDepth 100000 in
theorem s_X0_alikeBy_3 {d : Nat} {l0 l1 l2 l3 l5 : AV} {st : List AV} {x : Int} {σ : Sg} {Q : AV → Sg → Prop}  : Rn d m_X0_alikeBy 3 [l0, l1, l2, l3, vI x, l5] st σ Q ↔ Rn d m_X0_alikeBy 5 [l0, l1, l2, l3, vI x, l5] (vI x :: st) σ Q := q3 (show fnd (pgm m_X0_alikeBy) 3 = some (5, 3, 0, 4, 1, []) from rfl) rfl
set_option maxRecDepth 100000 in
theorem s_X0_alikeBy_5 {d : Nat} {l1 l2 l3 l4 l5 : AV} {st : List AV} {o : Nat} {σ : Sg} {Q : AV → Sg → Prop} (ho : o ≠ 0) : Rn d m_X0_alikeBy 5 [vR o, l1, l2, l3, l4, l5] st σ Q ↔ Rn d m_X0_alikeBy 6 [vR o, l1, l2, l3, l4, l5] (vR o :: st) σ Q := q5 (show fnd (pgm m_X0_alikeBy) 5 = some (6, 5, 0, 0, 0, []) from rfl) rfl ho
set_option maxRecDepth 100000 in
theorem s_X0_alikeBy_6 {d : Nat} {l0 l1 l2 l3 l4 l5 : AV} {st : List AV} {o : Nat} {σ : Sg} {Q : AV → Sg → Prop} (hk : kn σ o = (0, 0)) : Rn d m_X0_alikeBy 6 [l0, l1, l2, l3, l4, l5] (vR o :: st) σ Q ↔ Rn d m_X0_alikeBy 9 [l0, l1, l2, l3, l4, l5] (vI (σ o 0) :: st) σ Q := q33 (show fnd (pgm m_X0_alikeBy) 6 = some (9, 33, 9, 0, 0, []) from rfl) hk
set_option maxRecDepth 100000 in
theorem s_X0_alikeBy_9 {d : Nat} {l0 l1 l2 l3 l4 l5 : AV} {st : List AV} {a b : Int} {σ : Sg} {Q : AV → Sg → Prop}  : Rn d m_X0_alikeBy 9 [l0, l1, l2, l3, l4, l5] (vI b :: vI a :: st) σ Q ↔ if w32 b ≤ w32 a then Rn d m_X0_alikeBy 81 [l0, l1, l2, l3, l4, l5] st σ Q else Rn d m_X0_alikeBy 12 [l0, l1, l2, l3, l4, l5] st σ Q := q20_3 (show fnd (pgm m_X0_alikeBy) 9 = some (12, 20, 0, 3, 81, []) from rfl)
set_option maxRecDepth 100000 in
theorem s_X0_alikeBy_12 {d : Nat} {l1 l2 l3 l4 l5 : AV} {st : List AV} {o : Nat} {σ : Sg} {Q : AV → Sg → Prop} (ho : o ≠ 0) : Rn d m_X0_alikeBy 12 [vR o, l1, l2, l3, l4, l5] st σ Q ↔ Rn d m_X0_alikeBy 13 [vR o, l1, l2, l3, l4, l5] (vR o :: st) σ Q := q5 (show fnd (pgm m_X0_alikeBy) 12 = some (13, 5, 0, 0, 0, []) from rfl) rfl ho
set_option maxRecDepth 100000 in
theorem s_X0_alikeBy_13 {d : Nat} {l0 l1 l2 l3 l4 l5 : AV} {st : List AV} {o : Nat} {σ : Sg} {Q : AV → Sg → Prop} (hk : kn σ o = (0, 0)) : Rn d m_X0_alikeBy 13 [l0, l1, l2, l3, l4, l5] (vR o :: st) σ Q ↔ Rn d m_X0_alikeBy 16 [l0, l1, l2, l3, l4, l5] (vR (tp o 4) :: st) σ Q := q33 (show fnd (pgm m_X0_alikeBy) 13 = some (16, 33, 25, 0, 4, []) from rfl) hk
set_option maxRecDepth 100000 in
theorem s_X0_alikeBy_16 {d : Nat} {l0 l1 l2 l3 l4 l5 : AV} {st : List AV} {σ : Sg} {Q : AV → Sg → Prop}  : Rn d m_X0_alikeBy 16 [l0, l1, l2, l3, l4, l5] st σ Q ↔ Rn d m_X0_alikeBy 17 [l0, l1, l2, l3, l4, l5] (vI 4 :: st) σ Q := q0 (show fnd (pgm m_X0_alikeBy) 16 = some (17, 0, 4, 0, 0, []) from rfl)
set_option maxRecDepth 100000 in
theorem s_X0_alikeBy_17 {d : Nat} {l0 l1 l2 l3 l5 : AV} {st : List AV} {x : Int} {σ : Sg} {Q : AV → Sg → Prop}  : Rn d m_X0_alikeBy 17 [l0, l1, l2, l3, vI x, l5] st σ Q ↔ Rn d m_X0_alikeBy 19 [l0, l1, l2, l3, vI x, l5] (vI x :: st) σ Q := q3 (show fnd (pgm m_X0_alikeBy) 17 = some (19, 3, 0, 4, 1, []) from rfl) rfl
set_option maxRecDepth 100000 in
theorem s_X0_alikeBy_19 {d : Nat} {l0 l1 l2 l3 l4 l5 : AV} {st : List AV} {a b : Int} {σ : Sg} {Q : AV → Sg → Prop}  : Rn d m_X0_alikeBy 19 [l0, l1, l2, l3, l4, l5] (vI b :: vI a :: st) σ Q ↔ Rn d m_X0_alikeBy 20 [l0, l1, l2, l3, l4, l5] (vI (a * b) :: st) σ Q := q10_2 (show fnd (pgm m_X0_alikeBy) 19 = some (20, 10, 0, 2, 0, []) from rfl)
set_option maxRecDepth 100000 in
theorem s_X0_alikeBy_20 {d : Nat} {l0 l1 l2 l4 l5 : AV} {st : List AV} {x : Int} {σ : Sg} {Q : AV → Sg → Prop}  : Rn d m_X0_alikeBy 20 [l0, l1, l2, vI x, l4, l5] st σ Q ↔ Rn d m_X0_alikeBy 21 [l0, l1, l2, vI x, l4, l5] (vI x :: st) σ Q := q3 (show fnd (pgm m_X0_alikeBy) 20 = some (21, 3, 0, 3, 0, []) from rfl) rfl
set_option maxRecDepth 100000 in
theorem s_X0_alikeBy_21 {d : Nat} {l0 l1 l2 l3 l4 l5 : AV} {st : List AV} {σ : Sg} {Q : AV → Sg → Prop}  : Rn d m_X0_alikeBy 21 [l0, l1, l2, l3, l4, l5] st σ Q ↔ Rn d m_X0_alikeBy 22 [l0, l1, l2, l3, l4, l5] (vI 1 :: st) σ Q := q0 (show fnd (pgm m_X0_alikeBy) 21 = some (22, 0, 1, 0, 0, []) from rfl)
set_option maxRecDepth 100000 in
theorem s_X0_alikeBy_22 {d : Nat} {l0 l1 l2 l3 l4 l5 : AV} {st : List AV} {a b : Int} {σ : Sg} {Q : AV → Sg → Prop}  : Rn d m_X0_alikeBy 22 [l0, l1, l2, l3, l4, l5] (vI b :: vI a :: st) σ Q ↔ Rn d m_X0_alikeBy 23 [l0, l1, l2, l3, l4, l5] (vI (a + b) :: st) σ Q := q10_0 (show fnd (pgm m_X0_alikeBy) 22 = some (23, 10, 0, 0, 0, []) from rfl)
set_option maxRecDepth 100000 in
theorem s_X0_alikeBy_23 {d : Nat} {l0 l1 l2 l3 l4 l5 : AV} {st : List AV} {σ : Sg} {Q : AV → Sg → Prop}  : Rn d m_X0_alikeBy 23 [l0, l1, l2, l3, l4, l5] st σ Q ↔ Rn d m_X0_alikeBy 24 [l0, l1, l2, l3, l4, l5] (vI 4 :: st) σ Q := q0 (show fnd (pgm m_X0_alikeBy) 23 = some (24, 0, 4, 0, 0, []) from rfl)
set_option maxRecDepth 100000 in
theorem s_X0_alikeBy_24 {d : Nat} {l0 l1 l2 l3 l4 l5 : AV} {st : List AV} {a b : Int} {σ : Sg} {Q : AV → Sg → Prop} (h0 : w32 b ≠ 0) : Rn d m_X0_alikeBy 24 [l0, l1, l2, l3, l4, l5] (vI b :: vI a :: st) σ Q ↔ Rn d m_X0_alikeBy 25 [l0, l1, l2, l3, l4, l5] (vI (rem32 a b) :: st) σ Q := q10_4 (show fnd (pgm m_X0_alikeBy) 24 = some (25, 10, 0, 4, 0, []) from rfl) h0
set_option maxRecDepth 100000 in
theorem s_X0_alikeBy_25 {d : Nat} {l0 l1 l2 l3 l4 l5 : AV} {st : List AV} {a b : Int} {σ : Sg} {Q : AV → Sg → Prop}  : Rn d m_X0_alikeBy 25 [l0, l1, l2, l3, l4, l5] (vI b :: vI a :: st) σ Q ↔ Rn d m_X0_alikeBy 26 [l0, l1, l2, l3, l4, l5] (vI (a + b) :: st) σ Q := q10_0 (show fnd (pgm m_X0_alikeBy) 25 = some (26, 10, 0, 0, 0, []) from rfl)
set_option maxRecDepth 100000 in
theorem s_X0_alikeBy_26 {d : Nat} {l0 l1 l2 l3 l4 l5 : AV} {st : List AV} {i : Int} {o : Nat} {σ : Sg} {Q : AV → Sg → Prop} (hi : 0 ≤ w32 i ∧ w32 i < al σ 1 o) : Rn d m_X0_alikeBy 26 [l0, l1, l2, l3, l4, l5] (vI i :: vR o :: st) σ Q ↔ Rn d m_X0_alikeBy 27 [l0, l1, l2, l3, l4, l5] (vI (σ o (w32 i)) :: st) σ Q := q25 (show fnd (pgm m_X0_alikeBy) 26 = some (27, 25, 0, 0, 0, []) from rfl) hi
set_option maxRecDepth 100000 in
theorem s_X0_alikeBy_27 {d : Nat} {l0 l1 l2 l3 l4 l5 : AV} {st : List AV} {x : Int} {σ : Sg} {Q : AV → Sg → Prop}  : Rn d m_X0_alikeBy 27 [l0, l1, l2, l3, l4, l5] (vI x :: st) σ Q ↔ Rn d m_X0_alikeBy 29 [l0, l1, l2, l3, l4, vI x] st σ Q := q6 (show fnd (pgm m_X0_alikeBy) 27 = some (29, 6, 0, 5, 1, []) from rfl) (by decide : 5 < 6)
set_option maxRecDepth 100000 in
theorem s_X0_alikeBy_29 {d : Nat} {l1 l2 l3 l4 l5 : AV} {st : List AV} {o : Nat} {σ : Sg} {Q : AV → Sg → Prop} (ho : o ≠ 0) : Rn d m_X0_alikeBy 29 [vR o, l1, l2, l3, l4, l5] st σ Q ↔ Rn d m_X0_alikeBy 30 [vR o, l1, l2, l3, l4, l5] (vR o :: st) σ Q := q5 (show fnd (pgm m_X0_alikeBy) 29 = some (30, 5, 0, 0, 0, []) from rfl) rfl ho
set_option maxRecDepth 100000 in
theorem s_X0_alikeBy_30 {d : Nat} {l0 l1 l2 l3 l5 : AV} {st : List AV} {x : Int} {σ : Sg} {Q : AV → Sg → Prop}  : Rn d m_X0_alikeBy 30 [l0, l1, l2, l3, vI x, l5] st σ Q ↔ Rn d m_X0_alikeBy 32 [l0, l1, l2, l3, vI x, l5] (vI x :: st) σ Q := q3 (show fnd (pgm m_X0_alikeBy) 30 = some (32, 3, 0, 4, 1, []) from rfl) rfl
set_option maxRecDepth 100000 in
theorem s_X0_alikeBy_32 {d : Nat} {l0 l1 l2 l4 l5 : AV} {st : List AV} {x : Int} {σ : Sg} {Q : AV → Sg → Prop}  : Rn d m_X0_alikeBy 32 [l0, l1, l2, vI x, l4, l5] st σ Q ↔ Rn d m_X0_alikeBy 33 [l0, l1, l2, vI x, l4, l5] (vI x :: st) σ Q := q3 (show fnd (pgm m_X0_alikeBy) 32 = some (33, 3, 0, 3, 0, []) from rfl) rfl
set_option maxRecDepth 100000 in
theorem s_X0_alikeBy_33 {d : Nat} {l0 l2 l3 l4 l5 : AV} {st : List AV} {x : Int} {σ : Sg} {Q : AV → Sg → Prop}  : Rn d m_X0_alikeBy 33 [l0, vI x, l2, l3, l4, l5] st σ Q ↔ Rn d m_X0_alikeBy 34 [l0, vI x, l2, l3, l4, l5] (vI x :: st) σ Q := q3 (show fnd (pgm m_X0_alikeBy) 33 = some (34, 3, 0, 1, 0, []) from rfl) rfl
set_option maxRecDepth 100000 in
theorem s_X0_alikeBy_34 {d : Nat} {l0 l1 l2 l3 l4 l5 : AV} {st : List AV} {o : Nat} {a0 : Int} {a1 : Int} {a2 : Int} {σ : Sg} {Q : AV → Sg → Prop} (h4 : st.length ≤ 4) (hk : kn σ o = (0, 0)) : Rn d m_X0_alikeBy 34 [l0, l1, l2, l3, l4, l5] (vI a2 :: vI a1 :: vI a0 :: vR o :: st) σ Q ↔ ∃ r σ1, Ev d m_X0_stepsBy [vR o, vI a0, vI a1, vI a2] σ r σ1 ∧ Rn d m_X0_alikeBy 37 [l0, l1, l2, l3, l4, l5] (psh r st) σ1 Q := q35 (show fnd (pgm m_X0_alikeBy) 34 = some (37, 35, 72, 3, 4, []) from rfl) ⟨⟨by simp, by simpa using h4⟩, (by simp only [List.take, List.reverse, List.reverseAux, rcv]; rw [if_neg (by decide +kernel)]; exact decide_eq_true hk)⟩
set_option maxRecDepth 100000 in
theorem s_X0_alikeBy_37 {d : Nat} {l1 l2 l3 l4 l5 : AV} {st : List AV} {o : Nat} {σ : Sg} {Q : AV → Sg → Prop} (ho : o ≠ 0) : Rn d m_X0_alikeBy 37 [vR o, l1, l2, l3, l4, l5] st σ Q ↔ Rn d m_X0_alikeBy 38 [vR o, l1, l2, l3, l4, l5] (vR o :: st) σ Q := q5 (show fnd (pgm m_X0_alikeBy) 37 = some (38, 5, 0, 0, 0, []) from rfl) rfl ho
set_option maxRecDepth 100000 in
theorem s_X0_alikeBy_38 {d : Nat} {l0 l1 l2 l3 l5 : AV} {st : List AV} {x : Int} {σ : Sg} {Q : AV → Sg → Prop}  : Rn d m_X0_alikeBy 38 [l0, l1, l2, l3, vI x, l5] st σ Q ↔ Rn d m_X0_alikeBy 40 [l0, l1, l2, l3, vI x, l5] (vI x :: st) σ Q := q3 (show fnd (pgm m_X0_alikeBy) 38 = some (40, 3, 0, 4, 1, []) from rfl) rfl
set_option maxRecDepth 100000 in
theorem s_X0_alikeBy_40 {d : Nat} {l0 l1 l2 l4 l5 : AV} {st : List AV} {x : Int} {σ : Sg} {Q : AV → Sg → Prop}  : Rn d m_X0_alikeBy 40 [l0, l1, l2, vI x, l4, l5] st σ Q ↔ Rn d m_X0_alikeBy 41 [l0, l1, l2, vI x, l4, l5] (vI x :: st) σ Q := q3 (show fnd (pgm m_X0_alikeBy) 40 = some (41, 3, 0, 3, 0, []) from rfl) rfl
set_option maxRecDepth 100000 in
theorem s_X0_alikeBy_41 {d : Nat} {l0 l1 l3 l4 l5 : AV} {st : List AV} {x : Int} {σ : Sg} {Q : AV → Sg → Prop}  : Rn d m_X0_alikeBy 41 [l0, l1, vI x, l3, l4, l5] st σ Q ↔ Rn d m_X0_alikeBy 42 [l0, l1, vI x, l3, l4, l5] (vI x :: st) σ Q := q3 (show fnd (pgm m_X0_alikeBy) 41 = some (42, 3, 0, 2, 0, []) from rfl) rfl
set_option maxRecDepth 100000 in
theorem s_X0_alikeBy_42 {d : Nat} {l0 l1 l2 l3 l4 l5 : AV} {st : List AV} {o : Nat} {a0 : Int} {a1 : Int} {a2 : Int} {σ : Sg} {Q : AV → Sg → Prop} (h4 : st.length ≤ 4) (hk : kn σ o = (0, 0)) : Rn d m_X0_alikeBy 42 [l0, l1, l2, l3, l4, l5] (vI a2 :: vI a1 :: vI a0 :: vR o :: st) σ Q ↔ ∃ r σ1, Ev d m_X0_stepsBy [vR o, vI a0, vI a1, vI a2] σ r σ1 ∧ Rn d m_X0_alikeBy 45 [l0, l1, l2, l3, l4, l5] (psh r st) σ1 Q := q35 (show fnd (pgm m_X0_alikeBy) 42 = some (45, 35, 72, 3, 4, []) from rfl) ⟨⟨by simp, by simpa using h4⟩, (by simp only [List.take, List.reverse, List.reverseAux, rcv]; rw [if_neg (by decide +kernel)]; exact decide_eq_true hk)⟩
set_option maxRecDepth 100000 in
theorem s_X0_alikeBy_45 {d : Nat} {l0 l1 l2 l3 l4 l5 : AV} {st : List AV} {a b : Int} {σ : Sg} {Q : AV → Sg → Prop}  : Rn d m_X0_alikeBy 45 [l0, l1, l2, l3, l4, l5] (vI b :: vI a :: st) σ Q ↔ if ¬ w32 a = w32 b then Rn d m_X0_alikeBy 73 [l0, l1, l2, l3, l4, l5] st σ Q else Rn d m_X0_alikeBy 48 [l0, l1, l2, l3, l4, l5] st σ Q := q20_1 (show fnd (pgm m_X0_alikeBy) 45 = some (48, 20, 0, 1, 73, []) from rfl)
set_option maxRecDepth 100000 in
theorem s_X0_alikeBy_48 {d : Nat} {l0 l2 l3 l4 l5 : AV} {st : List AV} {x : Int} {σ : Sg} {Q : AV → Sg → Prop}  : Rn d m_X0_alikeBy 48 [l0, vI x, l2, l3, l4, l5] st σ Q ↔ Rn d m_X0_alikeBy 49 [l0, vI x, l2, l3, l4, l5] (vI x :: st) σ Q := q3 (show fnd (pgm m_X0_alikeBy) 48 = some (49, 3, 0, 1, 0, []) from rfl) rfl
set_option maxRecDepth 100000 in
theorem s_X0_alikeBy_49 {d : Nat} {l0 l1 l2 l3 l4 : AV} {st : List AV} {x : Int} {σ : Sg} {Q : AV → Sg → Prop}  : Rn d m_X0_alikeBy 49 [l0, l1, l2, l3, l4, vI x] st σ Q ↔ Rn d m_X0_alikeBy 51 [l0, l1, l2, l3, l4, vI x] (vI x :: st) σ Q := q3 (show fnd (pgm m_X0_alikeBy) 49 = some (51, 3, 0, 5, 1, []) from rfl) rfl
set_option maxRecDepth 100000 in
theorem s_X0_alikeBy_51 {d : Nat} {l0 l1 l2 l3 l4 l5 : AV} {st : List AV} {a b : Int} {σ : Sg} {Q : AV → Sg → Prop}  : Rn d m_X0_alikeBy 51 [l0, l1, l2, l3, l4, l5] (vI b :: vI a :: st) σ Q ↔ if w32 a < w32 b then Rn d m_X0_alikeBy 58 [l0, l1, l2, l3, l4, l5] st σ Q else Rn d m_X0_alikeBy 54 [l0, l1, l2, l3, l4, l5] st σ Q := q20_2 (show fnd (pgm m_X0_alikeBy) 51 = some (54, 20, 0, 2, 58, []) from rfl)
set_option maxRecDepth 100000 in
theorem s_X0_alikeBy_54 {d : Nat} {l0 l1 l2 l3 l4 l5 : AV} {st : List AV} {σ : Sg} {Q : AV → Sg → Prop}  : Rn d m_X0_alikeBy 54 [l0, l1, l2, l3, l4, l5] st σ Q ↔ Rn d m_X0_alikeBy 55 [l0, l1, l2, l3, l4, l5] (vI 1 :: st) σ Q := q0 (show fnd (pgm m_X0_alikeBy) 54 = some (55, 0, 1, 0, 0, []) from rfl)
set_option maxRecDepth 100000 in
theorem s_X0_alikeBy_55 {d : Nat} {l0 l1 l2 l3 l4 l5 : AV} {st : List AV} {σ : Sg} {Q : AV → Sg → Prop}  : Rn d m_X0_alikeBy 55 [l0, l1, l2, l3, l4, l5] st σ Q ↔ Rn d m_X0_alikeBy 59 [l0, l1, l2, l3, l4, l5] st σ Q := q21 (show fnd (pgm m_X0_alikeBy) 55 = some (58, 21, 0, 0, 59, []) from rfl)
set_option maxRecDepth 100000 in
theorem s_X0_alikeBy_58 {d : Nat} {l0 l1 l2 l3 l4 l5 : AV} {st : List AV} {σ : Sg} {Q : AV → Sg → Prop}  : Rn d m_X0_alikeBy 58 [l0, l1, l2, l3, l4, l5] st σ Q ↔ Rn d m_X0_alikeBy 59 [l0, l1, l2, l3, l4, l5] (vI 0 :: st) σ Q := q0 (show fnd (pgm m_X0_alikeBy) 58 = some (59, 0, 0, 0, 0, []) from rfl)
set_option maxRecDepth 100000 in
theorem s_X0_alikeBy_59 {d : Nat} {l0 l1 l3 l4 l5 : AV} {st : List AV} {x : Int} {σ : Sg} {Q : AV → Sg → Prop}  : Rn d m_X0_alikeBy 59 [l0, l1, vI x, l3, l4, l5] st σ Q ↔ Rn d m_X0_alikeBy 60 [l0, l1, vI x, l3, l4, l5] (vI x :: st) σ Q := q3 (show fnd (pgm m_X0_alikeBy) 59 = some (60, 3, 0, 2, 0, []) from rfl) rfl
set_option maxRecDepth 100000 in
theorem s_X0_alikeBy_60 {d : Nat} {l0 l1 l2 l3 l4 : AV} {st : List AV} {x : Int} {σ : Sg} {Q : AV → Sg → Prop}  : Rn d m_X0_alikeBy 60 [l0, l1, l2, l3, l4, vI x] st σ Q ↔ Rn d m_X0_alikeBy 62 [l0, l1, l2, l3, l4, vI x] (vI x :: st) σ Q := q3 (show fnd (pgm m_X0_alikeBy) 60 = some (62, 3, 0, 5, 1, []) from rfl) rfl
set_option maxRecDepth 100000 in
theorem s_X0_alikeBy_62 {d : Nat} {l0 l1 l2 l3 l4 l5 : AV} {st : List AV} {a b : Int} {σ : Sg} {Q : AV → Sg → Prop}  : Rn d m_X0_alikeBy 62 [l0, l1, l2, l3, l4, l5] (vI b :: vI a :: st) σ Q ↔ if w32 a < w32 b then Rn d m_X0_alikeBy 69 [l0, l1, l2, l3, l4, l5] st σ Q else Rn d m_X0_alikeBy 65 [l0, l1, l2, l3, l4, l5] st σ Q := q20_2 (show fnd (pgm m_X0_alikeBy) 62 = some (65, 20, 0, 2, 69, []) from rfl)
set_option maxRecDepth 100000 in
theorem s_X0_alikeBy_65 {d : Nat} {l0 l1 l2 l3 l4 l5 : AV} {st : List AV} {σ : Sg} {Q : AV → Sg → Prop}  : Rn d m_X0_alikeBy 65 [l0, l1, l2, l3, l4, l5] st σ Q ↔ Rn d m_X0_alikeBy 66 [l0, l1, l2, l3, l4, l5] (vI 1 :: st) σ Q := q0 (show fnd (pgm m_X0_alikeBy) 65 = some (66, 0, 1, 0, 0, []) from rfl)
set_option maxRecDepth 100000 in
theorem s_X0_alikeBy_66 {d : Nat} {l0 l1 l2 l3 l4 l5 : AV} {st : List AV} {σ : Sg} {Q : AV → Sg → Prop}  : Rn d m_X0_alikeBy 66 [l0, l1, l2, l3, l4, l5] st σ Q ↔ Rn d m_X0_alikeBy 70 [l0, l1, l2, l3, l4, l5] st σ Q := q21 (show fnd (pgm m_X0_alikeBy) 66 = some (69, 21, 0, 0, 70, []) from rfl)
set_option maxRecDepth 100000 in
theorem s_X0_alikeBy_69 {d : Nat} {l0 l1 l2 l3 l4 l5 : AV} {st : List AV} {σ : Sg} {Q : AV → Sg → Prop}  : Rn d m_X0_alikeBy 69 [l0, l1, l2, l3, l4, l5] st σ Q ↔ Rn d m_X0_alikeBy 70 [l0, l1, l2, l3, l4, l5] (vI 0 :: st) σ Q := q0 (show fnd (pgm m_X0_alikeBy) 69 = some (70, 0, 0, 0, 0, []) from rfl)
set_option maxRecDepth 100000 in
theorem s_X0_alikeBy_70 {d : Nat} {l0 l1 l2 l3 l4 l5 : AV} {st : List AV} {a b : Int} {σ : Sg} {Q : AV → Sg → Prop}  : Rn d m_X0_alikeBy 70 [l0, l1, l2, l3, l4, l5] (vI b :: vI a :: st) σ Q ↔ if w32 a = w32 b then Rn d m_X0_alikeBy 75 [l0, l1, l2, l3, l4, l5] st σ Q else Rn d m_X0_alikeBy 73 [l0, l1, l2, l3, l4, l5] st σ Q := q20_0 (show fnd (pgm m_X0_alikeBy) 70 = some (73, 20, 0, 0, 75, []) from rfl)
set_option maxRecDepth 100000 in
theorem s_X0_alikeBy_73 {d : Nat} {l0 l1 l2 l3 l4 l5 : AV} {st : List AV} {σ : Sg} {Q : AV → Sg → Prop}  : Rn d m_X0_alikeBy 73 [l0, l1, l2, l3, l4, l5] st σ Q ↔ Rn d m_X0_alikeBy 74 [l0, l1, l2, l3, l4, l5] (vI 0 :: st) σ Q := q0 (show fnd (pgm m_X0_alikeBy) 73 = some (74, 0, 0, 0, 0, []) from rfl)
set_option maxRecDepth 100000 in
theorem s_X0_alikeBy_74 {d : Nat} {l0 l1 l2 l3 l4 l5 : AV} {x : Int} {σ : Sg} {Q : AV → Sg → Prop} (hx : x = 0 ∨ x = 1) : Rn d m_X0_alikeBy 74 [l0, l1, l2, l3, l4, l5] [vI x] σ Q ↔ Q (vI x) σ := q37_2 (st := []) (show fnd (pgm m_X0_alikeBy) 74 = some (75, 37, 0, 2, 0, []) from rfl) hx
set_option maxRecDepth 100000 in
theorem s_X0_alikeBy_75 {d : Nat} {l0 l1 l2 l3 l5 : AV} {st : List AV} {x : Int} {σ : Sg} {Q : AV → Sg → Prop}  : Rn d m_X0_alikeBy 75 [l0, l1, l2, l3, vI x, l5] st σ Q ↔ Rn d m_X0_alikeBy 78 [l0, l1, l2, l3, vI (x + 1), l5] st σ Q := q9 (show fnd (pgm m_X0_alikeBy) 75 = some (78, 9, 1, 4, 0, []) from rfl) rfl
set_option maxRecDepth 100000 in
theorem s_X0_alikeBy_78 {d : Nat} {l0 l1 l2 l3 l4 l5 : AV} {st : List AV} {σ : Sg} {Q : AV → Sg → Prop}  : Rn d m_X0_alikeBy 78 [l0, l1, l2, l3, l4, l5] st σ Q ↔ Rn d m_X0_alikeBy 3 [l0, l1, l2, l3, l4, l5] st σ Q := q21 (show fnd (pgm m_X0_alikeBy) 78 = some (81, 21, 0, 0, 3, []) from rfl)
set_option maxRecDepth 100000 in
theorem s_X0_alikeBy_81 {d : Nat} {l0 l1 l2 l3 l4 l5 : AV} {st : List AV} {σ : Sg} {Q : AV → Sg → Prop}  : Rn d m_X0_alikeBy 81 [l0, l1, l2, l3, l4, l5] st σ Q ↔ Rn d m_X0_alikeBy 82 [l0, l1, l2, l3, l4, l5] (vI 1 :: st) σ Q := q0 (show fnd (pgm m_X0_alikeBy) 81 = some (82, 0, 1, 0, 0, []) from rfl)
set_option maxRecDepth 100000 in
theorem s_X0_alikeBy_82 {d : Nat} {l0 l1 l2 l3 l4 l5 : AV} {x : Int} {σ : Sg} {Q : AV → Sg → Prop} (hx : x = 0 ∨ x = 1) : Rn d m_X0_alikeBy 82 [l0, l1, l2, l3, l4, l5] [vI x] σ Q ↔ Q (vI x) σ := q37_2 (st := []) (show fnd (pgm m_X0_alikeBy) 82 = some (83, 37, 0, 2, 0, []) from rfl) hx
set_option maxRecDepth 100000 in
theorem en_X0_tellFound {d : Nat} {o : Nat} {a0 : Int} {a1 : Int} {a2 : Int} {σ σ0 : Sg} {r0 : AV} (h : Rn d m_X0_tellFound 0 [vR o, vI a0, vI a1, vI a2] [] σ (fun r σ1 => r = r0 ∧ σ1 = σ0)) : Ev (d + 1) m_X0_tellFound [vR o, vI a0, vI a1, vI a2] σ r0 σ0 := Ev_is (Nat.le_of_ble_eq_true rfl) h
set_option maxRecDepth 100000 in
theorem eo_X0_tellFound {d : Nat} {o : Nat} {a0 : Int} {a1 : Int} {a2 : Int} {σ : Sg} {Q : AV → Sg → Prop} (h : Rn d m_X0_tellFound 0 [vR o, vI a0, vI a1, vI a2] [] σ Q) : ∃ r σ1, Ev (d + 1) m_X0_tellFound [vR o, vI a0, vI a1, vI a2] σ r σ1 ∧ Q r σ1 := Ev_of (Nat.le_of_ble_eq_true rfl) h
set_option maxRecDepth 100000 in
theorem s_X0_tellFound_0 {d : Nat} {l0 l2 l3 : AV} {st : List AV} {x : Int} {σ : Sg} {Q : AV → Sg → Prop}  : Rn d m_X0_tellFound 0 [l0, vI x, l2, l3] st σ Q ↔ Rn d m_X0_tellFound 1 [l0, vI x, l2, l3] (vI x :: st) σ Q := q3 (show fnd (pgm m_X0_tellFound) 0 = some (1, 3, 0, 1, 0, []) from rfl) rfl
set_option maxRecDepth 100000 in
theorem s_X0_tellFound_1 {d : Nat} {l1 l2 l3 : AV} {st : List AV} {o : Nat} {σ : Sg} {Q : AV → Sg → Prop} (ho : o ≠ 0) : Rn d m_X0_tellFound 1 [vR o, l1, l2, l3] st σ Q ↔ Rn d m_X0_tellFound 2 [vR o, l1, l2, l3] (vR o :: st) σ Q := q5 (show fnd (pgm m_X0_tellFound) 1 = some (2, 5, 0, 0, 0, []) from rfl) rfl ho
set_option maxRecDepth 100000 in
theorem s_X0_tellFound_2 {d : Nat} {l0 l1 l2 l3 : AV} {st : List AV} {o : Nat} {σ : Sg} {Q : AV → Sg → Prop} (hk : kn σ o = (0, 0)) : Rn d m_X0_tellFound 2 [l0, l1, l2, l3] (vR o :: st) σ Q ↔ Rn d m_X0_tellFound 5 [l0, l1, l2, l3] (vI (σ o 10) :: st) σ Q := q33 (show fnd (pgm m_X0_tellFound) 2 = some (5, 33, 47, 0, 10, []) from rfl) hk
set_option maxRecDepth 100000 in
theorem s_X0_tellFound_5 {d : Nat} {l0 l1 l2 l3 : AV} {st : List AV} {a b : Int} {σ : Sg} {Q : AV → Sg → Prop}  : Rn d m_X0_tellFound 5 [l0, l1, l2, l3] (vI b :: vI a :: st) σ Q ↔ if w32 a = w32 b then Rn d m_X0_tellFound 21 [l0, l1, l2, l3] st σ Q else Rn d m_X0_tellFound 8 [l0, l1, l2, l3] st σ Q := q20_0 (show fnd (pgm m_X0_tellFound) 5 = some (8, 20, 0, 0, 21, []) from rfl)
set_option maxRecDepth 100000 in
theorem s_X0_tellFound_8 {d : Nat} {l1 l2 l3 : AV} {st : List AV} {o : Nat} {σ : Sg} {Q : AV → Sg → Prop} (ho : o ≠ 0) : Rn d m_X0_tellFound 8 [vR o, l1, l2, l3] st σ Q ↔ Rn d m_X0_tellFound 9 [vR o, l1, l2, l3] (vR o :: st) σ Q := q5 (show fnd (pgm m_X0_tellFound) 8 = some (9, 5, 0, 0, 0, []) from rfl) rfl ho
set_option maxRecDepth 100000 in
theorem s_X0_tellFound_9 {d : Nat} {l0 l1 l2 l3 : AV} {st : List AV} {o : Nat} {σ : Sg} {Q : AV → Sg → Prop} (hk : kn σ o = (0, 0)) : Rn d m_X0_tellFound 9 [l0, l1, l2, l3] (vR o :: st) σ Q ↔ Rn d m_X0_tellFound 12 [l0, l1, l2, l3] (vR (tp o 11) :: st) σ Q := q33 (show fnd (pgm m_X0_tellFound) 9 = some (12, 33, 50, 0, 11, []) from rfl) hk
set_option maxRecDepth 100000 in
theorem s_X0_tellFound_12 {d : Nat} {l0 l1 l2 l3 : AV} {st : List AV} {σ : Sg} {Q : AV → Sg → Prop}  : Rn d m_X0_tellFound 12 [l0, l1, l2, l3] st σ Q ↔ Rn d m_X0_tellFound 13 [l0, l1, l2, l3] (vI (-1) :: st) σ Q := q0 (show fnd (pgm m_X0_tellFound) 12 = some (13, 0, (-1), 0, 0, []) from rfl)
set_option maxRecDepth 100000 in
theorem s_X0_tellFound_13 {d : Nat} {l0 l1 l2 l3 : AV} {st : List AV}  {a0 : Nat} {a1 : Int} {σ : Sg} {Q : AV → Sg → Prop} (h4 : st.length ≤ 4) : Rn d m_X0_tellFound 13 [l0, l1, l2, l3] (vI a1 :: vR a0 :: st) σ Q ↔ ∃ r σ1, Ev d m_J7_fill_53178 [vR a0, vI a1] σ r σ1 ∧ Rn d m_X0_tellFound 16 [l0, l1, l2, l3] (psh r st) σ1 Q := q35 (show fnd (pgm m_X0_tellFound) 13 = some (16, 35, 53, 178, 2, []) from rfl) ⟨⟨by simp, by simpa using h4⟩, rfl⟩
set_option maxRecDepth 100000 in
theorem s_X0_tellFound_16 {d : Nat} {l1 l2 l3 : AV} {st : List AV} {o : Nat} {σ : Sg} {Q : AV → Sg → Prop} (ho : o ≠ 0) : Rn d m_X0_tellFound 16 [vR o, l1, l2, l3] st σ Q ↔ Rn d m_X0_tellFound 17 [vR o, l1, l2, l3] (vR o :: st) σ Q := q5 (show fnd (pgm m_X0_tellFound) 16 = some (17, 5, 0, 0, 0, []) from rfl) rfl ho
set_option maxRecDepth 100000 in
theorem s_X0_tellFound_17 {d : Nat} {l0 l2 l3 : AV} {st : List AV} {x : Int} {σ : Sg} {Q : AV → Sg → Prop}  : Rn d m_X0_tellFound 17 [l0, vI x, l2, l3] st σ Q ↔ Rn d m_X0_tellFound 18 [l0, vI x, l2, l3] (vI x :: st) σ Q := q3 (show fnd (pgm m_X0_tellFound) 17 = some (18, 3, 0, 1, 0, []) from rfl) rfl
set_option maxRecDepth 100000 in
theorem s_X0_tellFound_18 {d : Nat} {l0 l1 l2 l3 : AV} {st : List AV} {o : Nat} {x : Int} {σ : Sg} {Q : AV → Sg → Prop} (hk : kn σ o = (0, 0)) : Rn d m_X0_tellFound 18 [l0, l1, l2, l3] (vI x :: vR o :: st) σ Q ↔ Rn d m_X0_tellFound 21 [l0, l1, l2, l3] st (up σ o 10 x) Q := q34i (show fnd (pgm m_X0_tellFound) 18 = some (21, 34, 47, 0, 10, []) from rfl) hk rfl
set_option maxRecDepth 100000 in
theorem s_X0_tellFound_21 {d : Nat} {l1 l2 l3 : AV} {st : List AV} {o : Nat} {σ : Sg} {Q : AV → Sg → Prop} (ho : o ≠ 0) : Rn d m_X0_tellFound 21 [vR o, l1, l2, l3] st σ Q ↔ Rn d m_X0_tellFound 22 [vR o, l1, l2, l3] (vR o :: st) σ Q := q5 (show fnd (pgm m_X0_tellFound) 21 = some (22, 5, 0, 0, 0, []) from rfl) rfl ho
set_option maxRecDepth 100000 in
theorem s_X0_tellFound_22 {d : Nat} {l0 l1 l2 l3 : AV} {st : List AV} {o : Nat} {σ : Sg} {Q : AV → Sg → Prop} (hk : kn σ o = (0, 0)) : Rn d m_X0_tellFound 22 [l0, l1, l2, l3] (vR o :: st) σ Q ↔ Rn d m_X0_tellFound 25 [l0, l1, l2, l3] (vR (tp o 11) :: st) σ Q := q33 (show fnd (pgm m_X0_tellFound) 22 = some (25, 33, 50, 0, 11, []) from rfl) hk
set_option maxRecDepth 100000 in
theorem s_X0_tellFound_25 {d : Nat} {l0 l1 l3 : AV} {st : List AV} {x : Int} {σ : Sg} {Q : AV → Sg → Prop}  : Rn d m_X0_tellFound 25 [l0, l1, vI x, l3] st σ Q ↔ Rn d m_X0_tellFound 26 [l0, l1, vI x, l3] (vI x :: st) σ Q := q3 (show fnd (pgm m_X0_tellFound) 25 = some (26, 3, 0, 2, 0, []) from rfl) rfl
set_option maxRecDepth 100000 in
theorem s_X0_tellFound_26 {d : Nat} {l0 l1 l2 : AV} {st : List AV} {x : Int} {σ : Sg} {Q : AV → Sg → Prop}  : Rn d m_X0_tellFound 26 [l0, l1, l2, vI x] st σ Q ↔ Rn d m_X0_tellFound 27 [l0, l1, l2, vI x] (vI x :: st) σ Q := q3 (show fnd (pgm m_X0_tellFound) 26 = some (27, 3, 0, 3, 0, []) from rfl) rfl
set_option maxRecDepth 100000 in
theorem s_X0_tellFound_27 {d : Nat} {l0 l1 l2 l3 : AV} {st : List AV} {i x : Int} {o : Nat} {σ : Sg} {Q : AV → Sg → Prop} (hi : 0 ≤ w32 i ∧ w32 i < al σ 1 o) : Rn d m_X0_tellFound 27 [l0, l1, l2, l3] (vI x :: vI i :: vR o :: st) σ Q ↔ Rn d m_X0_tellFound 28 [l0, l1, l2, l3] st (up σ o (w32 i) x) Q := q29 (show fnd (pgm m_X0_tellFound) 27 = some (28, 29, 0, 0, 0, []) from rfl) hi
set_option maxRecDepth 100000 in
theorem s_X0_tellFound_28 {d : Nat} {l0 l1 l2 l3 : AV} {σ : Sg} {Q : AV → Sg → Prop}  : Rn d m_X0_tellFound 28 [l0, l1, l2, l3] [] σ Q ↔ Q none σ := q37_0 (st := []) (show fnd (pgm m_X0_tellFound) 28 = some (29, 37, 0, 0, 0, []) from rfl)
set_option maxRecDepth 100000 in
theorem en_X0_foundElsewhere {d : Nat} {o : Nat} {a0 : Nat} {σ σ0 : Sg} {r0 : AV} (h : Rn d m_X0_foundElsewhere 0 [vR o, vR a0, none, none] [] σ (fun r σ1 => r = r0 ∧ σ1 = σ0)) : Ev (d + 1) m_X0_foundElsewhere [vR o, vR a0] σ r0 σ0 := Ev_is (Nat.le_of_ble_eq_true rfl) h
set_option maxRecDepth 100000 in
theorem eo_X0_foundElsewhere {d : Nat} {o : Nat} {a0 : Nat} {σ : Sg} {Q : AV → Sg → Prop} (h : Rn d m_X0_foundElsewhere 0 [vR o, vR a0, none, none] [] σ Q) : ∃ r σ1, Ev (d + 1) m_X0_foundElsewhere [vR o, vR a0] σ r σ1 ∧ Q r σ1 := Ev_of (Nat.le_of_ble_eq_true rfl) h
set_option maxRecDepth 100000 in
theorem s_X0_foundElsewhere_0 {d : Nat} {l0 l1 l2 l3 : AV} {st : List AV} {σ : Sg} {Q : AV → Sg → Prop}  : Rn d m_X0_foundElsewhere 0 [l0, l1, l2, l3] st σ Q ↔ Rn d m_X0_foundElsewhere 1 [l0, l1, l2, l3] (vI 0 :: st) σ Q := q0 (show fnd (pgm m_X0_foundElsewhere) 0 = some (1, 0, 0, 0, 0, []) from rfl)
set_option maxRecDepth 100000 in
theorem s_X0_foundElsewhere_1 {d : Nat} {l0 l1 l2 l3 : AV} {st : List AV} {x : Int} {σ : Sg} {Q : AV → Sg → Prop}  : Rn d m_X0_foundElsewhere 1 [l0, l1, l2, l3] (vI x :: st) σ Q ↔ Rn d m_X0_foundElsewhere 2 [l0, l1, vI x, l3] st σ Q := q6 (show fnd (pgm m_X0_foundElsewhere) 1 = some (2, 6, 0, 2, 0, []) from rfl) (by decide : 2 < 4)
set_option maxRecDepth 100000 in
theorem s_X0_foundElsewhere_2 {d : Nat} {l0 l1 l2 l3 : AV} {st : List AV} {σ : Sg} {Q : AV → Sg → Prop}  : Rn d m_X0_foundElsewhere 2 [l0, l1, l2, l3] st σ Q ↔ Rn d m_X0_foundElsewhere 3 [l0, l1, l2, l3] (vI 0 :: st) σ Q := q0 (show fnd (pgm m_X0_foundElsewhere) 2 = some (3, 0, 0, 0, 0, []) from rfl)
set_option maxRecDepth 100000 in
theorem s_X0_foundElsewhere_3 {d : Nat} {l0 l1 l2 l3 : AV} {st : List AV} {x : Int} {σ : Sg} {Q : AV → Sg → Prop}  : Rn d m_X0_foundElsewhere 3 [l0, l1, l2, l3] (vI x :: st) σ Q ↔ Rn d m_X0_foundElsewhere 4 [l0, l1, l2, vI x] st σ Q := q6 (show fnd (pgm m_X0_foundElsewhere) 3 = some (4, 6, 0, 3, 0, []) from rfl) (by decide : 3 < 4)
set_option maxRecDepth 100000 in
theorem s_X0_foundElsewhere_4 {d : Nat} {l0 l1 l2 : AV} {st : List AV} {x : Int} {σ : Sg} {Q : AV → Sg → Prop}  : Rn d m_X0_foundElsewhere 4 [l0, l1, l2, vI x] st σ Q ↔ Rn d m_X0_foundElsewhere 5 [l0, l1, l2, vI x] (vI x :: st) σ Q := q3 (show fnd (pgm m_X0_foundElsewhere) 4 = some (5, 3, 0, 3, 0, []) from rfl) rfl
set_option maxRecDepth 100000 in
theorem s_X0_foundElsewhere_5 {d : Nat} {l1 l2 l3 : AV} {st : List AV} {o : Nat} {σ : Sg} {Q : AV → Sg → Prop} (ho : o ≠ 0) : Rn d m_X0_foundElsewhere 5 [vR o, l1, l2, l3] st σ Q ↔ Rn d m_X0_foundElsewhere 6 [vR o, l1, l2, l3] (vR o :: st) σ Q := q5 (show fnd (pgm m_X0_foundElsewhere) 5 = some (6, 5, 0, 0, 0, []) from rfl) rfl ho
set_option maxRecDepth 100000 in
theorem s_X0_foundElsewhere_6 {d : Nat} {l0 l1 l2 l3 : AV} {st : List AV} {o : Nat} {σ : Sg} {Q : AV → Sg → Prop} (hk : kn σ o = (0, 0)) : Rn d m_X0_foundElsewhere 6 [l0, l1, l2, l3] (vR o :: st) σ Q ↔ Rn d m_X0_foundElsewhere 9 [l0, l1, l2, l3] (vI (σ o 0) :: st) σ Q := q33 (show fnd (pgm m_X0_foundElsewhere) 6 = some (9, 33, 9, 0, 0, []) from rfl) hk
set_option maxRecDepth 100000 in
theorem s_X0_foundElsewhere_9 {d : Nat} {l0 l1 l2 l3 : AV} {st : List AV} {a b : Int} {σ : Sg} {Q : AV → Sg → Prop}  : Rn d m_X0_foundElsewhere 9 [l0, l1, l2, l3] (vI b :: vI a :: st) σ Q ↔ if w32 b ≤ w32 a then Rn d m_X0_foundElsewhere 46 [l0, l1, l2, l3] st σ Q else Rn d m_X0_foundElsewhere 12 [l0, l1, l2, l3] st σ Q := q20_3 (show fnd (pgm m_X0_foundElsewhere) 9 = some (12, 20, 0, 3, 46, []) from rfl)
set_option maxRecDepth 100000 in
theorem s_X0_foundElsewhere_12 {d : Nat} {l1 l2 l3 : AV} {st : List AV} {o : Nat} {σ : Sg} {Q : AV → Sg → Prop} (ho : o ≠ 0) : Rn d m_X0_foundElsewhere 12 [vR o, l1, l2, l3] st σ Q ↔ Rn d m_X0_foundElsewhere 13 [vR o, l1, l2, l3] (vR o :: st) σ Q := q5 (show fnd (pgm m_X0_foundElsewhere) 12 = some (13, 5, 0, 0, 0, []) from rfl) rfl ho
set_option maxRecDepth 100000 in
theorem s_X0_foundElsewhere_13 {d : Nat} {l0 l1 l2 l3 : AV} {st : List AV} {o : Nat} {σ : Sg} {Q : AV → Sg → Prop} (hk : kn σ o = (0, 0)) : Rn d m_X0_foundElsewhere 13 [l0, l1, l2, l3] (vR o :: st) σ Q ↔ Rn d m_X0_foundElsewhere 16 [l0, l1, l2, l3] (vR (tp o 11) :: st) σ Q := q33 (show fnd (pgm m_X0_foundElsewhere) 13 = some (16, 33, 50, 0, 11, []) from rfl) hk
set_option maxRecDepth 100000 in
theorem s_X0_foundElsewhere_16 {d : Nat} {l0 l1 l2 : AV} {st : List AV} {x : Int} {σ : Sg} {Q : AV → Sg → Prop}  : Rn d m_X0_foundElsewhere 16 [l0, l1, l2, vI x] st σ Q ↔ Rn d m_X0_foundElsewhere 17 [l0, l1, l2, vI x] (vI x :: st) σ Q := q3 (show fnd (pgm m_X0_foundElsewhere) 16 = some (17, 3, 0, 3, 0, []) from rfl) rfl
set_option maxRecDepth 100000 in
theorem s_X0_foundElsewhere_17 {d : Nat} {l0 l1 l2 l3 : AV} {st : List AV} {i : Int} {o : Nat} {σ : Sg} {Q : AV → Sg → Prop} (hi : 0 ≤ w32 i ∧ w32 i < al σ 1 o) : Rn d m_X0_foundElsewhere 17 [l0, l1, l2, l3] (vI i :: vR o :: st) σ Q ↔ Rn d m_X0_foundElsewhere 18 [l0, l1, l2, l3] (vI (σ o (w32 i)) :: st) σ Q := q25 (show fnd (pgm m_X0_foundElsewhere) 17 = some (18, 25, 0, 0, 0, []) from rfl) hi
set_option maxRecDepth 100000 in
theorem s_X0_foundElsewhere_18 {d : Nat} {l0 l1 l2 l3 : AV} {st : List AV} {σ : Sg} {Q : AV → Sg → Prop}  : Rn d m_X0_foundElsewhere 18 [l0, l1, l2, l3] st σ Q ↔ Rn d m_X0_foundElsewhere 19 [l0, l1, l2, l3] (vI (-1) :: st) σ Q := q0 (show fnd (pgm m_X0_foundElsewhere) 18 = some (19, 0, (-1), 0, 0, []) from rfl)
set_option maxRecDepth 100000 in
theorem s_X0_foundElsewhere_19 {d : Nat} {l0 l1 l2 l3 : AV} {st : List AV} {a b : Int} {σ : Sg} {Q : AV → Sg → Prop}  : Rn d m_X0_foundElsewhere 19 [l0, l1, l2, l3] (vI b :: vI a :: st) σ Q ↔ if w32 a = w32 b then Rn d m_X0_foundElsewhere 40 [l0, l1, l2, l3] st σ Q else Rn d m_X0_foundElsewhere 22 [l0, l1, l2, l3] st σ Q := q20_0 (show fnd (pgm m_X0_foundElsewhere) 19 = some (22, 20, 0, 0, 40, []) from rfl)
set_option maxRecDepth 100000 in
theorem s_X0_foundElsewhere_22 {d : Nat} {l1 l2 l3 : AV} {st : List AV} {o : Nat} {σ : Sg} {Q : AV → Sg → Prop} (ho : o ≠ 0) : Rn d m_X0_foundElsewhere 22 [vR o, l1, l2, l3] st σ Q ↔ Rn d m_X0_foundElsewhere 23 [vR o, l1, l2, l3] (vR o :: st) σ Q := q5 (show fnd (pgm m_X0_foundElsewhere) 22 = some (23, 5, 0, 0, 0, []) from rfl) rfl ho
set_option maxRecDepth 100000 in
theorem s_X0_foundElsewhere_23 {d : Nat} {l0 l1 l2 l3 : AV} {st : List AV} {o : Nat} {σ : Sg} {Q : AV → Sg → Prop} (hk : kn σ o = (0, 0)) : Rn d m_X0_foundElsewhere 23 [l0, l1, l2, l3] (vR o :: st) σ Q ↔ Rn d m_X0_foundElsewhere 26 [l0, l1, l2, l3] (vR (tp o 11) :: st) σ Q := q33 (show fnd (pgm m_X0_foundElsewhere) 23 = some (26, 33, 50, 0, 11, []) from rfl) hk
set_option maxRecDepth 100000 in
theorem s_X0_foundElsewhere_26 {d : Nat} {l0 l1 l2 : AV} {st : List AV} {x : Int} {σ : Sg} {Q : AV → Sg → Prop}  : Rn d m_X0_foundElsewhere 26 [l0, l1, l2, vI x] st σ Q ↔ Rn d m_X0_foundElsewhere 27 [l0, l1, l2, vI x] (vI x :: st) σ Q := q3 (show fnd (pgm m_X0_foundElsewhere) 26 = some (27, 3, 0, 3, 0, []) from rfl) rfl
set_option maxRecDepth 100000 in
theorem s_X0_foundElsewhere_27 {d : Nat} {l0 l1 l2 l3 : AV} {st : List AV} {i : Int} {o : Nat} {σ : Sg} {Q : AV → Sg → Prop} (hi : 0 ≤ w32 i ∧ w32 i < al σ 1 o) : Rn d m_X0_foundElsewhere 27 [l0, l1, l2, l3] (vI i :: vR o :: st) σ Q ↔ Rn d m_X0_foundElsewhere 28 [l0, l1, l2, l3] (vI (σ o (w32 i)) :: st) σ Q := q25 (show fnd (pgm m_X0_foundElsewhere) 27 = some (28, 25, 0, 0, 0, []) from rfl) hi
set_option maxRecDepth 100000 in
theorem s_X0_foundElsewhere_28 {d : Nat} {l0 l2 l3 : AV} {st : List AV} {o : Nat} {σ : Sg} {Q : AV → Sg → Prop} (ho : o ≠ 0) : Rn d m_X0_foundElsewhere 28 [l0, vR o, l2, l3] st σ Q ↔ Rn d m_X0_foundElsewhere 29 [l0, vR o, l2, l3] (vR o :: st) σ Q := q5 (show fnd (pgm m_X0_foundElsewhere) 28 = some (29, 5, 0, 1, 0, []) from rfl) rfl ho
set_option maxRecDepth 100000 in
theorem s_X0_foundElsewhere_29 {d : Nat} {l0 l1 l2 : AV} {st : List AV} {x : Int} {σ : Sg} {Q : AV → Sg → Prop}  : Rn d m_X0_foundElsewhere 29 [l0, l1, l2, vI x] st σ Q ↔ Rn d m_X0_foundElsewhere 30 [l0, l1, l2, vI x] (vI x :: st) σ Q := q3 (show fnd (pgm m_X0_foundElsewhere) 29 = some (30, 3, 0, 3, 0, []) from rfl) rfl
set_option maxRecDepth 100000 in
theorem s_X0_foundElsewhere_30 {d : Nat} {l0 l1 l2 l3 : AV} {st : List AV} {i : Int} {o : Nat} {σ : Sg} {Q : AV → Sg → Prop} (hi : 0 ≤ w32 i ∧ w32 i < al σ 1 o) : Rn d m_X0_foundElsewhere 30 [l0, l1, l2, l3] (vI i :: vR o :: st) σ Q ↔ Rn d m_X0_foundElsewhere 31 [l0, l1, l2, l3] (vI (σ o (w32 i)) :: st) σ Q := q25 (show fnd (pgm m_X0_foundElsewhere) 30 = some (31, 25, 0, 0, 0, []) from rfl) hi
set_option maxRecDepth 100000 in
theorem s_X0_foundElsewhere_31 {d : Nat} {l0 l1 l2 l3 : AV} {st : List AV} {a b : Int} {σ : Sg} {Q : AV → Sg → Prop}  : Rn d m_X0_foundElsewhere 31 [l0, l1, l2, l3] (vI b :: vI a :: st) σ Q ↔ if w32 a = w32 b then Rn d m_X0_foundElsewhere 40 [l0, l1, l2, l3] st σ Q else Rn d m_X0_foundElsewhere 34 [l0, l1, l2, l3] st σ Q := q20_0 (show fnd (pgm m_X0_foundElsewhere) 31 = some (34, 20, 0, 0, 40, []) from rfl)
set_option maxRecDepth 100000 in
theorem s_X0_foundElsewhere_34 {d : Nat} {l0 l1 l3 : AV} {st : List AV} {x : Int} {σ : Sg} {Q : AV → Sg → Prop}  : Rn d m_X0_foundElsewhere 34 [l0, l1, vI x, l3] st σ Q ↔ Rn d m_X0_foundElsewhere 35 [l0, l1, vI x, l3] (vI x :: st) σ Q := q3 (show fnd (pgm m_X0_foundElsewhere) 34 = some (35, 3, 0, 2, 0, []) from rfl) rfl
set_option maxRecDepth 100000 in
theorem s_X0_foundElsewhere_35 {d : Nat} {l0 l1 l2 l3 : AV} {st : List AV} {σ : Sg} {Q : AV → Sg → Prop}  : Rn d m_X0_foundElsewhere 35 [l0, l1, l2, l3] st σ Q ↔ Rn d m_X0_foundElsewhere 36 [l0, l1, l2, l3] (vI 1 :: st) σ Q := q0 (show fnd (pgm m_X0_foundElsewhere) 35 = some (36, 0, 1, 0, 0, []) from rfl)
set_option maxRecDepth 100000 in
theorem s_X0_foundElsewhere_36 {d : Nat} {l0 l1 l2 : AV} {st : List AV} {x : Int} {σ : Sg} {Q : AV → Sg → Prop}  : Rn d m_X0_foundElsewhere 36 [l0, l1, l2, vI x] st σ Q ↔ Rn d m_X0_foundElsewhere 37 [l0, l1, l2, vI x] (vI x :: st) σ Q := q3 (show fnd (pgm m_X0_foundElsewhere) 36 = some (37, 3, 0, 3, 0, []) from rfl) rfl
set_option maxRecDepth 100000 in
theorem s_X0_foundElsewhere_37 {d : Nat} {l0 l1 l2 l3 : AV} {st : List AV} {a b : Int} {σ : Sg} {Q : AV → Sg → Prop}  : Rn d m_X0_foundElsewhere 37 [l0, l1, l2, l3] (vI b :: vI a :: st) σ Q ↔ Rn d m_X0_foundElsewhere 38 [l0, l1, l2, l3] (vI (shl32 a b) :: st) σ Q := q10_8 (show fnd (pgm m_X0_foundElsewhere) 37 = some (38, 10, 0, 8, 0, []) from rfl)
set_option maxRecDepth 100000 in
theorem s_X0_foundElsewhere_38 {d : Nat} {l0 l1 l2 l3 : AV} {st : List AV} {a b : Int} {σ : Sg} {Q : AV → Sg → Prop}  : Rn d m_X0_foundElsewhere 38 [l0, l1, l2, l3] (vI b :: vI a :: st) σ Q ↔ Rn d m_X0_foundElsewhere 39 [l0, l1, l2, l3] (vI (or32 a b) :: st) σ Q := q10_6 (show fnd (pgm m_X0_foundElsewhere) 38 = some (39, 10, 0, 6, 0, []) from rfl)
set_option maxRecDepth 100000 in
theorem s_X0_foundElsewhere_39 {d : Nat} {l0 l1 l2 l3 : AV} {st : List AV} {x : Int} {σ : Sg} {Q : AV → Sg → Prop}  : Rn d m_X0_foundElsewhere 39 [l0, l1, l2, l3] (vI x :: st) σ Q ↔ Rn d m_X0_foundElsewhere 40 [l0, l1, vI x, l3] st σ Q := q6 (show fnd (pgm m_X0_foundElsewhere) 39 = some (40, 6, 0, 2, 0, []) from rfl) (by decide : 2 < 4)
set_option maxRecDepth 100000 in
theorem s_X0_foundElsewhere_40 {d : Nat} {l0 l1 l2 : AV} {st : List AV} {x : Int} {σ : Sg} {Q : AV → Sg → Prop}  : Rn d m_X0_foundElsewhere 40 [l0, l1, l2, vI x] st σ Q ↔ Rn d m_X0_foundElsewhere 43 [l0, l1, l2, vI (x + 1)] st σ Q := q9 (show fnd (pgm m_X0_foundElsewhere) 40 = some (43, 9, 1, 3, 0, []) from rfl) rfl
set_option maxRecDepth 100000 in
theorem s_X0_foundElsewhere_43 {d : Nat} {l0 l1 l2 l3 : AV} {st : List AV} {σ : Sg} {Q : AV → Sg → Prop}  : Rn d m_X0_foundElsewhere 43 [l0, l1, l2, l3] st σ Q ↔ Rn d m_X0_foundElsewhere 4 [l0, l1, l2, l3] st σ Q := q21 (show fnd (pgm m_X0_foundElsewhere) 43 = some (46, 21, 0, 0, 4, []) from rfl)
set_option maxRecDepth 100000 in
theorem s_X0_foundElsewhere_46 {d : Nat} {l0 l1 l3 : AV} {st : List AV} {x : Int} {σ : Sg} {Q : AV → Sg → Prop}  : Rn d m_X0_foundElsewhere 46 [l0, l1, vI x, l3] st σ Q ↔ Rn d m_X0_foundElsewhere 47 [l0, l1, vI x, l3] (vI x :: st) σ Q := q3 (show fnd (pgm m_X0_foundElsewhere) 46 = some (47, 3, 0, 2, 0, []) from rfl) rfl
set_option maxRecDepth 100000 in
theorem s_X0_foundElsewhere_47 {d : Nat} {l0 l1 l2 l3 : AV} {x : Int} {σ : Sg} {Q : AV → Sg → Prop}  : Rn d m_X0_foundElsewhere 47 [l0, l1, l2, l3] [vI x] σ Q ↔ Q (vI x) σ := q37_1 (st := []) (show fnd (pgm m_X0_foundElsewhere) 47 = some (48, 37, 0, 1, 0, []) from rfl)
set_option maxRecDepth 100000 in
theorem en_X0_howMany {d : Nat} {o : Nat} {a0 : Int} {σ σ0 : Sg} {r0 : AV} (h : Rn d m_X0_howMany 0 [vR o, vI a0] [] σ (fun r σ1 => r = r0 ∧ σ1 = σ0)) : Ev (d + 1) m_X0_howMany [vR o, vI a0] σ r0 σ0 := Ev_is (Nat.le_of_ble_eq_true rfl) h
set_option maxRecDepth 100000 in
theorem eo_X0_howMany {d : Nat} {o : Nat} {a0 : Int} {σ : Sg} {Q : AV → Sg → Prop} (h : Rn d m_X0_howMany 0 [vR o, vI a0] [] σ Q) : ∃ r σ1, Ev (d + 1) m_X0_howMany [vR o, vI a0] σ r σ1 ∧ Q r σ1 := Ev_of (Nat.le_of_ble_eq_true rfl) h
set_option maxRecDepth 100000 in
theorem s_X0_howMany_0 {d : Nat} {l0 : AV} {st : List AV} {x : Int} {σ : Sg} {Q : AV → Sg → Prop}  : Rn d m_X0_howMany 0 [l0, vI x] st σ Q ↔ Rn d m_X0_howMany 1 [l0, vI x] (vI x :: st) σ Q := q3 (show fnd (pgm m_X0_howMany) 0 = some (1, 3, 0, 1, 0, []) from rfl) rfl
set_option maxRecDepth 100000 in
theorem s_X0_howMany_1 {d : Nat} {l0 l1 : AV} {st : List AV} {a : Int} {σ : Sg} {Q : AV → Sg → Prop}  : Rn d m_X0_howMany 1 [l0, l1] (vI a :: st) σ Q ↔ Rn d m_X0_howMany (swt [(0, 28), (1, 33), (2, 38)] 43 (w32 a)) [l0, l1] st σ Q := q24 (show fnd (pgm m_X0_howMany) 1 = some (28, 24, 0, 0, 43, [(0, 28), (1, 33), (2, 38)]) from rfl)
set_option maxRecDepth 100000 in
theorem s_X0_howMany_28 {d : Nat} {l1 : AV} {st : List AV} {o : Nat} {σ : Sg} {Q : AV → Sg → Prop} (ho : o ≠ 0) : Rn d m_X0_howMany 28 [vR o, l1] st σ Q ↔ Rn d m_X0_howMany 29 [vR o, l1] (vR o :: st) σ Q := q5 (show fnd (pgm m_X0_howMany) 28 = some (29, 5, 0, 0, 0, []) from rfl) rfl ho
set_option maxRecDepth 100000 in
theorem s_X0_howMany_29 {d : Nat} {l0 l1 : AV} {st : List AV} {o : Nat} {σ : Sg} {Q : AV → Sg → Prop} (hk : kn σ o = (0, 0)) : Rn d m_X0_howMany 29 [l0, l1] (vR o :: st) σ Q ↔ Rn d m_X0_howMany 32 [l0, l1] (vI (σ o 0) :: st) σ Q := q33 (show fnd (pgm m_X0_howMany) 29 = some (32, 33, 9, 0, 0, []) from rfl) hk
set_option maxRecDepth 100000 in
theorem s_X0_howMany_32 {d : Nat} {l0 l1 : AV} {x : Int} {σ : Sg} {Q : AV → Sg → Prop}  : Rn d m_X0_howMany 32 [l0, l1] [vI x] σ Q ↔ Q (vI x) σ := q37_1 (st := []) (show fnd (pgm m_X0_howMany) 32 = some (33, 37, 0, 1, 0, []) from rfl)
set_option maxRecDepth 100000 in
theorem s_X0_howMany_33 {d : Nat} {l1 : AV} {st : List AV} {o : Nat} {σ : Sg} {Q : AV → Sg → Prop} (ho : o ≠ 0) : Rn d m_X0_howMany 33 [vR o, l1] st σ Q ↔ Rn d m_X0_howMany 34 [vR o, l1] (vR o :: st) σ Q := q5 (show fnd (pgm m_X0_howMany) 33 = some (34, 5, 0, 0, 0, []) from rfl) rfl ho
set_option maxRecDepth 100000 in
theorem s_X0_howMany_34 {d : Nat} {l0 l1 : AV} {st : List AV} {o : Nat} {σ : Sg} {Q : AV → Sg → Prop} (h4 : st.length ≤ 4) (hk : kn σ o = (0, 0)) : Rn d m_X0_howMany 34 [l0, l1] (vR o :: st) σ Q ↔ ∃ r σ1, Ev d m_X0_stakesThere [vR o] σ r σ1 ∧ Rn d m_X0_howMany 37 [l0, l1] (psh r st) σ1 Q := q35 (show fnd (pgm m_X0_howMany) 34 = some (37, 35, 75, 8, 1, []) from rfl) ⟨⟨by simp, by simpa using h4⟩, (by simp only [List.take, List.reverse, List.reverseAux, rcv]; rw [if_neg (by decide +kernel)]; exact decide_eq_true hk)⟩
set_option maxRecDepth 100000 in
theorem s_X0_howMany_37 {d : Nat} {l0 l1 : AV} {x : Int} {σ : Sg} {Q : AV → Sg → Prop}  : Rn d m_X0_howMany 37 [l0, l1] [vI x] σ Q ↔ Q (vI x) σ := q37_1 (st := []) (show fnd (pgm m_X0_howMany) 37 = some (38, 37, 0, 1, 0, []) from rfl)
set_option maxRecDepth 100000 in
theorem s_X0_howMany_38 {d : Nat} {l1 : AV} {st : List AV} {o : Nat} {σ : Sg} {Q : AV → Sg → Prop} (ho : o ≠ 0) : Rn d m_X0_howMany 38 [vR o, l1] st σ Q ↔ Rn d m_X0_howMany 39 [vR o, l1] (vR o :: st) σ Q := q5 (show fnd (pgm m_X0_howMany) 38 = some (39, 5, 0, 0, 0, []) from rfl) rfl ho
set_option maxRecDepth 100000 in
theorem s_X0_howMany_39 {d : Nat} {l0 l1 : AV} {st : List AV} {o : Nat} {σ : Sg} {Q : AV → Sg → Prop} (hk : kn σ o = (0, 0)) : Rn d m_X0_howMany 39 [l0, l1] (vR o :: st) σ Q ↔ Rn d m_X0_howMany 42 [l0, l1] (vI (σ o 9) :: st) σ Q := q33 (show fnd (pgm m_X0_howMany) 39 = some (42, 33, 44, 0, 9, []) from rfl) hk
set_option maxRecDepth 100000 in
theorem s_X0_howMany_42 {d : Nat} {l0 l1 : AV} {x : Int} {σ : Sg} {Q : AV → Sg → Prop}  : Rn d m_X0_howMany 42 [l0, l1] [vI x] σ Q ↔ Q (vI x) σ := q37_1 (st := []) (show fnd (pgm m_X0_howMany) 42 = some (43, 37, 0, 1, 0, []) from rfl)
set_option maxRecDepth 100000 in
theorem s_X0_howMany_43 {d : Nat} {l1 : AV} {st : List AV} {o : Nat} {σ : Sg} {Q : AV → Sg → Prop} (ho : o ≠ 0) : Rn d m_X0_howMany 43 [vR o, l1] st σ Q ↔ Rn d m_X0_howMany 44 [vR o, l1] (vR o :: st) σ Q := q5 (show fnd (pgm m_X0_howMany) 43 = some (44, 5, 0, 0, 0, []) from rfl) rfl ho
set_option maxRecDepth 100000 in
theorem s_X0_howMany_44 {d : Nat} {l0 l1 : AV} {st : List AV} {o : Nat} {σ : Sg} {Q : AV → Sg → Prop} (h4 : st.length ≤ 4) (hk : kn σ o = (0, 0)) : Rn d m_X0_howMany 44 [l0, l1] (vR o :: st) σ Q ↔ ∃ r σ1, Ev d m_X0_stonesFound [vR o] σ r σ1 ∧ Rn d m_X0_howMany 47 [l0, l1] (psh r st) σ1 Q := q35 (show fnd (pgm m_X0_howMany) 44 = some (47, 35, 79, 9, 1, []) from rfl) ⟨⟨by simp, by simpa using h4⟩, (by simp only [List.take, List.reverse, List.reverseAux, rcv]; rw [if_neg (by decide +kernel)]; exact decide_eq_true hk)⟩
set_option maxRecDepth 100000 in
theorem s_X0_howMany_47 {d : Nat} {l0 l1 : AV} {x : Int} {σ : Sg} {Q : AV → Sg → Prop}  : Rn d m_X0_howMany 47 [l0, l1] [vI x] σ Q ↔ Q (vI x) σ := q37_1 (st := []) (show fnd (pgm m_X0_howMany) 47 = some (48, 37, 0, 1, 0, []) from rfl)
set_option maxRecDepth 100000 in
theorem en_X0_stakesThere {d : Nat} {o : Nat} {σ σ0 : Sg} {r0 : AV} (h : Rn d m_X0_stakesThere 0 [vR o, none, none] [] σ (fun r σ1 => r = r0 ∧ σ1 = σ0)) : Ev (d + 1) m_X0_stakesThere [vR o] σ r0 σ0 := Ev_is (Nat.le_of_ble_eq_true rfl) h
set_option maxRecDepth 100000 in
theorem eo_X0_stakesThere {d : Nat} {o : Nat} {σ : Sg} {Q : AV → Sg → Prop} (h : Rn d m_X0_stakesThere 0 [vR o, none, none] [] σ Q) : ∃ r σ1, Ev (d + 1) m_X0_stakesThere [vR o] σ r σ1 ∧ Q r σ1 := Ev_of (Nat.le_of_ble_eq_true rfl) h
set_option maxRecDepth 100000 in
theorem s_X0_stakesThere_0 {d : Nat} {l0 l1 l2 : AV} {st : List AV} {σ : Sg} {Q : AV → Sg → Prop}  : Rn d m_X0_stakesThere 0 [l0, l1, l2] st σ Q ↔ Rn d m_X0_stakesThere 1 [l0, l1, l2] (vI 0 :: st) σ Q := q0 (show fnd (pgm m_X0_stakesThere) 0 = some (1, 0, 0, 0, 0, []) from rfl)
set_option maxRecDepth 100000 in
theorem s_X0_stakesThere_1 {d : Nat} {l0 l1 l2 : AV} {st : List AV} {x : Int} {σ : Sg} {Q : AV → Sg → Prop}  : Rn d m_X0_stakesThere 1 [l0, l1, l2] (vI x :: st) σ Q ↔ Rn d m_X0_stakesThere 2 [l0, vI x, l2] st σ Q := q6 (show fnd (pgm m_X0_stakesThere) 1 = some (2, 6, 0, 1, 0, []) from rfl) (by decide : 1 < 3)
set_option maxRecDepth 100000 in
theorem s_X0_stakesThere_2 {d : Nat} {l0 l1 l2 : AV} {st : List AV} {σ : Sg} {Q : AV → Sg → Prop}  : Rn d m_X0_stakesThere 2 [l0, l1, l2] st σ Q ↔ Rn d m_X0_stakesThere 3 [l0, l1, l2] (vI 0 :: st) σ Q := q0 (show fnd (pgm m_X0_stakesThere) 2 = some (3, 0, 0, 0, 0, []) from rfl)
set_option maxRecDepth 100000 in
theorem s_X0_stakesThere_3 {d : Nat} {l0 l1 l2 : AV} {st : List AV} {x : Int} {σ : Sg} {Q : AV → Sg → Prop}  : Rn d m_X0_stakesThere 3 [l0, l1, l2] (vI x :: st) σ Q ↔ Rn d m_X0_stakesThere 4 [l0, l1, vI x] st σ Q := q6 (show fnd (pgm m_X0_stakesThere) 3 = some (4, 6, 0, 2, 0, []) from rfl) (by decide : 2 < 3)
set_option maxRecDepth 100000 in
theorem s_X0_stakesThere_4 {d : Nat} {l0 l1 : AV} {st : List AV} {x : Int} {σ : Sg} {Q : AV → Sg → Prop}  : Rn d m_X0_stakesThere 4 [l0, l1, vI x] st σ Q ↔ Rn d m_X0_stakesThere 5 [l0, l1, vI x] (vI x :: st) σ Q := q3 (show fnd (pgm m_X0_stakesThere) 4 = some (5, 3, 0, 2, 0, []) from rfl) rfl
set_option maxRecDepth 100000 in
theorem s_X0_stakesThere_5 {d : Nat} {l0 l1 l2 : AV} {st : List AV} {σ : Sg} {Q : AV → Sg → Prop}  : Rn d m_X0_stakesThere 5 [l0, l1, l2] st σ Q ↔ Rn d m_X0_stakesThere 8 [l0, l1, l2] (vI 144 :: st) σ Q := q0 (show fnd (pgm m_X0_stakesThere) 5 = some (8, 0, 144, 2, 0, []) from rfl)
set_option maxRecDepth 100000 in
theorem s_X0_stakesThere_8 {d : Nat} {l0 l1 l2 : AV} {st : List AV} {a b : Int} {σ : Sg} {Q : AV → Sg → Prop}  : Rn d m_X0_stakesThere 8 [l0, l1, l2] (vI b :: vI a :: st) σ Q ↔ if w32 b ≤ w32 a then Rn d m_X0_stakesThere 26 [l0, l1, l2] st σ Q else Rn d m_X0_stakesThere 11 [l0, l1, l2] st σ Q := q20_3 (show fnd (pgm m_X0_stakesThere) 8 = some (11, 20, 0, 3, 26, []) from rfl)
set_option maxRecDepth 100000 in
theorem s_X0_stakesThere_11 {d : Nat} {l0 l2 : AV} {st : List AV} {x : Int} {σ : Sg} {Q : AV → Sg → Prop}  : Rn d m_X0_stakesThere 11 [l0, vI x, l2] st σ Q ↔ Rn d m_X0_stakesThere 12 [l0, vI x, l2] (vI x :: st) σ Q := q3 (show fnd (pgm m_X0_stakesThere) 11 = some (12, 3, 0, 1, 0, []) from rfl) rfl
set_option maxRecDepth 100000 in
theorem s_X0_stakesThere_12 {d : Nat} {l1 l2 : AV} {st : List AV} {o : Nat} {σ : Sg} {Q : AV → Sg → Prop} (ho : o ≠ 0) : Rn d m_X0_stakesThere 12 [vR o, l1, l2] st σ Q ↔ Rn d m_X0_stakesThere 13 [vR o, l1, l2] (vR o :: st) σ Q := q5 (show fnd (pgm m_X0_stakesThere) 12 = some (13, 5, 0, 0, 0, []) from rfl) rfl ho
set_option maxRecDepth 100000 in
theorem s_X0_stakesThere_13 {d : Nat} {l0 l1 l2 : AV} {st : List AV} {o : Nat} {σ : Sg} {Q : AV → Sg → Prop} (hk : kn σ o = (0, 0)) : Rn d m_X0_stakesThere 13 [l0, l1, l2] (vR o :: st) σ Q ↔ Rn d m_X0_stakesThere 16 [l0, l1, l2] (vR (tp o 6) :: st) σ Q := q33 (show fnd (pgm m_X0_stakesThere) 13 = some (16, 33, 31, 0, 6, []) from rfl) hk
set_option maxRecDepth 100000 in
theorem s_X0_stakesThere_16 {d : Nat} {l0 l1 : AV} {st : List AV} {x : Int} {σ : Sg} {Q : AV → Sg → Prop}  : Rn d m_X0_stakesThere 16 [l0, l1, vI x] st σ Q ↔ Rn d m_X0_stakesThere 17 [l0, l1, vI x] (vI x :: st) σ Q := q3 (show fnd (pgm m_X0_stakesThere) 16 = some (17, 3, 0, 2, 0, []) from rfl) rfl
set_option maxRecDepth 100000 in
theorem s_X0_stakesThere_17 {d : Nat} {l0 l1 l2 : AV} {st : List AV} {i : Int} {o : Nat} {σ : Sg} {Q : AV → Sg → Prop} (hi : 0 ≤ w32 i ∧ w32 i < al σ 1 o) : Rn d m_X0_stakesThere 17 [l0, l1, l2] (vI i :: vR o :: st) σ Q ↔ Rn d m_X0_stakesThere 18 [l0, l1, l2] (vI (σ o (w32 i)) :: st) σ Q := q25 (show fnd (pgm m_X0_stakesThere) 17 = some (18, 25, 0, 0, 0, []) from rfl) hi
set_option maxRecDepth 100000 in
theorem s_X0_stakesThere_18 {d : Nat} {l0 l1 l2 : AV} {st : List AV} {a b : Int} {σ : Sg} {Q : AV → Sg → Prop}  : Rn d m_X0_stakesThere 18 [l0, l1, l2] (vI b :: vI a :: st) σ Q ↔ Rn d m_X0_stakesThere 19 [l0, l1, l2] (vI (a + b) :: st) σ Q := q10_0 (show fnd (pgm m_X0_stakesThere) 18 = some (19, 10, 0, 0, 0, []) from rfl)
set_option maxRecDepth 100000 in
theorem s_X0_stakesThere_19 {d : Nat} {l0 l1 l2 : AV} {st : List AV} {x : Int} {σ : Sg} {Q : AV → Sg → Prop}  : Rn d m_X0_stakesThere 19 [l0, l1, l2] (vI x :: st) σ Q ↔ Rn d m_X0_stakesThere 20 [l0, vI x, l2] st σ Q := q6 (show fnd (pgm m_X0_stakesThere) 19 = some (20, 6, 0, 1, 0, []) from rfl) (by decide : 1 < 3)
set_option maxRecDepth 100000 in
theorem s_X0_stakesThere_20 {d : Nat} {l0 l1 : AV} {st : List AV} {x : Int} {σ : Sg} {Q : AV → Sg → Prop}  : Rn d m_X0_stakesThere 20 [l0, l1, vI x] st σ Q ↔ Rn d m_X0_stakesThere 23 [l0, l1, vI (x + 1)] st σ Q := q9 (show fnd (pgm m_X0_stakesThere) 20 = some (23, 9, 1, 2, 0, []) from rfl) rfl
set_option maxRecDepth 100000 in
theorem s_X0_stakesThere_23 {d : Nat} {l0 l1 l2 : AV} {st : List AV} {σ : Sg} {Q : AV → Sg → Prop}  : Rn d m_X0_stakesThere 23 [l0, l1, l2] st σ Q ↔ Rn d m_X0_stakesThere 4 [l0, l1, l2] st σ Q := q21 (show fnd (pgm m_X0_stakesThere) 23 = some (26, 21, 0, 0, 4, []) from rfl)
set_option maxRecDepth 100000 in
theorem s_X0_stakesThere_26 {d : Nat} {l0 l2 : AV} {st : List AV} {x : Int} {σ : Sg} {Q : AV → Sg → Prop}  : Rn d m_X0_stakesThere 26 [l0, vI x, l2] st σ Q ↔ Rn d m_X0_stakesThere 27 [l0, vI x, l2] (vI x :: st) σ Q := q3 (show fnd (pgm m_X0_stakesThere) 26 = some (27, 3, 0, 1, 0, []) from rfl) rfl
set_option maxRecDepth 100000 in
theorem s_X0_stakesThere_27 {d : Nat} {l0 l1 l2 : AV} {x : Int} {σ : Sg} {Q : AV → Sg → Prop}  : Rn d m_X0_stakesThere 27 [l0, l1, l2] [vI x] σ Q ↔ Q (vI x) σ := q37_1 (st := []) (show fnd (pgm m_X0_stakesThere) 27 = some (28, 37, 0, 1, 0, []) from rfl)
set_option maxRecDepth 100000 in
theorem en_X0_stonesFound {d : Nat} {o : Nat} {σ σ0 : Sg} {r0 : AV} (h : Rn d m_X0_stonesFound 0 [vR o, none, none] [] σ (fun r σ1 => r = r0 ∧ σ1 = σ0)) : Ev (d + 1) m_X0_stonesFound [vR o] σ r0 σ0 := Ev_is (Nat.le_of_ble_eq_true rfl) h
set_option maxRecDepth 100000 in
theorem eo_X0_stonesFound {d : Nat} {o : Nat} {σ : Sg} {Q : AV → Sg → Prop} (h : Rn d m_X0_stonesFound 0 [vR o, none, none] [] σ Q) : ∃ r σ1, Ev (d + 1) m_X0_stonesFound [vR o] σ r σ1 ∧ Q r σ1 := Ev_of (Nat.le_of_ble_eq_true rfl) h
set_option maxRecDepth 100000 in
theorem s_X0_stonesFound_0 {d : Nat} {l0 l1 l2 : AV} {st : List AV} {σ : Sg} {Q : AV → Sg → Prop}  : Rn d m_X0_stonesFound 0 [l0, l1, l2] st σ Q ↔ Rn d m_X0_stonesFound 1 [l0, l1, l2] (vI 0 :: st) σ Q := q0 (show fnd (pgm m_X0_stonesFound) 0 = some (1, 0, 0, 0, 0, []) from rfl)
set_option maxRecDepth 100000 in
theorem s_X0_stonesFound_1 {d : Nat} {l0 l1 l2 : AV} {st : List AV} {x : Int} {σ : Sg} {Q : AV → Sg → Prop}  : Rn d m_X0_stonesFound 1 [l0, l1, l2] (vI x :: st) σ Q ↔ Rn d m_X0_stonesFound 2 [l0, vI x, l2] st σ Q := q6 (show fnd (pgm m_X0_stonesFound) 1 = some (2, 6, 0, 1, 0, []) from rfl) (by decide : 1 < 3)
set_option maxRecDepth 100000 in
theorem s_X0_stonesFound_2 {d : Nat} {l0 l1 l2 : AV} {st : List AV} {σ : Sg} {Q : AV → Sg → Prop}  : Rn d m_X0_stonesFound 2 [l0, l1, l2] st σ Q ↔ Rn d m_X0_stonesFound 3 [l0, l1, l2] (vI 0 :: st) σ Q := q0 (show fnd (pgm m_X0_stonesFound) 2 = some (3, 0, 0, 0, 0, []) from rfl)
set_option maxRecDepth 100000 in
theorem s_X0_stonesFound_3 {d : Nat} {l0 l1 l2 : AV} {st : List AV} {x : Int} {σ : Sg} {Q : AV → Sg → Prop}  : Rn d m_X0_stonesFound 3 [l0, l1, l2] (vI x :: st) σ Q ↔ Rn d m_X0_stonesFound 4 [l0, l1, vI x] st σ Q := q6 (show fnd (pgm m_X0_stonesFound) 3 = some (4, 6, 0, 2, 0, []) from rfl) (by decide : 2 < 3)
set_option maxRecDepth 100000 in
theorem s_X0_stonesFound_4 {d : Nat} {l0 l1 : AV} {st : List AV} {x : Int} {σ : Sg} {Q : AV → Sg → Prop}  : Rn d m_X0_stonesFound 4 [l0, l1, vI x] st σ Q ↔ Rn d m_X0_stonesFound 5 [l0, l1, vI x] (vI x :: st) σ Q := q3 (show fnd (pgm m_X0_stonesFound) 4 = some (5, 3, 0, 2, 0, []) from rfl) rfl
set_option maxRecDepth 100000 in
theorem s_X0_stonesFound_5 {d : Nat} {l1 l2 : AV} {st : List AV} {o : Nat} {σ : Sg} {Q : AV → Sg → Prop} (ho : o ≠ 0) : Rn d m_X0_stonesFound 5 [vR o, l1, l2] st σ Q ↔ Rn d m_X0_stonesFound 6 [vR o, l1, l2] (vR o :: st) σ Q := q5 (show fnd (pgm m_X0_stonesFound) 5 = some (6, 5, 0, 0, 0, []) from rfl) rfl ho
set_option maxRecDepth 100000 in
theorem s_X0_stonesFound_6 {d : Nat} {l0 l1 l2 : AV} {st : List AV} {o : Nat} {σ : Sg} {Q : AV → Sg → Prop} (hk : kn σ o = (0, 0)) : Rn d m_X0_stonesFound 6 [l0, l1, l2] (vR o :: st) σ Q ↔ Rn d m_X0_stonesFound 9 [l0, l1, l2] (vI (σ o 0) :: st) σ Q := q33 (show fnd (pgm m_X0_stonesFound) 6 = some (9, 33, 9, 0, 0, []) from rfl) hk
set_option maxRecDepth 100000 in
theorem s_X0_stonesFound_9 {d : Nat} {l0 l1 l2 : AV} {st : List AV} {a b : Int} {σ : Sg} {Q : AV → Sg → Prop}  : Rn d m_X0_stonesFound 9 [l0, l1, l2] (vI b :: vI a :: st) σ Q ↔ if w32 b ≤ w32 a then Rn d m_X0_stonesFound 31 [l0, l1, l2] st σ Q else Rn d m_X0_stonesFound 12 [l0, l1, l2] st σ Q := q20_3 (show fnd (pgm m_X0_stonesFound) 9 = some (12, 20, 0, 3, 31, []) from rfl)
set_option maxRecDepth 100000 in
theorem s_X0_stonesFound_12 {d : Nat} {l1 l2 : AV} {st : List AV} {o : Nat} {σ : Sg} {Q : AV → Sg → Prop} (ho : o ≠ 0) : Rn d m_X0_stonesFound 12 [vR o, l1, l2] st σ Q ↔ Rn d m_X0_stonesFound 13 [vR o, l1, l2] (vR o :: st) σ Q := q5 (show fnd (pgm m_X0_stonesFound) 12 = some (13, 5, 0, 0, 0, []) from rfl) rfl ho
set_option maxRecDepth 100000 in
theorem s_X0_stonesFound_13 {d : Nat} {l0 l1 l2 : AV} {st : List AV} {o : Nat} {σ : Sg} {Q : AV → Sg → Prop} (hk : kn σ o = (0, 0)) : Rn d m_X0_stonesFound 13 [l0, l1, l2] (vR o :: st) σ Q ↔ Rn d m_X0_stonesFound 16 [l0, l1, l2] (vR (tp o 11) :: st) σ Q := q33 (show fnd (pgm m_X0_stonesFound) 13 = some (16, 33, 50, 0, 11, []) from rfl) hk
set_option maxRecDepth 100000 in
theorem s_X0_stonesFound_16 {d : Nat} {l0 l1 : AV} {st : List AV} {x : Int} {σ : Sg} {Q : AV → Sg → Prop}  : Rn d m_X0_stonesFound 16 [l0, l1, vI x] st σ Q ↔ Rn d m_X0_stonesFound 17 [l0, l1, vI x] (vI x :: st) σ Q := q3 (show fnd (pgm m_X0_stonesFound) 16 = some (17, 3, 0, 2, 0, []) from rfl) rfl
set_option maxRecDepth 100000 in
theorem s_X0_stonesFound_17 {d : Nat} {l0 l1 l2 : AV} {st : List AV} {i : Int} {o : Nat} {σ : Sg} {Q : AV → Sg → Prop} (hi : 0 ≤ w32 i ∧ w32 i < al σ 1 o) : Rn d m_X0_stonesFound 17 [l0, l1, l2] (vI i :: vR o :: st) σ Q ↔ Rn d m_X0_stonesFound 18 [l0, l1, l2] (vI (σ o (w32 i)) :: st) σ Q := q25 (show fnd (pgm m_X0_stonesFound) 17 = some (18, 25, 0, 0, 0, []) from rfl) hi
set_option maxRecDepth 100000 in
theorem s_X0_stonesFound_18 {d : Nat} {l0 l1 l2 : AV} {st : List AV} {σ : Sg} {Q : AV → Sg → Prop}  : Rn d m_X0_stonesFound 18 [l0, l1, l2] st σ Q ↔ Rn d m_X0_stonesFound 19 [l0, l1, l2] (vI (-1) :: st) σ Q := q0 (show fnd (pgm m_X0_stonesFound) 18 = some (19, 0, (-1), 0, 0, []) from rfl)
set_option maxRecDepth 100000 in
theorem s_X0_stonesFound_19 {d : Nat} {l0 l1 l2 : AV} {st : List AV} {a b : Int} {σ : Sg} {Q : AV → Sg → Prop}  : Rn d m_X0_stonesFound 19 [l0, l1, l2] (vI b :: vI a :: st) σ Q ↔ if w32 a = w32 b then Rn d m_X0_stonesFound 25 [l0, l1, l2] st σ Q else Rn d m_X0_stonesFound 22 [l0, l1, l2] st σ Q := q20_0 (show fnd (pgm m_X0_stonesFound) 19 = some (22, 20, 0, 0, 25, []) from rfl)
set_option maxRecDepth 100000 in
theorem s_X0_stonesFound_22 {d : Nat} {l0 l2 : AV} {st : List AV} {x : Int} {σ : Sg} {Q : AV → Sg → Prop}  : Rn d m_X0_stonesFound 22 [l0, vI x, l2] st σ Q ↔ Rn d m_X0_stonesFound 25 [l0, vI (x + 1), l2] st σ Q := q9 (show fnd (pgm m_X0_stonesFound) 22 = some (25, 9, 1, 1, 0, []) from rfl) rfl
set_option maxRecDepth 100000 in
theorem s_X0_stonesFound_25 {d : Nat} {l0 l1 : AV} {st : List AV} {x : Int} {σ : Sg} {Q : AV → Sg → Prop}  : Rn d m_X0_stonesFound 25 [l0, l1, vI x] st σ Q ↔ Rn d m_X0_stonesFound 28 [l0, l1, vI (x + 1)] st σ Q := q9 (show fnd (pgm m_X0_stonesFound) 25 = some (28, 9, 1, 2, 0, []) from rfl) rfl
set_option maxRecDepth 100000 in
theorem s_X0_stonesFound_28 {d : Nat} {l0 l1 l2 : AV} {st : List AV} {σ : Sg} {Q : AV → Sg → Prop}  : Rn d m_X0_stonesFound 28 [l0, l1, l2] st σ Q ↔ Rn d m_X0_stonesFound 4 [l0, l1, l2] st σ Q := q21 (show fnd (pgm m_X0_stonesFound) 28 = some (31, 21, 0, 0, 4, []) from rfl)
set_option maxRecDepth 100000 in
theorem s_X0_stonesFound_31 {d : Nat} {l0 l2 : AV} {st : List AV} {x : Int} {σ : Sg} {Q : AV → Sg → Prop}  : Rn d m_X0_stonesFound 31 [l0, vI x, l2] st σ Q ↔ Rn d m_X0_stonesFound 32 [l0, vI x, l2] (vI x :: st) σ Q := q3 (show fnd (pgm m_X0_stonesFound) 31 = some (32, 3, 0, 1, 0, []) from rfl) rfl
set_option maxRecDepth 100000 in
theorem s_X0_stonesFound_32 {d : Nat} {l0 l1 l2 : AV} {x : Int} {σ : Sg} {Q : AV → Sg → Prop}  : Rn d m_X0_stonesFound 32 [l0, l1, l2] [vI x] σ Q ↔ Q (vI x) σ := q37_1 (st := []) (show fnd (pgm m_X0_stonesFound) 32 = some (33, 37, 0, 1, 0, []) from rfl)
set_option maxRecDepth 100000 in
theorem en_X0_digestBehind {d : Nat} {o : Nat} {a0 : Int} {σ σ0 : Sg} {r0 : AV} (h : Rn d m_X0_digestBehind 0 [vR o, vL a0, none, none] [] σ (fun r σ1 => r = r0 ∧ σ1 = σ0)) : Ev (d + 1) m_X0_digestBehind [vR o, vL a0] σ r0 σ0 := Ev_is (Nat.le_of_ble_eq_true rfl) h
set_option maxRecDepth 100000 in
theorem eo_X0_digestBehind {d : Nat} {o : Nat} {a0 : Int} {σ : Sg} {Q : AV → Sg → Prop} (h : Rn d m_X0_digestBehind 0 [vR o, vL a0, none, none] [] σ Q) : ∃ r σ1, Ev (d + 1) m_X0_digestBehind [vR o, vL a0] σ r σ1 ∧ Q r σ1 := Ev_of (Nat.le_of_ble_eq_true rfl) h
set_option maxRecDepth 100000 in
theorem s_X0_digestBehind_0 {d : Nat} {l0 l1 l2 l3 : AV} {st : List AV} {σ : Sg} {Q : AV → Sg → Prop}  : Rn d m_X0_digestBehind 0 [l0, l1, l2, l3] st σ Q ↔ Rn d m_X0_digestBehind 1 [l0, l1, l2, l3] (vI 0 :: st) σ Q := q0 (show fnd (pgm m_X0_digestBehind) 0 = some (1, 0, 0, 0, 0, []) from rfl)
set_option maxRecDepth 100000 in
theorem s_X0_digestBehind_1 {d : Nat} {l0 l1 l2 l3 : AV} {st : List AV} {x : Int} {σ : Sg} {Q : AV → Sg → Prop}  : Rn d m_X0_digestBehind 1 [l0, l1, l2, l3] (vI x :: st) σ Q ↔ Rn d m_X0_digestBehind 2 [l0, l1, l2, vI x] st σ Q := q6 (show fnd (pgm m_X0_digestBehind) 1 = some (2, 6, 0, 3, 0, []) from rfl) (by decide : 3 < 4)
set_option maxRecDepth 100000 in
theorem s_X0_digestBehind_2 {d : Nat} {l0 l1 l2 : AV} {st : List AV} {x : Int} {σ : Sg} {Q : AV → Sg → Prop}  : Rn d m_X0_digestBehind 2 [l0, l1, l2, vI x] st σ Q ↔ Rn d m_X0_digestBehind 3 [l0, l1, l2, vI x] (vI x :: st) σ Q := q3 (show fnd (pgm m_X0_digestBehind) 2 = some (3, 3, 0, 3, 0, []) from rfl) rfl
set_option maxRecDepth 100000 in
theorem s_X0_digestBehind_3 {d : Nat} {l0 l1 l2 l3 : AV} {st : List AV} {σ : Sg} {Q : AV → Sg → Prop}  : Rn d m_X0_digestBehind 3 [l0, l1, l2, l3] st σ Q ↔ Rn d m_X0_digestBehind 4 [l0, l1, l2, l3] (vI 4 :: st) σ Q := q0 (show fnd (pgm m_X0_digestBehind) 3 = some (4, 0, 4, 0, 0, []) from rfl)
set_option maxRecDepth 100000 in
theorem s_X0_digestBehind_4 {d : Nat} {l0 l1 l2 l3 : AV} {st : List AV} {a b : Int} {σ : Sg} {Q : AV → Sg → Prop}  : Rn d m_X0_digestBehind 4 [l0, l1, l2, l3] (vI b :: vI a :: st) σ Q ↔ if w32 b ≤ w32 a then Rn d m_X0_digestBehind 26 [l0, l1, l2, l3] st σ Q else Rn d m_X0_digestBehind 7 [l0, l1, l2, l3] st σ Q := q20_3 (show fnd (pgm m_X0_digestBehind) 4 = some (7, 20, 0, 3, 26, []) from rfl)
set_option maxRecDepth 100000 in
theorem s_X0_digestBehind_7 {d : Nat} {l0 l1 l2 l3 : AV} {st : List AV} {σ : Sg} {Q : AV → Sg → Prop}  : Rn d m_X0_digestBehind 7 [l0, l1, l2, l3] st σ Q ↔ Rn d m_X0_digestBehind 10 [l0, l1, l2, l3] (vL 31 :: st) σ Q := q1 (show fnd (pgm m_X0_digestBehind) 7 = some (10, 1, 31, 1, 82, []) from rfl)
set_option maxRecDepth 100000 in
theorem s_X0_digestBehind_10 {d : Nat} {l0 l3 : AV} {st : List AV} {x : Int} {σ : Sg} {Q : AV → Sg → Prop}  : Rn d m_X0_digestBehind 10 [l0, vL x, none, l3] st σ Q ↔ Rn d m_X0_digestBehind 11 [l0, vL x, none, l3] (vL x :: st) σ Q := q4 (show fnd (pgm m_X0_digestBehind) 10 = some (11, 4, 0, 1, 0, []) from rfl) rfl rfl
set_option maxRecDepth 100000 in
theorem s_X0_digestBehind_11 {d : Nat} {l0 l1 l2 l3 : AV} {st : List AV} {a b : Int} {σ : Sg} {Q : AV → Sg → Prop}  : Rn d m_X0_digestBehind 11 [l0, l1, l2, l3] (vL b :: vL a :: st) σ Q ↔ Rn d m_X0_digestBehind 12 [l0, l1, l2, l3] (vL (a * b) :: st) σ Q := q11_2 (show fnd (pgm m_X0_digestBehind) 11 = some (12, 11, 0, 2, 0, []) from rfl)
set_option maxRecDepth 100000 in
theorem s_X0_digestBehind_12 {d : Nat} {l1 l2 l3 : AV} {st : List AV} {o : Nat} {σ : Sg} {Q : AV → Sg → Prop} (ho : o ≠ 0) : Rn d m_X0_digestBehind 12 [vR o, l1, l2, l3] st σ Q ↔ Rn d m_X0_digestBehind 13 [vR o, l1, l2, l3] (vR o :: st) σ Q := q5 (show fnd (pgm m_X0_digestBehind) 12 = some (13, 5, 0, 0, 0, []) from rfl) rfl ho
set_option maxRecDepth 100000 in
theorem s_X0_digestBehind_13 {d : Nat} {l0 l1 l2 : AV} {st : List AV} {x : Int} {σ : Sg} {Q : AV → Sg → Prop}  : Rn d m_X0_digestBehind 13 [l0, l1, l2, vI x] st σ Q ↔ Rn d m_X0_digestBehind 14 [l0, l1, l2, vI x] (vI x :: st) σ Q := q3 (show fnd (pgm m_X0_digestBehind) 13 = some (14, 3, 0, 3, 0, []) from rfl) rfl
set_option maxRecDepth 100000 in
theorem s_X0_digestBehind_14 {d : Nat} {l0 l1 l2 l3 : AV} {st : List AV} {o : Nat} {a0 : Int} {σ : Sg} {Q : AV → Sg → Prop} (h4 : st.length ≤ 4) (hk : kn σ o = (0, 0)) : Rn d m_X0_digestBehind 14 [l0, l1, l2, l3] (vI a0 :: vR o :: st) σ Q ↔ ∃ r σ1, Ev d m_X0_howMany [vR o, vI a0] σ r σ1 ∧ Rn d m_X0_digestBehind 17 [l0, l1, l2, l3] (psh r st) σ1 Q := q35 (show fnd (pgm m_X0_digestBehind) 14 = some (17, 35, 84, 7, 2, []) from rfl) ⟨⟨by simp, by simpa using h4⟩, (by simp only [List.take, List.reverse, List.reverseAux, rcv]; rw [if_neg (by decide +kernel)]; exact decide_eq_true hk)⟩
set_option maxRecDepth 100000 in
theorem s_X0_digestBehind_17 {d : Nat} {l0 l1 l2 l3 : AV} {st : List AV} {a : Int} {σ : Sg} {Q : AV → Sg → Prop}  : Rn d m_X0_digestBehind 17 [l0, l1, l2, l3] (vI a :: st) σ Q ↔ Rn d m_X0_digestBehind 18 [l0, l1, l2, l3] (vL (w32 a) :: st) σ Q := q14 (show fnd (pgm m_X0_digestBehind) 17 = some (18, 14, 0, 0, 0, []) from rfl)
set_option maxRecDepth 100000 in
theorem s_X0_digestBehind_18 {d : Nat} {l0 l1 l2 l3 : AV} {st : List AV} {a b : Int} {σ : Sg} {Q : AV → Sg → Prop}  : Rn d m_X0_digestBehind 18 [l0, l1, l2, l3] (vL b :: vL a :: st) σ Q ↔ Rn d m_X0_digestBehind 19 [l0, l1, l2, l3] (vL (a + b) :: st) σ Q := q11_0 (show fnd (pgm m_X0_digestBehind) 18 = some (19, 11, 0, 0, 0, []) from rfl)
set_option maxRecDepth 100000 in
theorem s_X0_digestBehind_19 {d : Nat} {l0 l1 l2 l3 : AV} {st : List AV} {x : Int} {σ : Sg} {Q : AV → Sg → Prop}  : Rn d m_X0_digestBehind 19 [l0, l1, l2, l3] (vL x :: st) σ Q ↔ Rn d m_X0_digestBehind 20 [l0, vL x, none, l3] st σ Q := q7 (show fnd (pgm m_X0_digestBehind) 19 = some (20, 7, 0, 1, 0, []) from rfl) (by decide : 2 < 4)
set_option maxRecDepth 100000 in
theorem s_X0_digestBehind_20 {d : Nat} {l0 l1 l2 : AV} {st : List AV} {x : Int} {σ : Sg} {Q : AV → Sg → Prop}  : Rn d m_X0_digestBehind 20 [l0, l1, l2, vI x] st σ Q ↔ Rn d m_X0_digestBehind 23 [l0, l1, l2, vI (x + 1)] st σ Q := q9 (show fnd (pgm m_X0_digestBehind) 20 = some (23, 9, 1, 3, 0, []) from rfl) rfl
set_option maxRecDepth 100000 in
theorem s_X0_digestBehind_23 {d : Nat} {l0 l1 l2 l3 : AV} {st : List AV} {σ : Sg} {Q : AV → Sg → Prop}  : Rn d m_X0_digestBehind 23 [l0, l1, l2, l3] st σ Q ↔ Rn d m_X0_digestBehind 2 [l0, l1, l2, l3] st σ Q := q21 (show fnd (pgm m_X0_digestBehind) 23 = some (26, 21, 0, 0, 2, []) from rfl)
set_option maxRecDepth 100000 in
theorem s_X0_digestBehind_26 {d : Nat} {l0 l1 l2 l3 : AV} {st : List AV} {σ : Sg} {Q : AV → Sg → Prop}  : Rn d m_X0_digestBehind 26 [l0, l1, l2, l3] st σ Q ↔ Rn d m_X0_digestBehind 27 [l0, l1, l2, l3] (vI 0 :: st) σ Q := q0 (show fnd (pgm m_X0_digestBehind) 26 = some (27, 0, 0, 0, 0, []) from rfl)
set_option maxRecDepth 100000 in
theorem s_X0_digestBehind_27 {d : Nat} {l0 l1 l2 l3 : AV} {st : List AV} {x : Int} {σ : Sg} {Q : AV → Sg → Prop}  : Rn d m_X0_digestBehind 27 [l0, l1, l2, l3] (vI x :: st) σ Q ↔ Rn d m_X0_digestBehind 28 [l0, l1, l2, vI x] st σ Q := q6 (show fnd (pgm m_X0_digestBehind) 27 = some (28, 6, 0, 3, 0, []) from rfl) (by decide : 3 < 4)
set_option maxRecDepth 100000 in
theorem s_X0_digestBehind_28 {d : Nat} {l0 l1 l2 : AV} {st : List AV} {x : Int} {σ : Sg} {Q : AV → Sg → Prop}  : Rn d m_X0_digestBehind 28 [l0, l1, l2, vI x] st σ Q ↔ Rn d m_X0_digestBehind 29 [l0, l1, l2, vI x] (vI x :: st) σ Q := q3 (show fnd (pgm m_X0_digestBehind) 28 = some (29, 3, 0, 3, 0, []) from rfl) rfl
set_option maxRecDepth 100000 in
theorem s_X0_digestBehind_29 {d : Nat} {l1 l2 l3 : AV} {st : List AV} {o : Nat} {σ : Sg} {Q : AV → Sg → Prop} (ho : o ≠ 0) : Rn d m_X0_digestBehind 29 [vR o, l1, l2, l3] st σ Q ↔ Rn d m_X0_digestBehind 30 [vR o, l1, l2, l3] (vR o :: st) σ Q := q5 (show fnd (pgm m_X0_digestBehind) 29 = some (30, 5, 0, 0, 0, []) from rfl) rfl ho
set_option maxRecDepth 100000 in
theorem s_X0_digestBehind_30 {d : Nat} {l0 l1 l2 l3 : AV} {st : List AV} {o : Nat} {σ : Sg} {Q : AV → Sg → Prop} (hk : kn σ o = (0, 0)) : Rn d m_X0_digestBehind 30 [l0, l1, l2, l3] (vR o :: st) σ Q ↔ Rn d m_X0_digestBehind 33 [l0, l1, l2, l3] (vI (σ o 0) :: st) σ Q := q33 (show fnd (pgm m_X0_digestBehind) 30 = some (33, 33, 9, 0, 0, []) from rfl) hk
set_option maxRecDepth 100000 in
theorem s_X0_digestBehind_33 {d : Nat} {l0 l1 l2 l3 : AV} {st : List AV} {a b : Int} {σ : Sg} {Q : AV → Sg → Prop}  : Rn d m_X0_digestBehind 33 [l0, l1, l2, l3] (vI b :: vI a :: st) σ Q ↔ if w32 b ≤ w32 a then Rn d m_X0_digestBehind 84 [l0, l1, l2, l3] st σ Q else Rn d m_X0_digestBehind 36 [l0, l1, l2, l3] st σ Q := q20_3 (show fnd (pgm m_X0_digestBehind) 33 = some (36, 20, 0, 3, 84, []) from rfl)
set_option maxRecDepth 100000 in
theorem s_X0_digestBehind_36 {d : Nat} {l0 l1 l2 l3 : AV} {st : List AV} {σ : Sg} {Q : AV → Sg → Prop}  : Rn d m_X0_digestBehind 36 [l0, l1, l2, l3] st σ Q ↔ Rn d m_X0_digestBehind 39 [l0, l1, l2, l3] (vL 31 :: st) σ Q := q1 (show fnd (pgm m_X0_digestBehind) 36 = some (39, 1, 31, 1, 82, []) from rfl)
set_option maxRecDepth 100000 in
theorem s_X0_digestBehind_39 {d : Nat} {l0 l3 : AV} {st : List AV} {x : Int} {σ : Sg} {Q : AV → Sg → Prop}  : Rn d m_X0_digestBehind 39 [l0, vL x, none, l3] st σ Q ↔ Rn d m_X0_digestBehind 40 [l0, vL x, none, l3] (vL x :: st) σ Q := q4 (show fnd (pgm m_X0_digestBehind) 39 = some (40, 4, 0, 1, 0, []) from rfl) rfl rfl
set_option maxRecDepth 100000 in
theorem s_X0_digestBehind_40 {d : Nat} {l0 l1 l2 l3 : AV} {st : List AV} {a b : Int} {σ : Sg} {Q : AV → Sg → Prop}  : Rn d m_X0_digestBehind 40 [l0, l1, l2, l3] (vL b :: vL a :: st) σ Q ↔ Rn d m_X0_digestBehind 41 [l0, l1, l2, l3] (vL (a * b) :: st) σ Q := q11_2 (show fnd (pgm m_X0_digestBehind) 40 = some (41, 11, 0, 2, 0, []) from rfl)
set_option maxRecDepth 100000 in
theorem s_X0_digestBehind_41 {d : Nat} {l1 l2 l3 : AV} {st : List AV} {o : Nat} {σ : Sg} {Q : AV → Sg → Prop} (ho : o ≠ 0) : Rn d m_X0_digestBehind 41 [vR o, l1, l2, l3] st σ Q ↔ Rn d m_X0_digestBehind 42 [vR o, l1, l2, l3] (vR o :: st) σ Q := q5 (show fnd (pgm m_X0_digestBehind) 41 = some (42, 5, 0, 0, 0, []) from rfl) rfl ho
set_option maxRecDepth 100000 in
theorem s_X0_digestBehind_42 {d : Nat} {l0 l1 l2 l3 : AV} {st : List AV} {o : Nat} {σ : Sg} {Q : AV → Sg → Prop} (hk : kn σ o = (0, 0)) : Rn d m_X0_digestBehind 42 [l0, l1, l2, l3] (vR o :: st) σ Q ↔ Rn d m_X0_digestBehind 45 [l0, l1, l2, l3] (vR (tp o 1) :: st) σ Q := q33 (show fnd (pgm m_X0_digestBehind) 42 = some (45, 33, 15, 0, 1, []) from rfl) hk
set_option maxRecDepth 100000 in
theorem s_X0_digestBehind_45 {d : Nat} {l0 l1 l2 : AV} {st : List AV} {x : Int} {σ : Sg} {Q : AV → Sg → Prop}  : Rn d m_X0_digestBehind 45 [l0, l1, l2, vI x] st σ Q ↔ Rn d m_X0_digestBehind 46 [l0, l1, l2, vI x] (vI x :: st) σ Q := q3 (show fnd (pgm m_X0_digestBehind) 45 = some (46, 3, 0, 3, 0, []) from rfl) rfl
set_option maxRecDepth 100000 in
theorem s_X0_digestBehind_46 {d : Nat} {l0 l1 l2 l3 : AV} {st : List AV} {i : Int} {o : Nat} {σ : Sg} {Q : AV → Sg → Prop} (hi : 0 ≤ w32 i ∧ w32 i < al σ 1 o) : Rn d m_X0_digestBehind 46 [l0, l1, l2, l3] (vI i :: vR o :: st) σ Q ↔ Rn d m_X0_digestBehind 47 [l0, l1, l2, l3] (vI (σ o (w32 i)) :: st) σ Q := q25 (show fnd (pgm m_X0_digestBehind) 46 = some (47, 25, 0, 0, 0, []) from rfl) hi
set_option maxRecDepth 100000 in
theorem s_X0_digestBehind_47 {d : Nat} {l0 l1 l2 l3 : AV} {st : List AV} {a : Int} {σ : Sg} {Q : AV → Sg → Prop}  : Rn d m_X0_digestBehind 47 [l0, l1, l2, l3] (vI a :: st) σ Q ↔ Rn d m_X0_digestBehind 48 [l0, l1, l2, l3] (vL (w32 a) :: st) σ Q := q14 (show fnd (pgm m_X0_digestBehind) 47 = some (48, 14, 0, 0, 0, []) from rfl)
set_option maxRecDepth 100000 in
theorem s_X0_digestBehind_48 {d : Nat} {l0 l1 l2 l3 : AV} {st : List AV} {a b : Int} {σ : Sg} {Q : AV → Sg → Prop}  : Rn d m_X0_digestBehind 48 [l0, l1, l2, l3] (vL b :: vL a :: st) σ Q ↔ Rn d m_X0_digestBehind 49 [l0, l1, l2, l3] (vL (a + b) :: st) σ Q := q11_0 (show fnd (pgm m_X0_digestBehind) 48 = some (49, 11, 0, 0, 0, []) from rfl)
set_option maxRecDepth 100000 in
theorem s_X0_digestBehind_49 {d : Nat} {l0 l1 l2 l3 : AV} {st : List AV} {x : Int} {σ : Sg} {Q : AV → Sg → Prop}  : Rn d m_X0_digestBehind 49 [l0, l1, l2, l3] (vL x :: st) σ Q ↔ Rn d m_X0_digestBehind 50 [l0, vL x, none, l3] st σ Q := q7 (show fnd (pgm m_X0_digestBehind) 49 = some (50, 7, 0, 1, 0, []) from rfl) (by decide : 2 < 4)
set_option maxRecDepth 100000 in
theorem s_X0_digestBehind_50 {d : Nat} {l0 l1 l2 l3 : AV} {st : List AV} {σ : Sg} {Q : AV → Sg → Prop}  : Rn d m_X0_digestBehind 50 [l0, l1, l2, l3] st σ Q ↔ Rn d m_X0_digestBehind 53 [l0, l1, l2, l3] (vL 31 :: st) σ Q := q1 (show fnd (pgm m_X0_digestBehind) 50 = some (53, 1, 31, 1, 82, []) from rfl)
set_option maxRecDepth 100000 in
theorem s_X0_digestBehind_53 {d : Nat} {l0 l3 : AV} {st : List AV} {x : Int} {σ : Sg} {Q : AV → Sg → Prop}  : Rn d m_X0_digestBehind 53 [l0, vL x, none, l3] st σ Q ↔ Rn d m_X0_digestBehind 54 [l0, vL x, none, l3] (vL x :: st) σ Q := q4 (show fnd (pgm m_X0_digestBehind) 53 = some (54, 4, 0, 1, 0, []) from rfl) rfl rfl
set_option maxRecDepth 100000 in
theorem s_X0_digestBehind_54 {d : Nat} {l0 l1 l2 l3 : AV} {st : List AV} {a b : Int} {σ : Sg} {Q : AV → Sg → Prop}  : Rn d m_X0_digestBehind 54 [l0, l1, l2, l3] (vL b :: vL a :: st) σ Q ↔ Rn d m_X0_digestBehind 55 [l0, l1, l2, l3] (vL (a * b) :: st) σ Q := q11_2 (show fnd (pgm m_X0_digestBehind) 54 = some (55, 11, 0, 2, 0, []) from rfl)
set_option maxRecDepth 100000 in
theorem s_X0_digestBehind_55 {d : Nat} {l1 l2 l3 : AV} {st : List AV} {o : Nat} {σ : Sg} {Q : AV → Sg → Prop} (ho : o ≠ 0) : Rn d m_X0_digestBehind 55 [vR o, l1, l2, l3] st σ Q ↔ Rn d m_X0_digestBehind 56 [vR o, l1, l2, l3] (vR o :: st) σ Q := q5 (show fnd (pgm m_X0_digestBehind) 55 = some (56, 5, 0, 0, 0, []) from rfl) rfl ho
set_option maxRecDepth 100000 in
theorem s_X0_digestBehind_56 {d : Nat} {l0 l1 l2 l3 : AV} {st : List AV} {o : Nat} {σ : Sg} {Q : AV → Sg → Prop} (hk : kn σ o = (0, 0)) : Rn d m_X0_digestBehind 56 [l0, l1, l2, l3] (vR o :: st) σ Q ↔ Rn d m_X0_digestBehind 59 [l0, l1, l2, l3] (vR (tp o 2) :: st) σ Q := q33 (show fnd (pgm m_X0_digestBehind) 56 = some (59, 33, 19, 0, 2, []) from rfl) hk
set_option maxRecDepth 100000 in
theorem s_X0_digestBehind_59 {d : Nat} {l0 l1 l2 : AV} {st : List AV} {x : Int} {σ : Sg} {Q : AV → Sg → Prop}  : Rn d m_X0_digestBehind 59 [l0, l1, l2, vI x] st σ Q ↔ Rn d m_X0_digestBehind 60 [l0, l1, l2, vI x] (vI x :: st) σ Q := q3 (show fnd (pgm m_X0_digestBehind) 59 = some (60, 3, 0, 3, 0, []) from rfl) rfl
set_option maxRecDepth 100000 in
theorem s_X0_digestBehind_60 {d : Nat} {l0 l1 l2 l3 : AV} {st : List AV} {i : Int} {o : Nat} {σ : Sg} {Q : AV → Sg → Prop} (hi : 0 ≤ w32 i ∧ w32 i < al σ 1 o) : Rn d m_X0_digestBehind 60 [l0, l1, l2, l3] (vI i :: vR o :: st) σ Q ↔ Rn d m_X0_digestBehind 61 [l0, l1, l2, l3] (vI (σ o (w32 i)) :: st) σ Q := q25 (show fnd (pgm m_X0_digestBehind) 60 = some (61, 25, 0, 0, 0, []) from rfl) hi
set_option maxRecDepth 100000 in
theorem s_X0_digestBehind_61 {d : Nat} {l0 l1 l2 l3 : AV} {st : List AV} {a : Int} {σ : Sg} {Q : AV → Sg → Prop}  : Rn d m_X0_digestBehind 61 [l0, l1, l2, l3] (vI a :: st) σ Q ↔ Rn d m_X0_digestBehind 62 [l0, l1, l2, l3] (vL (w32 a) :: st) σ Q := q14 (show fnd (pgm m_X0_digestBehind) 61 = some (62, 14, 0, 0, 0, []) from rfl)
set_option maxRecDepth 100000 in
theorem s_X0_digestBehind_62 {d : Nat} {l0 l1 l2 l3 : AV} {st : List AV} {a b : Int} {σ : Sg} {Q : AV → Sg → Prop}  : Rn d m_X0_digestBehind 62 [l0, l1, l2, l3] (vL b :: vL a :: st) σ Q ↔ Rn d m_X0_digestBehind 63 [l0, l1, l2, l3] (vL (a + b) :: st) σ Q := q11_0 (show fnd (pgm m_X0_digestBehind) 62 = some (63, 11, 0, 0, 0, []) from rfl)
set_option maxRecDepth 100000 in
theorem s_X0_digestBehind_63 {d : Nat} {l0 l1 l2 l3 : AV} {st : List AV} {x : Int} {σ : Sg} {Q : AV → Sg → Prop}  : Rn d m_X0_digestBehind 63 [l0, l1, l2, l3] (vL x :: st) σ Q ↔ Rn d m_X0_digestBehind 64 [l0, vL x, none, l3] st σ Q := q7 (show fnd (pgm m_X0_digestBehind) 63 = some (64, 7, 0, 1, 0, []) from rfl) (by decide : 2 < 4)
set_option maxRecDepth 100000 in
theorem s_X0_digestBehind_64 {d : Nat} {l0 l1 l2 l3 : AV} {st : List AV} {σ : Sg} {Q : AV → Sg → Prop}  : Rn d m_X0_digestBehind 64 [l0, l1, l2, l3] st σ Q ↔ Rn d m_X0_digestBehind 67 [l0, l1, l2, l3] (vL 31 :: st) σ Q := q1 (show fnd (pgm m_X0_digestBehind) 64 = some (67, 1, 31, 1, 82, []) from rfl)
set_option maxRecDepth 100000 in
theorem s_X0_digestBehind_67 {d : Nat} {l0 l3 : AV} {st : List AV} {x : Int} {σ : Sg} {Q : AV → Sg → Prop}  : Rn d m_X0_digestBehind 67 [l0, vL x, none, l3] st σ Q ↔ Rn d m_X0_digestBehind 68 [l0, vL x, none, l3] (vL x :: st) σ Q := q4 (show fnd (pgm m_X0_digestBehind) 67 = some (68, 4, 0, 1, 0, []) from rfl) rfl rfl
set_option maxRecDepth 100000 in
theorem s_X0_digestBehind_68 {d : Nat} {l0 l1 l2 l3 : AV} {st : List AV} {a b : Int} {σ : Sg} {Q : AV → Sg → Prop}  : Rn d m_X0_digestBehind 68 [l0, l1, l2, l3] (vL b :: vL a :: st) σ Q ↔ Rn d m_X0_digestBehind 69 [l0, l1, l2, l3] (vL (a * b) :: st) σ Q := q11_2 (show fnd (pgm m_X0_digestBehind) 68 = some (69, 11, 0, 2, 0, []) from rfl)
set_option maxRecDepth 100000 in
theorem s_X0_digestBehind_69 {d : Nat} {l1 l2 l3 : AV} {st : List AV} {o : Nat} {σ : Sg} {Q : AV → Sg → Prop} (ho : o ≠ 0) : Rn d m_X0_digestBehind 69 [vR o, l1, l2, l3] st σ Q ↔ Rn d m_X0_digestBehind 70 [vR o, l1, l2, l3] (vR o :: st) σ Q := q5 (show fnd (pgm m_X0_digestBehind) 69 = some (70, 5, 0, 0, 0, []) from rfl) rfl ho
set_option maxRecDepth 100000 in
theorem s_X0_digestBehind_70 {d : Nat} {l0 l1 l2 l3 : AV} {st : List AV} {o : Nat} {σ : Sg} {Q : AV → Sg → Prop} (hk : kn σ o = (0, 0)) : Rn d m_X0_digestBehind 70 [l0, l1, l2, l3] (vR o :: st) σ Q ↔ Rn d m_X0_digestBehind 73 [l0, l1, l2, l3] (vR (tp o 3) :: st) σ Q := q33 (show fnd (pgm m_X0_digestBehind) 70 = some (73, 33, 22, 0, 3, []) from rfl) hk
set_option maxRecDepth 100000 in
theorem s_X0_digestBehind_73 {d : Nat} {l0 l1 l2 : AV} {st : List AV} {x : Int} {σ : Sg} {Q : AV → Sg → Prop}  : Rn d m_X0_digestBehind 73 [l0, l1, l2, vI x] st σ Q ↔ Rn d m_X0_digestBehind 74 [l0, l1, l2, vI x] (vI x :: st) σ Q := q3 (show fnd (pgm m_X0_digestBehind) 73 = some (74, 3, 0, 3, 0, []) from rfl) rfl
set_option maxRecDepth 100000 in
theorem s_X0_digestBehind_74 {d : Nat} {l0 l1 l2 l3 : AV} {st : List AV} {i : Int} {o : Nat} {σ : Sg} {Q : AV → Sg → Prop} (hi : 0 ≤ w32 i ∧ w32 i < al σ 1 o) : Rn d m_X0_digestBehind 74 [l0, l1, l2, l3] (vI i :: vR o :: st) σ Q ↔ Rn d m_X0_digestBehind 75 [l0, l1, l2, l3] (vI (σ o (w32 i)) :: st) σ Q := q25 (show fnd (pgm m_X0_digestBehind) 74 = some (75, 25, 0, 0, 0, []) from rfl) hi
set_option maxRecDepth 100000 in
theorem s_X0_digestBehind_75 {d : Nat} {l0 l1 l2 l3 : AV} {st : List AV} {a : Int} {σ : Sg} {Q : AV → Sg → Prop}  : Rn d m_X0_digestBehind 75 [l0, l1, l2, l3] (vI a :: st) σ Q ↔ Rn d m_X0_digestBehind 76 [l0, l1, l2, l3] (vL (w32 a) :: st) σ Q := q14 (show fnd (pgm m_X0_digestBehind) 75 = some (76, 14, 0, 0, 0, []) from rfl)
set_option maxRecDepth 100000 in
theorem s_X0_digestBehind_76 {d : Nat} {l0 l1 l2 l3 : AV} {st : List AV} {a b : Int} {σ : Sg} {Q : AV → Sg → Prop}  : Rn d m_X0_digestBehind 76 [l0, l1, l2, l3] (vL b :: vL a :: st) σ Q ↔ Rn d m_X0_digestBehind 77 [l0, l1, l2, l3] (vL (a + b) :: st) σ Q := q11_0 (show fnd (pgm m_X0_digestBehind) 76 = some (77, 11, 0, 0, 0, []) from rfl)
set_option maxRecDepth 100000 in
theorem s_X0_digestBehind_77 {d : Nat} {l0 l1 l2 l3 : AV} {st : List AV} {x : Int} {σ : Sg} {Q : AV → Sg → Prop}  : Rn d m_X0_digestBehind 77 [l0, l1, l2, l3] (vL x :: st) σ Q ↔ Rn d m_X0_digestBehind 78 [l0, vL x, none, l3] st σ Q := q7 (show fnd (pgm m_X0_digestBehind) 77 = some (78, 7, 0, 1, 0, []) from rfl) (by decide : 2 < 4)
set_option maxRecDepth 100000 in
theorem s_X0_digestBehind_78 {d : Nat} {l0 l1 l2 : AV} {st : List AV} {x : Int} {σ : Sg} {Q : AV → Sg → Prop}  : Rn d m_X0_digestBehind 78 [l0, l1, l2, vI x] st σ Q ↔ Rn d m_X0_digestBehind 81 [l0, l1, l2, vI (x + 1)] st σ Q := q9 (show fnd (pgm m_X0_digestBehind) 78 = some (81, 9, 1, 3, 0, []) from rfl) rfl
set_option maxRecDepth 100000 in
theorem s_X0_digestBehind_81 {d : Nat} {l0 l1 l2 l3 : AV} {st : List AV} {σ : Sg} {Q : AV → Sg → Prop}  : Rn d m_X0_digestBehind 81 [l0, l1, l2, l3] st σ Q ↔ Rn d m_X0_digestBehind 28 [l0, l1, l2, l3] st σ Q := q21 (show fnd (pgm m_X0_digestBehind) 81 = some (84, 21, 0, 0, 28, []) from rfl)
set_option maxRecDepth 100000 in
theorem s_X0_digestBehind_84 {d : Nat} {l0 l1 l2 l3 : AV} {st : List AV} {σ : Sg} {Q : AV → Sg → Prop}  : Rn d m_X0_digestBehind 84 [l0, l1, l2, l3] st σ Q ↔ Rn d m_X0_digestBehind 85 [l0, l1, l2, l3] (vI 0 :: st) σ Q := q0 (show fnd (pgm m_X0_digestBehind) 84 = some (85, 0, 0, 0, 0, []) from rfl)
set_option maxRecDepth 100000 in
theorem s_X0_digestBehind_85 {d : Nat} {l0 l1 l2 l3 : AV} {st : List AV} {x : Int} {σ : Sg} {Q : AV → Sg → Prop}  : Rn d m_X0_digestBehind 85 [l0, l1, l2, l3] (vI x :: st) σ Q ↔ Rn d m_X0_digestBehind 86 [l0, l1, l2, vI x] st σ Q := q6 (show fnd (pgm m_X0_digestBehind) 85 = some (86, 6, 0, 3, 0, []) from rfl) (by decide : 3 < 4)
set_option maxRecDepth 100000 in
theorem s_X0_digestBehind_86 {d : Nat} {l0 l1 l2 : AV} {st : List AV} {x : Int} {σ : Sg} {Q : AV → Sg → Prop}  : Rn d m_X0_digestBehind 86 [l0, l1, l2, vI x] st σ Q ↔ Rn d m_X0_digestBehind 87 [l0, l1, l2, vI x] (vI x :: st) σ Q := q3 (show fnd (pgm m_X0_digestBehind) 86 = some (87, 3, 0, 3, 0, []) from rfl) rfl
set_option maxRecDepth 100000 in
theorem s_X0_digestBehind_87 {d : Nat} {l0 l1 l2 l3 : AV} {st : List AV} {σ : Sg} {Q : AV → Sg → Prop}  : Rn d m_X0_digestBehind 87 [l0, l1, l2, l3] st σ Q ↔ Rn d m_X0_digestBehind 90 [l0, l1, l2, l3] (vI 144 :: st) σ Q := q0 (show fnd (pgm m_X0_digestBehind) 87 = some (90, 0, 144, 2, 0, []) from rfl)
set_option maxRecDepth 100000 in
theorem s_X0_digestBehind_90 {d : Nat} {l0 l1 l2 l3 : AV} {st : List AV} {a b : Int} {σ : Sg} {Q : AV → Sg → Prop}  : Rn d m_X0_digestBehind 90 [l0, l1, l2, l3] (vI b :: vI a :: st) σ Q ↔ if w32 b ≤ w32 a then Rn d m_X0_digestBehind 127 [l0, l1, l2, l3] st σ Q else Rn d m_X0_digestBehind 93 [l0, l1, l2, l3] st σ Q := q20_3 (show fnd (pgm m_X0_digestBehind) 90 = some (93, 20, 0, 3, 127, []) from rfl)
set_option maxRecDepth 100000 in
theorem s_X0_digestBehind_93 {d : Nat} {l0 l1 l2 l3 : AV} {st : List AV} {σ : Sg} {Q : AV → Sg → Prop}  : Rn d m_X0_digestBehind 93 [l0, l1, l2, l3] st σ Q ↔ Rn d m_X0_digestBehind 96 [l0, l1, l2, l3] (vL 31 :: st) σ Q := q1 (show fnd (pgm m_X0_digestBehind) 93 = some (96, 1, 31, 1, 82, []) from rfl)
set_option maxRecDepth 100000 in
theorem s_X0_digestBehind_96 {d : Nat} {l0 l3 : AV} {st : List AV} {x : Int} {σ : Sg} {Q : AV → Sg → Prop}  : Rn d m_X0_digestBehind 96 [l0, vL x, none, l3] st σ Q ↔ Rn d m_X0_digestBehind 97 [l0, vL x, none, l3] (vL x :: st) σ Q := q4 (show fnd (pgm m_X0_digestBehind) 96 = some (97, 4, 0, 1, 0, []) from rfl) rfl rfl
set_option maxRecDepth 100000 in
theorem s_X0_digestBehind_97 {d : Nat} {l0 l1 l2 l3 : AV} {st : List AV} {a b : Int} {σ : Sg} {Q : AV → Sg → Prop}  : Rn d m_X0_digestBehind 97 [l0, l1, l2, l3] (vL b :: vL a :: st) σ Q ↔ Rn d m_X0_digestBehind 98 [l0, l1, l2, l3] (vL (a * b) :: st) σ Q := q11_2 (show fnd (pgm m_X0_digestBehind) 97 = some (98, 11, 0, 2, 0, []) from rfl)
set_option maxRecDepth 100000 in
theorem s_X0_digestBehind_98 {d : Nat} {l1 l2 l3 : AV} {st : List AV} {o : Nat} {σ : Sg} {Q : AV → Sg → Prop} (ho : o ≠ 0) : Rn d m_X0_digestBehind 98 [vR o, l1, l2, l3] st σ Q ↔ Rn d m_X0_digestBehind 99 [vR o, l1, l2, l3] (vR o :: st) σ Q := q5 (show fnd (pgm m_X0_digestBehind) 98 = some (99, 5, 0, 0, 0, []) from rfl) rfl ho
set_option maxRecDepth 100000 in
theorem s_X0_digestBehind_99 {d : Nat} {l0 l1 l2 l3 : AV} {st : List AV} {o : Nat} {σ : Sg} {Q : AV → Sg → Prop} (hk : kn σ o = (0, 0)) : Rn d m_X0_digestBehind 99 [l0, l1, l2, l3] (vR o :: st) σ Q ↔ Rn d m_X0_digestBehind 102 [l0, l1, l2, l3] (vR (tp o 5) :: st) σ Q := q33 (show fnd (pgm m_X0_digestBehind) 99 = some (102, 33, 28, 0, 5, []) from rfl) hk
set_option maxRecDepth 100000 in
theorem s_X0_digestBehind_102 {d : Nat} {l0 l1 l2 : AV} {st : List AV} {x : Int} {σ : Sg} {Q : AV → Sg → Prop}  : Rn d m_X0_digestBehind 102 [l0, l1, l2, vI x] st σ Q ↔ Rn d m_X0_digestBehind 103 [l0, l1, l2, vI x] (vI x :: st) σ Q := q3 (show fnd (pgm m_X0_digestBehind) 102 = some (103, 3, 0, 3, 0, []) from rfl) rfl
set_option maxRecDepth 100000 in
theorem s_X0_digestBehind_103 {d : Nat} {l0 l1 l2 l3 : AV} {st : List AV} {i : Int} {o : Nat} {σ : Sg} {Q : AV → Sg → Prop} (hi : 0 ≤ w32 i ∧ w32 i < al σ 1 o) : Rn d m_X0_digestBehind 103 [l0, l1, l2, l3] (vI i :: vR o :: st) σ Q ↔ Rn d m_X0_digestBehind 104 [l0, l1, l2, l3] (vI (σ o (w32 i)) :: st) σ Q := q25 (show fnd (pgm m_X0_digestBehind) 103 = some (104, 25, 0, 0, 0, []) from rfl) hi
set_option maxRecDepth 100000 in
theorem s_X0_digestBehind_104 {d : Nat} {l0 l1 l2 l3 : AV} {st : List AV} {a : Int} {σ : Sg} {Q : AV → Sg → Prop}  : Rn d m_X0_digestBehind 104 [l0, l1, l2, l3] (vI a :: st) σ Q ↔ Rn d m_X0_digestBehind 105 [l0, l1, l2, l3] (vL (w32 a) :: st) σ Q := q14 (show fnd (pgm m_X0_digestBehind) 104 = some (105, 14, 0, 0, 0, []) from rfl)
set_option maxRecDepth 100000 in
theorem s_X0_digestBehind_105 {d : Nat} {l0 l1 l2 l3 : AV} {st : List AV} {a b : Int} {σ : Sg} {Q : AV → Sg → Prop}  : Rn d m_X0_digestBehind 105 [l0, l1, l2, l3] (vL b :: vL a :: st) σ Q ↔ Rn d m_X0_digestBehind 106 [l0, l1, l2, l3] (vL (a + b) :: st) σ Q := q11_0 (show fnd (pgm m_X0_digestBehind) 105 = some (106, 11, 0, 0, 0, []) from rfl)
set_option maxRecDepth 100000 in
theorem s_X0_digestBehind_106 {d : Nat} {l0 l1 l2 l3 : AV} {st : List AV} {x : Int} {σ : Sg} {Q : AV → Sg → Prop}  : Rn d m_X0_digestBehind 106 [l0, l1, l2, l3] (vL x :: st) σ Q ↔ Rn d m_X0_digestBehind 107 [l0, vL x, none, l3] st σ Q := q7 (show fnd (pgm m_X0_digestBehind) 106 = some (107, 7, 0, 1, 0, []) from rfl) (by decide : 2 < 4)
set_option maxRecDepth 100000 in
theorem s_X0_digestBehind_107 {d : Nat} {l0 l1 l2 l3 : AV} {st : List AV} {σ : Sg} {Q : AV → Sg → Prop}  : Rn d m_X0_digestBehind 107 [l0, l1, l2, l3] st σ Q ↔ Rn d m_X0_digestBehind 110 [l0, l1, l2, l3] (vL 31 :: st) σ Q := q1 (show fnd (pgm m_X0_digestBehind) 107 = some (110, 1, 31, 1, 82, []) from rfl)
set_option maxRecDepth 100000 in
theorem s_X0_digestBehind_110 {d : Nat} {l0 l3 : AV} {st : List AV} {x : Int} {σ : Sg} {Q : AV → Sg → Prop}  : Rn d m_X0_digestBehind 110 [l0, vL x, none, l3] st σ Q ↔ Rn d m_X0_digestBehind 111 [l0, vL x, none, l3] (vL x :: st) σ Q := q4 (show fnd (pgm m_X0_digestBehind) 110 = some (111, 4, 0, 1, 0, []) from rfl) rfl rfl
set_option maxRecDepth 100000 in
theorem s_X0_digestBehind_111 {d : Nat} {l0 l1 l2 l3 : AV} {st : List AV} {a b : Int} {σ : Sg} {Q : AV → Sg → Prop}  : Rn d m_X0_digestBehind 111 [l0, l1, l2, l3] (vL b :: vL a :: st) σ Q ↔ Rn d m_X0_digestBehind 112 [l0, l1, l2, l3] (vL (a * b) :: st) σ Q := q11_2 (show fnd (pgm m_X0_digestBehind) 111 = some (112, 11, 0, 2, 0, []) from rfl)
set_option maxRecDepth 100000 in
theorem s_X0_digestBehind_112 {d : Nat} {l1 l2 l3 : AV} {st : List AV} {o : Nat} {σ : Sg} {Q : AV → Sg → Prop} (ho : o ≠ 0) : Rn d m_X0_digestBehind 112 [vR o, l1, l2, l3] st σ Q ↔ Rn d m_X0_digestBehind 113 [vR o, l1, l2, l3] (vR o :: st) σ Q := q5 (show fnd (pgm m_X0_digestBehind) 112 = some (113, 5, 0, 0, 0, []) from rfl) rfl ho
set_option maxRecDepth 100000 in
theorem s_X0_digestBehind_113 {d : Nat} {l0 l1 l2 l3 : AV} {st : List AV} {o : Nat} {σ : Sg} {Q : AV → Sg → Prop} (hk : kn σ o = (0, 0)) : Rn d m_X0_digestBehind 113 [l0, l1, l2, l3] (vR o :: st) σ Q ↔ Rn d m_X0_digestBehind 116 [l0, l1, l2, l3] (vR (tp o 6) :: st) σ Q := q33 (show fnd (pgm m_X0_digestBehind) 113 = some (116, 33, 31, 0, 6, []) from rfl) hk
set_option maxRecDepth 100000 in
theorem s_X0_digestBehind_116 {d : Nat} {l0 l1 l2 : AV} {st : List AV} {x : Int} {σ : Sg} {Q : AV → Sg → Prop}  : Rn d m_X0_digestBehind 116 [l0, l1, l2, vI x] st σ Q ↔ Rn d m_X0_digestBehind 117 [l0, l1, l2, vI x] (vI x :: st) σ Q := q3 (show fnd (pgm m_X0_digestBehind) 116 = some (117, 3, 0, 3, 0, []) from rfl) rfl
set_option maxRecDepth 100000 in
theorem s_X0_digestBehind_117 {d : Nat} {l0 l1 l2 l3 : AV} {st : List AV} {i : Int} {o : Nat} {σ : Sg} {Q : AV → Sg → Prop} (hi : 0 ≤ w32 i ∧ w32 i < al σ 1 o) : Rn d m_X0_digestBehind 117 [l0, l1, l2, l3] (vI i :: vR o :: st) σ Q ↔ Rn d m_X0_digestBehind 118 [l0, l1, l2, l3] (vI (σ o (w32 i)) :: st) σ Q := q25 (show fnd (pgm m_X0_digestBehind) 117 = some (118, 25, 0, 0, 0, []) from rfl) hi
set_option maxRecDepth 100000 in
theorem s_X0_digestBehind_118 {d : Nat} {l0 l1 l2 l3 : AV} {st : List AV} {a : Int} {σ : Sg} {Q : AV → Sg → Prop}  : Rn d m_X0_digestBehind 118 [l0, l1, l2, l3] (vI a :: st) σ Q ↔ Rn d m_X0_digestBehind 119 [l0, l1, l2, l3] (vL (w32 a) :: st) σ Q := q14 (show fnd (pgm m_X0_digestBehind) 118 = some (119, 14, 0, 0, 0, []) from rfl)
set_option maxRecDepth 100000 in
theorem s_X0_digestBehind_119 {d : Nat} {l0 l1 l2 l3 : AV} {st : List AV} {a b : Int} {σ : Sg} {Q : AV → Sg → Prop}  : Rn d m_X0_digestBehind 119 [l0, l1, l2, l3] (vL b :: vL a :: st) σ Q ↔ Rn d m_X0_digestBehind 120 [l0, l1, l2, l3] (vL (a + b) :: st) σ Q := q11_0 (show fnd (pgm m_X0_digestBehind) 119 = some (120, 11, 0, 0, 0, []) from rfl)
set_option maxRecDepth 100000 in
theorem s_X0_digestBehind_120 {d : Nat} {l0 l1 l2 l3 : AV} {st : List AV} {x : Int} {σ : Sg} {Q : AV → Sg → Prop}  : Rn d m_X0_digestBehind 120 [l0, l1, l2, l3] (vL x :: st) σ Q ↔ Rn d m_X0_digestBehind 121 [l0, vL x, none, l3] st σ Q := q7 (show fnd (pgm m_X0_digestBehind) 120 = some (121, 7, 0, 1, 0, []) from rfl) (by decide : 2 < 4)
set_option maxRecDepth 100000 in
theorem s_X0_digestBehind_121 {d : Nat} {l0 l1 l2 : AV} {st : List AV} {x : Int} {σ : Sg} {Q : AV → Sg → Prop}  : Rn d m_X0_digestBehind 121 [l0, l1, l2, vI x] st σ Q ↔ Rn d m_X0_digestBehind 124 [l0, l1, l2, vI (x + 1)] st σ Q := q9 (show fnd (pgm m_X0_digestBehind) 121 = some (124, 9, 1, 3, 0, []) from rfl) rfl
set_option maxRecDepth 100000 in
theorem s_X0_digestBehind_124 {d : Nat} {l0 l1 l2 l3 : AV} {st : List AV} {σ : Sg} {Q : AV → Sg → Prop}  : Rn d m_X0_digestBehind 124 [l0, l1, l2, l3] st σ Q ↔ Rn d m_X0_digestBehind 86 [l0, l1, l2, l3] st σ Q := q21 (show fnd (pgm m_X0_digestBehind) 124 = some (127, 21, 0, 0, 86, []) from rfl)
set_option maxRecDepth 100000 in
theorem s_X0_digestBehind_127 {d : Nat} {l0 l1 l2 l3 : AV} {st : List AV} {σ : Sg} {Q : AV → Sg → Prop}  : Rn d m_X0_digestBehind 127 [l0, l1, l2, l3] st σ Q ↔ Rn d m_X0_digestBehind 128 [l0, l1, l2, l3] (vI 0 :: st) σ Q := q0 (show fnd (pgm m_X0_digestBehind) 127 = some (128, 0, 0, 0, 0, []) from rfl)
set_option maxRecDepth 100000 in
theorem s_X0_digestBehind_128 {d : Nat} {l0 l1 l2 l3 : AV} {st : List AV} {x : Int} {σ : Sg} {Q : AV → Sg → Prop}  : Rn d m_X0_digestBehind 128 [l0, l1, l2, l3] (vI x :: st) σ Q ↔ Rn d m_X0_digestBehind 129 [l0, l1, l2, vI x] st σ Q := q6 (show fnd (pgm m_X0_digestBehind) 128 = some (129, 6, 0, 3, 0, []) from rfl) (by decide : 3 < 4)
set_option maxRecDepth 100000 in
theorem s_X0_digestBehind_129 {d : Nat} {l0 l1 l2 : AV} {st : List AV} {x : Int} {σ : Sg} {Q : AV → Sg → Prop}  : Rn d m_X0_digestBehind 129 [l0, l1, l2, vI x] st σ Q ↔ Rn d m_X0_digestBehind 130 [l0, l1, l2, vI x] (vI x :: st) σ Q := q3 (show fnd (pgm m_X0_digestBehind) 129 = some (130, 3, 0, 3, 0, []) from rfl) rfl
set_option maxRecDepth 100000 in
theorem s_X0_digestBehind_130 {d : Nat} {l0 l1 l2 l3 : AV} {st : List AV} {σ : Sg} {Q : AV → Sg → Prop}  : Rn d m_X0_digestBehind 130 [l0, l1, l2, l3] st σ Q ↔ Rn d m_X0_digestBehind 132 [l0, l1, l2, l3] (vI 20 :: st) σ Q := q0 (show fnd (pgm m_X0_digestBehind) 130 = some (132, 0, 20, 1, 0, []) from rfl)
set_option maxRecDepth 100000 in
theorem s_X0_digestBehind_132 {d : Nat} {l0 l1 l2 l3 : AV} {st : List AV} {a b : Int} {σ : Sg} {Q : AV → Sg → Prop}  : Rn d m_X0_digestBehind 132 [l0, l1, l2, l3] (vI b :: vI a :: st) σ Q ↔ if w32 b ≤ w32 a then Rn d m_X0_digestBehind 209 [l0, l1, l2, l3] st σ Q else Rn d m_X0_digestBehind 135 [l0, l1, l2, l3] st σ Q := q20_3 (show fnd (pgm m_X0_digestBehind) 132 = some (135, 20, 0, 3, 209, []) from rfl)
set_option maxRecDepth 100000 in
theorem s_X0_digestBehind_135 {d : Nat} {l0 l1 l2 l3 : AV} {st : List AV} {σ : Sg} {Q : AV → Sg → Prop}  : Rn d m_X0_digestBehind 135 [l0, l1, l2, l3] st σ Q ↔ Rn d m_X0_digestBehind 138 [l0, l1, l2, l3] (vL 31 :: st) σ Q := q1 (show fnd (pgm m_X0_digestBehind) 135 = some (138, 1, 31, 1, 82, []) from rfl)
set_option maxRecDepth 100000 in
theorem s_X0_digestBehind_138 {d : Nat} {l0 l3 : AV} {st : List AV} {x : Int} {σ : Sg} {Q : AV → Sg → Prop}  : Rn d m_X0_digestBehind 138 [l0, vL x, none, l3] st σ Q ↔ Rn d m_X0_digestBehind 139 [l0, vL x, none, l3] (vL x :: st) σ Q := q4 (show fnd (pgm m_X0_digestBehind) 138 = some (139, 4, 0, 1, 0, []) from rfl) rfl rfl
set_option maxRecDepth 100000 in
theorem s_X0_digestBehind_139 {d : Nat} {l0 l1 l2 l3 : AV} {st : List AV} {a b : Int} {σ : Sg} {Q : AV → Sg → Prop}  : Rn d m_X0_digestBehind 139 [l0, l1, l2, l3] (vL b :: vL a :: st) σ Q ↔ Rn d m_X0_digestBehind 140 [l0, l1, l2, l3] (vL (a * b) :: st) σ Q := q11_2 (show fnd (pgm m_X0_digestBehind) 139 = some (140, 11, 0, 2, 0, []) from rfl)
set_option maxRecDepth 100000 in
theorem s_X0_digestBehind_140 {d : Nat} {l1 l2 l3 : AV} {st : List AV} {o : Nat} {σ : Sg} {Q : AV → Sg → Prop} (ho : o ≠ 0) : Rn d m_X0_digestBehind 140 [vR o, l1, l2, l3] st σ Q ↔ Rn d m_X0_digestBehind 141 [vR o, l1, l2, l3] (vR o :: st) σ Q := q5 (show fnd (pgm m_X0_digestBehind) 140 = some (141, 5, 0, 0, 0, []) from rfl) rfl ho
set_option maxRecDepth 100000 in
theorem s_X0_digestBehind_141 {d : Nat} {l0 l1 l2 l3 : AV} {st : List AV} {o : Nat} {σ : Sg} {Q : AV → Sg → Prop} (hk : kn σ o = (0, 0)) : Rn d m_X0_digestBehind 141 [l0, l1, l2, l3] (vR o :: st) σ Q ↔ Rn d m_X0_digestBehind 144 [l0, l1, l2, l3] (vR (tp o 7) :: st) σ Q := q33 (show fnd (pgm m_X0_digestBehind) 141 = some (144, 33, 37, 0, 7, []) from rfl) hk
set_option maxRecDepth 100000 in
theorem s_X0_digestBehind_144 {d : Nat} {l0 l1 l2 l3 : AV} {st : List AV} {o : Nat} {σ : Sg} {Q : AV → Sg → Prop} (hk : kn σ o = (0, 2)) : Rn d m_X0_digestBehind 144 [l0, l1, l2, l3] (vR o :: st) σ Q ↔ Rn d m_X0_digestBehind 147 [l0, l1, l2, l3] (vR (tp o 0) :: st) σ Q := q33 (show fnd (pgm m_X0_digestBehind) 144 = some (147, 33, 88, 2, 0, []) from rfl) hk
set_option maxRecDepth 100000 in
theorem s_X0_digestBehind_147 {d : Nat} {l0 l1 l2 : AV} {st : List AV} {x : Int} {σ : Sg} {Q : AV → Sg → Prop}  : Rn d m_X0_digestBehind 147 [l0, l1, l2, vI x] st σ Q ↔ Rn d m_X0_digestBehind 148 [l0, l1, l2, vI x] (vI x :: st) σ Q := q3 (show fnd (pgm m_X0_digestBehind) 147 = some (148, 3, 0, 3, 0, []) from rfl) rfl
set_option maxRecDepth 100000 in
theorem s_X0_digestBehind_148 {d : Nat} {l0 l1 l2 l3 : AV} {st : List AV} {i : Int} {o : Nat} {σ : Sg} {Q : AV → Sg → Prop} (hi : 0 ≤ w32 i ∧ w32 i < al σ 1 o) : Rn d m_X0_digestBehind 148 [l0, l1, l2, l3] (vI i :: vR o :: st) σ Q ↔ Rn d m_X0_digestBehind 149 [l0, l1, l2, l3] (vI (σ o (w32 i)) :: st) σ Q := q25 (show fnd (pgm m_X0_digestBehind) 148 = some (149, 25, 0, 0, 0, []) from rfl) hi
set_option maxRecDepth 100000 in
theorem s_X0_digestBehind_149 {d : Nat} {l0 l1 l2 l3 : AV} {st : List AV} {a : Int} {σ : Sg} {Q : AV → Sg → Prop}  : Rn d m_X0_digestBehind 149 [l0, l1, l2, l3] (vI a :: st) σ Q ↔ Rn d m_X0_digestBehind 150 [l0, l1, l2, l3] (vL (w32 a) :: st) σ Q := q14 (show fnd (pgm m_X0_digestBehind) 149 = some (150, 14, 0, 0, 0, []) from rfl)
set_option maxRecDepth 100000 in
theorem s_X0_digestBehind_150 {d : Nat} {l0 l1 l2 l3 : AV} {st : List AV} {a b : Int} {σ : Sg} {Q : AV → Sg → Prop}  : Rn d m_X0_digestBehind 150 [l0, l1, l2, l3] (vL b :: vL a :: st) σ Q ↔ Rn d m_X0_digestBehind 151 [l0, l1, l2, l3] (vL (a + b) :: st) σ Q := q11_0 (show fnd (pgm m_X0_digestBehind) 150 = some (151, 11, 0, 0, 0, []) from rfl)
set_option maxRecDepth 100000 in
theorem s_X0_digestBehind_151 {d : Nat} {l0 l1 l2 l3 : AV} {st : List AV} {x : Int} {σ : Sg} {Q : AV → Sg → Prop}  : Rn d m_X0_digestBehind 151 [l0, l1, l2, l3] (vL x :: st) σ Q ↔ Rn d m_X0_digestBehind 152 [l0, vL x, none, l3] st σ Q := q7 (show fnd (pgm m_X0_digestBehind) 151 = some (152, 7, 0, 1, 0, []) from rfl) (by decide : 2 < 4)
set_option maxRecDepth 100000 in
theorem s_X0_digestBehind_152 {d : Nat} {l0 l1 l2 l3 : AV} {st : List AV} {σ : Sg} {Q : AV → Sg → Prop}  : Rn d m_X0_digestBehind 152 [l0, l1, l2, l3] st σ Q ↔ Rn d m_X0_digestBehind 155 [l0, l1, l2, l3] (vL 31 :: st) σ Q := q1 (show fnd (pgm m_X0_digestBehind) 152 = some (155, 1, 31, 1, 82, []) from rfl)
set_option maxRecDepth 100000 in
theorem s_X0_digestBehind_155 {d : Nat} {l0 l3 : AV} {st : List AV} {x : Int} {σ : Sg} {Q : AV → Sg → Prop}  : Rn d m_X0_digestBehind 155 [l0, vL x, none, l3] st σ Q ↔ Rn d m_X0_digestBehind 156 [l0, vL x, none, l3] (vL x :: st) σ Q := q4 (show fnd (pgm m_X0_digestBehind) 155 = some (156, 4, 0, 1, 0, []) from rfl) rfl rfl
set_option maxRecDepth 100000 in
theorem s_X0_digestBehind_156 {d : Nat} {l0 l1 l2 l3 : AV} {st : List AV} {a b : Int} {σ : Sg} {Q : AV → Sg → Prop}  : Rn d m_X0_digestBehind 156 [l0, l1, l2, l3] (vL b :: vL a :: st) σ Q ↔ Rn d m_X0_digestBehind 157 [l0, l1, l2, l3] (vL (a * b) :: st) σ Q := q11_2 (show fnd (pgm m_X0_digestBehind) 156 = some (157, 11, 0, 2, 0, []) from rfl)
set_option maxRecDepth 100000 in
theorem s_X0_digestBehind_157 {d : Nat} {l1 l2 l3 : AV} {st : List AV} {o : Nat} {σ : Sg} {Q : AV → Sg → Prop} (ho : o ≠ 0) : Rn d m_X0_digestBehind 157 [vR o, l1, l2, l3] st σ Q ↔ Rn d m_X0_digestBehind 158 [vR o, l1, l2, l3] (vR o :: st) σ Q := q5 (show fnd (pgm m_X0_digestBehind) 157 = some (158, 5, 0, 0, 0, []) from rfl) rfl ho
set_option maxRecDepth 100000 in
theorem s_X0_digestBehind_158 {d : Nat} {l0 l1 l2 l3 : AV} {st : List AV} {o : Nat} {σ : Sg} {Q : AV → Sg → Prop} (hk : kn σ o = (0, 0)) : Rn d m_X0_digestBehind 158 [l0, l1, l2, l3] (vR o :: st) σ Q ↔ Rn d m_X0_digestBehind 161 [l0, l1, l2, l3] (vR (tp o 7) :: st) σ Q := q33 (show fnd (pgm m_X0_digestBehind) 158 = some (161, 33, 37, 0, 7, []) from rfl) hk
set_option maxRecDepth 100000 in
theorem s_X0_digestBehind_161 {d : Nat} {l0 l1 l2 l3 : AV} {st : List AV} {o : Nat} {σ : Sg} {Q : AV → Sg → Prop} (hk : kn σ o = (0, 2)) : Rn d m_X0_digestBehind 161 [l0, l1, l2, l3] (vR o :: st) σ Q ↔ Rn d m_X0_digestBehind 164 [l0, l1, l2, l3] (vR (tp o 1) :: st) σ Q := q33 (show fnd (pgm m_X0_digestBehind) 161 = some (164, 33, 91, 2, 1, []) from rfl) hk
set_option maxRecDepth 100000 in
theorem s_X0_digestBehind_164 {d : Nat} {l0 l1 l2 : AV} {st : List AV} {x : Int} {σ : Sg} {Q : AV → Sg → Prop}  : Rn d m_X0_digestBehind 164 [l0, l1, l2, vI x] st σ Q ↔ Rn d m_X0_digestBehind 165 [l0, l1, l2, vI x] (vI x :: st) σ Q := q3 (show fnd (pgm m_X0_digestBehind) 164 = some (165, 3, 0, 3, 0, []) from rfl) rfl
set_option maxRecDepth 100000 in
theorem s_X0_digestBehind_165 {d : Nat} {l0 l1 l2 l3 : AV} {st : List AV} {i : Int} {o : Nat} {σ : Sg} {Q : AV → Sg → Prop} (hi : 0 ≤ w32 i ∧ w32 i < al σ 1 o) : Rn d m_X0_digestBehind 165 [l0, l1, l2, l3] (vI i :: vR o :: st) σ Q ↔ Rn d m_X0_digestBehind 166 [l0, l1, l2, l3] (vI (σ o (w32 i)) :: st) σ Q := q25 (show fnd (pgm m_X0_digestBehind) 165 = some (166, 25, 0, 0, 0, []) from rfl) hi
set_option maxRecDepth 100000 in
theorem s_X0_digestBehind_166 {d : Nat} {l0 l1 l2 l3 : AV} {st : List AV} {a : Int} {σ : Sg} {Q : AV → Sg → Prop}  : Rn d m_X0_digestBehind 166 [l0, l1, l2, l3] (vI a :: st) σ Q ↔ Rn d m_X0_digestBehind 167 [l0, l1, l2, l3] (vL (w32 a) :: st) σ Q := q14 (show fnd (pgm m_X0_digestBehind) 166 = some (167, 14, 0, 0, 0, []) from rfl)
set_option maxRecDepth 100000 in
theorem s_X0_digestBehind_167 {d : Nat} {l0 l1 l2 l3 : AV} {st : List AV} {a b : Int} {σ : Sg} {Q : AV → Sg → Prop}  : Rn d m_X0_digestBehind 167 [l0, l1, l2, l3] (vL b :: vL a :: st) σ Q ↔ Rn d m_X0_digestBehind 168 [l0, l1, l2, l3] (vL (a + b) :: st) σ Q := q11_0 (show fnd (pgm m_X0_digestBehind) 167 = some (168, 11, 0, 0, 0, []) from rfl)
set_option maxRecDepth 100000 in
theorem s_X0_digestBehind_168 {d : Nat} {l0 l1 l2 l3 : AV} {st : List AV} {x : Int} {σ : Sg} {Q : AV → Sg → Prop}  : Rn d m_X0_digestBehind 168 [l0, l1, l2, l3] (vL x :: st) σ Q ↔ Rn d m_X0_digestBehind 169 [l0, vL x, none, l3] st σ Q := q7 (show fnd (pgm m_X0_digestBehind) 168 = some (169, 7, 0, 1, 0, []) from rfl) (by decide : 2 < 4)
set_option maxRecDepth 100000 in
theorem s_X0_digestBehind_169 {d : Nat} {l0 l1 l2 l3 : AV} {st : List AV} {σ : Sg} {Q : AV → Sg → Prop}  : Rn d m_X0_digestBehind 169 [l0, l1, l2, l3] st σ Q ↔ Rn d m_X0_digestBehind 172 [l0, l1, l2, l3] (vL 31 :: st) σ Q := q1 (show fnd (pgm m_X0_digestBehind) 169 = some (172, 1, 31, 1, 82, []) from rfl)
set_option maxRecDepth 100000 in
theorem s_X0_digestBehind_172 {d : Nat} {l0 l3 : AV} {st : List AV} {x : Int} {σ : Sg} {Q : AV → Sg → Prop}  : Rn d m_X0_digestBehind 172 [l0, vL x, none, l3] st σ Q ↔ Rn d m_X0_digestBehind 173 [l0, vL x, none, l3] (vL x :: st) σ Q := q4 (show fnd (pgm m_X0_digestBehind) 172 = some (173, 4, 0, 1, 0, []) from rfl) rfl rfl
set_option maxRecDepth 100000 in
theorem s_X0_digestBehind_173 {d : Nat} {l0 l1 l2 l3 : AV} {st : List AV} {a b : Int} {σ : Sg} {Q : AV → Sg → Prop}  : Rn d m_X0_digestBehind 173 [l0, l1, l2, l3] (vL b :: vL a :: st) σ Q ↔ Rn d m_X0_digestBehind 174 [l0, l1, l2, l3] (vL (a * b) :: st) σ Q := q11_2 (show fnd (pgm m_X0_digestBehind) 173 = some (174, 11, 0, 2, 0, []) from rfl)
set_option maxRecDepth 100000 in
theorem s_X0_digestBehind_174 {d : Nat} {l1 l2 l3 : AV} {st : List AV} {o : Nat} {σ : Sg} {Q : AV → Sg → Prop} (ho : o ≠ 0) : Rn d m_X0_digestBehind 174 [vR o, l1, l2, l3] st σ Q ↔ Rn d m_X0_digestBehind 175 [vR o, l1, l2, l3] (vR o :: st) σ Q := q5 (show fnd (pgm m_X0_digestBehind) 174 = some (175, 5, 0, 0, 0, []) from rfl) rfl ho
set_option maxRecDepth 100000 in
theorem s_X0_digestBehind_175 {d : Nat} {l0 l1 l2 l3 : AV} {st : List AV} {o : Nat} {σ : Sg} {Q : AV → Sg → Prop} (hk : kn σ o = (0, 0)) : Rn d m_X0_digestBehind 175 [l0, l1, l2, l3] (vR o :: st) σ Q ↔ Rn d m_X0_digestBehind 178 [l0, l1, l2, l3] (vR (tp o 7) :: st) σ Q := q33 (show fnd (pgm m_X0_digestBehind) 175 = some (178, 33, 37, 0, 7, []) from rfl) hk
set_option maxRecDepth 100000 in
theorem s_X0_digestBehind_178 {d : Nat} {l0 l1 l2 l3 : AV} {st : List AV} {o : Nat} {σ : Sg} {Q : AV → Sg → Prop} (hk : kn σ o = (0, 2)) : Rn d m_X0_digestBehind 178 [l0, l1, l2, l3] (vR o :: st) σ Q ↔ Rn d m_X0_digestBehind 181 [l0, l1, l2, l3] (vR (tp o 2) :: st) σ Q := q33 (show fnd (pgm m_X0_digestBehind) 178 = some (181, 33, 94, 2, 2, []) from rfl) hk
set_option maxRecDepth 100000 in
theorem s_X0_digestBehind_181 {d : Nat} {l0 l1 l2 : AV} {st : List AV} {x : Int} {σ : Sg} {Q : AV → Sg → Prop}  : Rn d m_X0_digestBehind 181 [l0, l1, l2, vI x] st σ Q ↔ Rn d m_X0_digestBehind 182 [l0, l1, l2, vI x] (vI x :: st) σ Q := q3 (show fnd (pgm m_X0_digestBehind) 181 = some (182, 3, 0, 3, 0, []) from rfl) rfl
set_option maxRecDepth 100000 in
theorem s_X0_digestBehind_182 {d : Nat} {l0 l1 l2 l3 : AV} {st : List AV} {i : Int} {o : Nat} {σ : Sg} {Q : AV → Sg → Prop} (hi : 0 ≤ w32 i ∧ w32 i < al σ 1 o) : Rn d m_X0_digestBehind 182 [l0, l1, l2, l3] (vI i :: vR o :: st) σ Q ↔ Rn d m_X0_digestBehind 183 [l0, l1, l2, l3] (vI (σ o (w32 i)) :: st) σ Q := q25 (show fnd (pgm m_X0_digestBehind) 182 = some (183, 25, 0, 0, 0, []) from rfl) hi
set_option maxRecDepth 100000 in
theorem s_X0_digestBehind_183 {d : Nat} {l0 l1 l2 l3 : AV} {st : List AV} {a : Int} {σ : Sg} {Q : AV → Sg → Prop}  : Rn d m_X0_digestBehind 183 [l0, l1, l2, l3] (vI a :: st) σ Q ↔ Rn d m_X0_digestBehind 184 [l0, l1, l2, l3] (vL (w32 a) :: st) σ Q := q14 (show fnd (pgm m_X0_digestBehind) 183 = some (184, 14, 0, 0, 0, []) from rfl)
set_option maxRecDepth 100000 in
theorem s_X0_digestBehind_184 {d : Nat} {l0 l1 l2 l3 : AV} {st : List AV} {a b : Int} {σ : Sg} {Q : AV → Sg → Prop}  : Rn d m_X0_digestBehind 184 [l0, l1, l2, l3] (vL b :: vL a :: st) σ Q ↔ Rn d m_X0_digestBehind 185 [l0, l1, l2, l3] (vL (a + b) :: st) σ Q := q11_0 (show fnd (pgm m_X0_digestBehind) 184 = some (185, 11, 0, 0, 0, []) from rfl)
set_option maxRecDepth 100000 in
theorem s_X0_digestBehind_185 {d : Nat} {l0 l1 l2 l3 : AV} {st : List AV} {x : Int} {σ : Sg} {Q : AV → Sg → Prop}  : Rn d m_X0_digestBehind 185 [l0, l1, l2, l3] (vL x :: st) σ Q ↔ Rn d m_X0_digestBehind 186 [l0, vL x, none, l3] st σ Q := q7 (show fnd (pgm m_X0_digestBehind) 185 = some (186, 7, 0, 1, 0, []) from rfl) (by decide : 2 < 4)
set_option maxRecDepth 100000 in
theorem s_X0_digestBehind_186 {d : Nat} {l0 l1 l2 l3 : AV} {st : List AV} {σ : Sg} {Q : AV → Sg → Prop}  : Rn d m_X0_digestBehind 186 [l0, l1, l2, l3] st σ Q ↔ Rn d m_X0_digestBehind 189 [l0, l1, l2, l3] (vL 31 :: st) σ Q := q1 (show fnd (pgm m_X0_digestBehind) 186 = some (189, 1, 31, 1, 82, []) from rfl)
set_option maxRecDepth 100000 in
theorem s_X0_digestBehind_189 {d : Nat} {l0 l3 : AV} {st : List AV} {x : Int} {σ : Sg} {Q : AV → Sg → Prop}  : Rn d m_X0_digestBehind 189 [l0, vL x, none, l3] st σ Q ↔ Rn d m_X0_digestBehind 190 [l0, vL x, none, l3] (vL x :: st) σ Q := q4 (show fnd (pgm m_X0_digestBehind) 189 = some (190, 4, 0, 1, 0, []) from rfl) rfl rfl
set_option maxRecDepth 100000 in
theorem s_X0_digestBehind_190 {d : Nat} {l0 l1 l2 l3 : AV} {st : List AV} {a b : Int} {σ : Sg} {Q : AV → Sg → Prop}  : Rn d m_X0_digestBehind 190 [l0, l1, l2, l3] (vL b :: vL a :: st) σ Q ↔ Rn d m_X0_digestBehind 191 [l0, l1, l2, l3] (vL (a * b) :: st) σ Q := q11_2 (show fnd (pgm m_X0_digestBehind) 190 = some (191, 11, 0, 2, 0, []) from rfl)
set_option maxRecDepth 100000 in
theorem s_X0_digestBehind_191 {d : Nat} {l1 l2 l3 : AV} {st : List AV} {o : Nat} {σ : Sg} {Q : AV → Sg → Prop} (ho : o ≠ 0) : Rn d m_X0_digestBehind 191 [vR o, l1, l2, l3] st σ Q ↔ Rn d m_X0_digestBehind 192 [vR o, l1, l2, l3] (vR o :: st) σ Q := q5 (show fnd (pgm m_X0_digestBehind) 191 = some (192, 5, 0, 0, 0, []) from rfl) rfl ho
set_option maxRecDepth 100000 in
theorem s_X0_digestBehind_192 {d : Nat} {l0 l1 l2 l3 : AV} {st : List AV} {o : Nat} {σ : Sg} {Q : AV → Sg → Prop} (hk : kn σ o = (0, 0)) : Rn d m_X0_digestBehind 192 [l0, l1, l2, l3] (vR o :: st) σ Q ↔ Rn d m_X0_digestBehind 195 [l0, l1, l2, l3] (vR (tp o 7) :: st) σ Q := q33 (show fnd (pgm m_X0_digestBehind) 192 = some (195, 33, 37, 0, 7, []) from rfl) hk
set_option maxRecDepth 100000 in
theorem s_X0_digestBehind_195 {d : Nat} {l0 l1 l2 l3 : AV} {st : List AV} {o : Nat} {σ : Sg} {Q : AV → Sg → Prop} (hk : kn σ o = (0, 2)) : Rn d m_X0_digestBehind 195 [l0, l1, l2, l3] (vR o :: st) σ Q ↔ Rn d m_X0_digestBehind 198 [l0, l1, l2, l3] (vR (tp o 3) :: st) σ Q := q33 (show fnd (pgm m_X0_digestBehind) 195 = some (198, 33, 97, 2, 3, []) from rfl) hk
set_option maxRecDepth 100000 in
theorem s_X0_digestBehind_198 {d : Nat} {l0 l1 l2 : AV} {st : List AV} {x : Int} {σ : Sg} {Q : AV → Sg → Prop}  : Rn d m_X0_digestBehind 198 [l0, l1, l2, vI x] st σ Q ↔ Rn d m_X0_digestBehind 199 [l0, l1, l2, vI x] (vI x :: st) σ Q := q3 (show fnd (pgm m_X0_digestBehind) 198 = some (199, 3, 0, 3, 0, []) from rfl) rfl
set_option maxRecDepth 100000 in
theorem s_X0_digestBehind_199 {d : Nat} {l0 l1 l2 l3 : AV} {st : List AV} {i : Int} {o : Nat} {σ : Sg} {Q : AV → Sg → Prop} (hi : 0 ≤ w32 i ∧ w32 i < al σ 1 o) : Rn d m_X0_digestBehind 199 [l0, l1, l2, l3] (vI i :: vR o :: st) σ Q ↔ Rn d m_X0_digestBehind 200 [l0, l1, l2, l3] (vI (σ o (w32 i)) :: st) σ Q := q25 (show fnd (pgm m_X0_digestBehind) 199 = some (200, 25, 0, 0, 0, []) from rfl) hi
set_option maxRecDepth 100000 in
theorem s_X0_digestBehind_200 {d : Nat} {l0 l1 l2 l3 : AV} {st : List AV} {a : Int} {σ : Sg} {Q : AV → Sg → Prop}  : Rn d m_X0_digestBehind 200 [l0, l1, l2, l3] (vI a :: st) σ Q ↔ Rn d m_X0_digestBehind 201 [l0, l1, l2, l3] (vL (w32 a) :: st) σ Q := q14 (show fnd (pgm m_X0_digestBehind) 200 = some (201, 14, 0, 0, 0, []) from rfl)
set_option maxRecDepth 100000 in
theorem s_X0_digestBehind_201 {d : Nat} {l0 l1 l2 l3 : AV} {st : List AV} {a b : Int} {σ : Sg} {Q : AV → Sg → Prop}  : Rn d m_X0_digestBehind 201 [l0, l1, l2, l3] (vL b :: vL a :: st) σ Q ↔ Rn d m_X0_digestBehind 202 [l0, l1, l2, l3] (vL (a + b) :: st) σ Q := q11_0 (show fnd (pgm m_X0_digestBehind) 201 = some (202, 11, 0, 0, 0, []) from rfl)
set_option maxRecDepth 100000 in
theorem s_X0_digestBehind_202 {d : Nat} {l0 l1 l2 l3 : AV} {st : List AV} {x : Int} {σ : Sg} {Q : AV → Sg → Prop}  : Rn d m_X0_digestBehind 202 [l0, l1, l2, l3] (vL x :: st) σ Q ↔ Rn d m_X0_digestBehind 203 [l0, vL x, none, l3] st σ Q := q7 (show fnd (pgm m_X0_digestBehind) 202 = some (203, 7, 0, 1, 0, []) from rfl) (by decide : 2 < 4)
set_option maxRecDepth 100000 in
theorem s_X0_digestBehind_203 {d : Nat} {l0 l1 l2 : AV} {st : List AV} {x : Int} {σ : Sg} {Q : AV → Sg → Prop}  : Rn d m_X0_digestBehind 203 [l0, l1, l2, vI x] st σ Q ↔ Rn d m_X0_digestBehind 206 [l0, l1, l2, vI (x + 1)] st σ Q := q9 (show fnd (pgm m_X0_digestBehind) 203 = some (206, 9, 1, 3, 0, []) from rfl) rfl
set_option maxRecDepth 100000 in
theorem s_X0_digestBehind_206 {d : Nat} {l0 l1 l2 l3 : AV} {st : List AV} {σ : Sg} {Q : AV → Sg → Prop}  : Rn d m_X0_digestBehind 206 [l0, l1, l2, l3] st σ Q ↔ Rn d m_X0_digestBehind 129 [l0, l1, l2, l3] st σ Q := q21 (show fnd (pgm m_X0_digestBehind) 206 = some (209, 21, 0, 0, 129, []) from rfl)
set_option maxRecDepth 100000 in
theorem s_X0_digestBehind_209 {d : Nat} {l0 l1 l2 l3 : AV} {st : List AV} {σ : Sg} {Q : AV → Sg → Prop}  : Rn d m_X0_digestBehind 209 [l0, l1, l2, l3] st σ Q ↔ Rn d m_X0_digestBehind 210 [l0, l1, l2, l3] (vI 0 :: st) σ Q := q0 (show fnd (pgm m_X0_digestBehind) 209 = some (210, 0, 0, 0, 0, []) from rfl)
set_option maxRecDepth 100000 in
theorem s_X0_digestBehind_210 {d : Nat} {l0 l1 l2 l3 : AV} {st : List AV} {x : Int} {σ : Sg} {Q : AV → Sg → Prop}  : Rn d m_X0_digestBehind 210 [l0, l1, l2, l3] (vI x :: st) σ Q ↔ Rn d m_X0_digestBehind 211 [l0, l1, l2, vI x] st σ Q := q6 (show fnd (pgm m_X0_digestBehind) 210 = some (211, 6, 0, 3, 0, []) from rfl) (by decide : 3 < 4)
set_option maxRecDepth 100000 in
theorem s_X0_digestBehind_211 {d : Nat} {l0 l1 l2 : AV} {st : List AV} {x : Int} {σ : Sg} {Q : AV → Sg → Prop}  : Rn d m_X0_digestBehind 211 [l0, l1, l2, vI x] st σ Q ↔ Rn d m_X0_digestBehind 212 [l0, l1, l2, vI x] (vI x :: st) σ Q := q3 (show fnd (pgm m_X0_digestBehind) 211 = some (212, 3, 0, 3, 0, []) from rfl) rfl
set_option maxRecDepth 100000 in
theorem s_X0_digestBehind_212 {d : Nat} {l1 l2 l3 : AV} {st : List AV} {o : Nat} {σ : Sg} {Q : AV → Sg → Prop} (ho : o ≠ 0) : Rn d m_X0_digestBehind 212 [vR o, l1, l2, l3] st σ Q ↔ Rn d m_X0_digestBehind 213 [vR o, l1, l2, l3] (vR o :: st) σ Q := q5 (show fnd (pgm m_X0_digestBehind) 212 = some (213, 5, 0, 0, 0, []) from rfl) rfl ho
set_option maxRecDepth 100000 in
theorem s_X0_digestBehind_213 {d : Nat} {l0 l1 l2 l3 : AV} {st : List AV} {o : Nat} {σ : Sg} {Q : AV → Sg → Prop} (hk : kn σ o = (0, 0)) : Rn d m_X0_digestBehind 213 [l0, l1, l2, l3] (vR o :: st) σ Q ↔ Rn d m_X0_digestBehind 216 [l0, l1, l2, l3] (vI (σ o 9) :: st) σ Q := q33 (show fnd (pgm m_X0_digestBehind) 213 = some (216, 33, 44, 0, 9, []) from rfl) hk
set_option maxRecDepth 100000 in
theorem s_X0_digestBehind_216 {d : Nat} {l0 l1 l2 l3 : AV} {st : List AV} {a b : Int} {σ : Sg} {Q : AV → Sg → Prop}  : Rn d m_X0_digestBehind 216 [l0, l1, l2, l3] (vI b :: vI a :: st) σ Q ↔ if w32 b ≤ w32 a then Rn d m_X0_digestBehind 239 [l0, l1, l2, l3] st σ Q else Rn d m_X0_digestBehind 219 [l0, l1, l2, l3] st σ Q := q20_3 (show fnd (pgm m_X0_digestBehind) 216 = some (219, 20, 0, 3, 239, []) from rfl)
set_option maxRecDepth 100000 in
theorem s_X0_digestBehind_219 {d : Nat} {l0 l1 l2 l3 : AV} {st : List AV} {σ : Sg} {Q : AV → Sg → Prop}  : Rn d m_X0_digestBehind 219 [l0, l1, l2, l3] st σ Q ↔ Rn d m_X0_digestBehind 222 [l0, l1, l2, l3] (vL 31 :: st) σ Q := q1 (show fnd (pgm m_X0_digestBehind) 219 = some (222, 1, 31, 1, 82, []) from rfl)
set_option maxRecDepth 100000 in
theorem s_X0_digestBehind_222 {d : Nat} {l0 l3 : AV} {st : List AV} {x : Int} {σ : Sg} {Q : AV → Sg → Prop}  : Rn d m_X0_digestBehind 222 [l0, vL x, none, l3] st σ Q ↔ Rn d m_X0_digestBehind 223 [l0, vL x, none, l3] (vL x :: st) σ Q := q4 (show fnd (pgm m_X0_digestBehind) 222 = some (223, 4, 0, 1, 0, []) from rfl) rfl rfl
set_option maxRecDepth 100000 in
theorem s_X0_digestBehind_223 {d : Nat} {l0 l1 l2 l3 : AV} {st : List AV} {a b : Int} {σ : Sg} {Q : AV → Sg → Prop}  : Rn d m_X0_digestBehind 223 [l0, l1, l2, l3] (vL b :: vL a :: st) σ Q ↔ Rn d m_X0_digestBehind 224 [l0, l1, l2, l3] (vL (a * b) :: st) σ Q := q11_2 (show fnd (pgm m_X0_digestBehind) 223 = some (224, 11, 0, 2, 0, []) from rfl)
set_option maxRecDepth 100000 in
theorem s_X0_digestBehind_224 {d : Nat} {l1 l2 l3 : AV} {st : List AV} {o : Nat} {σ : Sg} {Q : AV → Sg → Prop} (ho : o ≠ 0) : Rn d m_X0_digestBehind 224 [vR o, l1, l2, l3] st σ Q ↔ Rn d m_X0_digestBehind 225 [vR o, l1, l2, l3] (vR o :: st) σ Q := q5 (show fnd (pgm m_X0_digestBehind) 224 = some (225, 5, 0, 0, 0, []) from rfl) rfl ho
set_option maxRecDepth 100000 in
theorem s_X0_digestBehind_225 {d : Nat} {l0 l1 l2 l3 : AV} {st : List AV} {o : Nat} {σ : Sg} {Q : AV → Sg → Prop} (hk : kn σ o = (0, 0)) : Rn d m_X0_digestBehind 225 [l0, l1, l2, l3] (vR o :: st) σ Q ↔ Rn d m_X0_digestBehind 228 [l0, l1, l2, l3] (vR (tp o 8) :: st) σ Q := q33 (show fnd (pgm m_X0_digestBehind) 225 = some (228, 33, 41, 0, 8, []) from rfl) hk
set_option maxRecDepth 100000 in
theorem s_X0_digestBehind_228 {d : Nat} {l0 l1 l2 : AV} {st : List AV} {x : Int} {σ : Sg} {Q : AV → Sg → Prop}  : Rn d m_X0_digestBehind 228 [l0, l1, l2, vI x] st σ Q ↔ Rn d m_X0_digestBehind 229 [l0, l1, l2, vI x] (vI x :: st) σ Q := q3 (show fnd (pgm m_X0_digestBehind) 228 = some (229, 3, 0, 3, 0, []) from rfl) rfl
set_option maxRecDepth 100000 in
theorem s_X0_digestBehind_229 {d : Nat} {l0 l1 l2 l3 : AV} {st : List AV} {i : Int} {o : Nat} {σ : Sg} {Q : AV → Sg → Prop} (hi : 0 ≤ w32 i ∧ w32 i < al σ 1 o) : Rn d m_X0_digestBehind 229 [l0, l1, l2, l3] (vI i :: vR o :: st) σ Q ↔ Rn d m_X0_digestBehind 230 [l0, l1, l2, l3] (vI (σ o (w32 i)) :: st) σ Q := q25 (show fnd (pgm m_X0_digestBehind) 229 = some (230, 25, 0, 0, 0, []) from rfl) hi
set_option maxRecDepth 100000 in
theorem s_X0_digestBehind_230 {d : Nat} {l0 l1 l2 l3 : AV} {st : List AV} {a : Int} {σ : Sg} {Q : AV → Sg → Prop}  : Rn d m_X0_digestBehind 230 [l0, l1, l2, l3] (vI a :: st) σ Q ↔ Rn d m_X0_digestBehind 231 [l0, l1, l2, l3] (vL (w32 a) :: st) σ Q := q14 (show fnd (pgm m_X0_digestBehind) 230 = some (231, 14, 0, 0, 0, []) from rfl)
set_option maxRecDepth 100000 in
theorem s_X0_digestBehind_231 {d : Nat} {l0 l1 l2 l3 : AV} {st : List AV} {a b : Int} {σ : Sg} {Q : AV → Sg → Prop}  : Rn d m_X0_digestBehind 231 [l0, l1, l2, l3] (vL b :: vL a :: st) σ Q ↔ Rn d m_X0_digestBehind 232 [l0, l1, l2, l3] (vL (a + b) :: st) σ Q := q11_0 (show fnd (pgm m_X0_digestBehind) 231 = some (232, 11, 0, 0, 0, []) from rfl)
set_option maxRecDepth 100000 in
theorem s_X0_digestBehind_232 {d : Nat} {l0 l1 l2 l3 : AV} {st : List AV} {x : Int} {σ : Sg} {Q : AV → Sg → Prop}  : Rn d m_X0_digestBehind 232 [l0, l1, l2, l3] (vL x :: st) σ Q ↔ Rn d m_X0_digestBehind 233 [l0, vL x, none, l3] st σ Q := q7 (show fnd (pgm m_X0_digestBehind) 232 = some (233, 7, 0, 1, 0, []) from rfl) (by decide : 2 < 4)
set_option maxRecDepth 100000 in
theorem s_X0_digestBehind_233 {d : Nat} {l0 l1 l2 : AV} {st : List AV} {x : Int} {σ : Sg} {Q : AV → Sg → Prop}  : Rn d m_X0_digestBehind 233 [l0, l1, l2, vI x] st σ Q ↔ Rn d m_X0_digestBehind 236 [l0, l1, l2, vI (x + 1)] st σ Q := q9 (show fnd (pgm m_X0_digestBehind) 233 = some (236, 9, 1, 3, 0, []) from rfl) rfl
set_option maxRecDepth 100000 in
theorem s_X0_digestBehind_236 {d : Nat} {l0 l1 l2 l3 : AV} {st : List AV} {σ : Sg} {Q : AV → Sg → Prop}  : Rn d m_X0_digestBehind 236 [l0, l1, l2, l3] st σ Q ↔ Rn d m_X0_digestBehind 211 [l0, l1, l2, l3] st σ Q := q21 (show fnd (pgm m_X0_digestBehind) 236 = some (239, 21, 0, 0, 211, []) from rfl)
set_option maxRecDepth 100000 in
theorem s_X0_digestBehind_239 {d : Nat} {l0 l1 l2 l3 : AV} {st : List AV} {σ : Sg} {Q : AV → Sg → Prop}  : Rn d m_X0_digestBehind 239 [l0, l1, l2, l3] st σ Q ↔ Rn d m_X0_digestBehind 242 [l0, l1, l2, l3] (vL 31 :: st) σ Q := q1 (show fnd (pgm m_X0_digestBehind) 239 = some (242, 1, 31, 1, 82, []) from rfl)
set_option maxRecDepth 100000 in
theorem s_X0_digestBehind_242 {d : Nat} {l0 l3 : AV} {st : List AV} {x : Int} {σ : Sg} {Q : AV → Sg → Prop}  : Rn d m_X0_digestBehind 242 [l0, vL x, none, l3] st σ Q ↔ Rn d m_X0_digestBehind 243 [l0, vL x, none, l3] (vL x :: st) σ Q := q4 (show fnd (pgm m_X0_digestBehind) 242 = some (243, 4, 0, 1, 0, []) from rfl) rfl rfl
set_option maxRecDepth 100000 in
theorem s_X0_digestBehind_243 {d : Nat} {l0 l1 l2 l3 : AV} {st : List AV} {a b : Int} {σ : Sg} {Q : AV → Sg → Prop}  : Rn d m_X0_digestBehind 243 [l0, l1, l2, l3] (vL b :: vL a :: st) σ Q ↔ Rn d m_X0_digestBehind 244 [l0, l1, l2, l3] (vL (a * b) :: st) σ Q := q11_2 (show fnd (pgm m_X0_digestBehind) 243 = some (244, 11, 0, 2, 0, []) from rfl)
set_option maxRecDepth 100000 in
theorem s_X0_digestBehind_244 {d : Nat} {l1 l2 l3 : AV} {st : List AV} {o : Nat} {σ : Sg} {Q : AV → Sg → Prop} (ho : o ≠ 0) : Rn d m_X0_digestBehind 244 [vR o, l1, l2, l3] st σ Q ↔ Rn d m_X0_digestBehind 245 [vR o, l1, l2, l3] (vR o :: st) σ Q := q5 (show fnd (pgm m_X0_digestBehind) 244 = some (245, 5, 0, 0, 0, []) from rfl) rfl ho
set_option maxRecDepth 100000 in
theorem s_X0_digestBehind_245 {d : Nat} {l0 l1 l2 l3 : AV} {st : List AV} {o : Nat} {σ : Sg} {Q : AV → Sg → Prop} (hk : kn σ o = (0, 0)) : Rn d m_X0_digestBehind 245 [l0, l1, l2, l3] (vR o :: st) σ Q ↔ Rn d m_X0_digestBehind 248 [l0, l1, l2, l3] (vI (σ o 10) :: st) σ Q := q33 (show fnd (pgm m_X0_digestBehind) 245 = some (248, 33, 47, 0, 10, []) from rfl) hk
set_option maxRecDepth 100000 in
theorem s_X0_digestBehind_248 {d : Nat} {l0 l1 l2 l3 : AV} {st : List AV} {a : Int} {σ : Sg} {Q : AV → Sg → Prop}  : Rn d m_X0_digestBehind 248 [l0, l1, l2, l3] (vI a :: st) σ Q ↔ Rn d m_X0_digestBehind 249 [l0, l1, l2, l3] (vL (w32 a) :: st) σ Q := q14 (show fnd (pgm m_X0_digestBehind) 248 = some (249, 14, 0, 0, 0, []) from rfl)
set_option maxRecDepth 100000 in
theorem s_X0_digestBehind_249 {d : Nat} {l0 l1 l2 l3 : AV} {st : List AV} {a b : Int} {σ : Sg} {Q : AV → Sg → Prop}  : Rn d m_X0_digestBehind 249 [l0, l1, l2, l3] (vL b :: vL a :: st) σ Q ↔ Rn d m_X0_digestBehind 250 [l0, l1, l2, l3] (vL (a + b) :: st) σ Q := q11_0 (show fnd (pgm m_X0_digestBehind) 249 = some (250, 11, 0, 0, 0, []) from rfl)
set_option maxRecDepth 100000 in
theorem s_X0_digestBehind_250 {d : Nat} {l0 l1 l2 l3 : AV} {st : List AV} {x : Int} {σ : Sg} {Q : AV → Sg → Prop}  : Rn d m_X0_digestBehind 250 [l0, l1, l2, l3] (vL x :: st) σ Q ↔ Rn d m_X0_digestBehind 251 [l0, vL x, none, l3] st σ Q := q7 (show fnd (pgm m_X0_digestBehind) 250 = some (251, 7, 0, 1, 0, []) from rfl) (by decide : 2 < 4)
set_option maxRecDepth 100000 in
theorem s_X0_digestBehind_251 {d : Nat} {l0 l1 l2 l3 : AV} {st : List AV} {σ : Sg} {Q : AV → Sg → Prop}  : Rn d m_X0_digestBehind 251 [l0, l1, l2, l3] st σ Q ↔ Rn d m_X0_digestBehind 252 [l0, l1, l2, l3] (vI 0 :: st) σ Q := q0 (show fnd (pgm m_X0_digestBehind) 251 = some (252, 0, 0, 0, 0, []) from rfl)
set_option maxRecDepth 100000 in
theorem s_X0_digestBehind_252 {d : Nat} {l0 l1 l2 l3 : AV} {st : List AV} {x : Int} {σ : Sg} {Q : AV → Sg → Prop}  : Rn d m_X0_digestBehind 252 [l0, l1, l2, l3] (vI x :: st) σ Q ↔ Rn d m_X0_digestBehind 253 [l0, l1, l2, vI x] st σ Q := q6 (show fnd (pgm m_X0_digestBehind) 252 = some (253, 6, 0, 3, 0, []) from rfl) (by decide : 3 < 4)
set_option maxRecDepth 100000 in
theorem s_X0_digestBehind_253 {d : Nat} {l0 l1 l2 : AV} {st : List AV} {x : Int} {σ : Sg} {Q : AV → Sg → Prop}  : Rn d m_X0_digestBehind 253 [l0, l1, l2, vI x] st σ Q ↔ Rn d m_X0_digestBehind 254 [l0, l1, l2, vI x] (vI x :: st) σ Q := q3 (show fnd (pgm m_X0_digestBehind) 253 = some (254, 3, 0, 3, 0, []) from rfl) rfl
set_option maxRecDepth 100000 in
theorem s_X0_digestBehind_254 {d : Nat} {l1 l2 l3 : AV} {st : List AV} {o : Nat} {σ : Sg} {Q : AV → Sg → Prop} (ho : o ≠ 0) : Rn d m_X0_digestBehind 254 [vR o, l1, l2, l3] st σ Q ↔ Rn d m_X0_digestBehind 255 [vR o, l1, l2, l3] (vR o :: st) σ Q := q5 (show fnd (pgm m_X0_digestBehind) 254 = some (255, 5, 0, 0, 0, []) from rfl) rfl ho
set_option maxRecDepth 100000 in
theorem s_X0_digestBehind_255 {d : Nat} {l0 l1 l2 l3 : AV} {st : List AV} {o : Nat} {σ : Sg} {Q : AV → Sg → Prop} (hk : kn σ o = (0, 0)) : Rn d m_X0_digestBehind 255 [l0, l1, l2, l3] (vR o :: st) σ Q ↔ Rn d m_X0_digestBehind 258 [l0, l1, l2, l3] (vI (σ o 0) :: st) σ Q := q33 (show fnd (pgm m_X0_digestBehind) 255 = some (258, 33, 9, 0, 0, []) from rfl) hk
set_option maxRecDepth 100000 in
theorem s_X0_digestBehind_258 {d : Nat} {l0 l1 l2 l3 : AV} {st : List AV} {a b : Int} {σ : Sg} {Q : AV → Sg → Prop}  : Rn d m_X0_digestBehind 258 [l0, l1, l2, l3] (vI b :: vI a :: st) σ Q ↔ if w32 b ≤ w32 a then Rn d m_X0_digestBehind 281 [l0, l1, l2, l3] st σ Q else Rn d m_X0_digestBehind 261 [l0, l1, l2, l3] st σ Q := q20_3 (show fnd (pgm m_X0_digestBehind) 258 = some (261, 20, 0, 3, 281, []) from rfl)
set_option maxRecDepth 100000 in
theorem s_X0_digestBehind_261 {d : Nat} {l0 l1 l2 l3 : AV} {st : List AV} {σ : Sg} {Q : AV → Sg → Prop}  : Rn d m_X0_digestBehind 261 [l0, l1, l2, l3] st σ Q ↔ Rn d m_X0_digestBehind 264 [l0, l1, l2, l3] (vL 31 :: st) σ Q := q1 (show fnd (pgm m_X0_digestBehind) 261 = some (264, 1, 31, 1, 82, []) from rfl)
set_option maxRecDepth 100000 in
theorem s_X0_digestBehind_264 {d : Nat} {l0 l3 : AV} {st : List AV} {x : Int} {σ : Sg} {Q : AV → Sg → Prop}  : Rn d m_X0_digestBehind 264 [l0, vL x, none, l3] st σ Q ↔ Rn d m_X0_digestBehind 265 [l0, vL x, none, l3] (vL x :: st) σ Q := q4 (show fnd (pgm m_X0_digestBehind) 264 = some (265, 4, 0, 1, 0, []) from rfl) rfl rfl
set_option maxRecDepth 100000 in
theorem s_X0_digestBehind_265 {d : Nat} {l0 l1 l2 l3 : AV} {st : List AV} {a b : Int} {σ : Sg} {Q : AV → Sg → Prop}  : Rn d m_X0_digestBehind 265 [l0, l1, l2, l3] (vL b :: vL a :: st) σ Q ↔ Rn d m_X0_digestBehind 266 [l0, l1, l2, l3] (vL (a * b) :: st) σ Q := q11_2 (show fnd (pgm m_X0_digestBehind) 265 = some (266, 11, 0, 2, 0, []) from rfl)
set_option maxRecDepth 100000 in
theorem s_X0_digestBehind_266 {d : Nat} {l1 l2 l3 : AV} {st : List AV} {o : Nat} {σ : Sg} {Q : AV → Sg → Prop} (ho : o ≠ 0) : Rn d m_X0_digestBehind 266 [vR o, l1, l2, l3] st σ Q ↔ Rn d m_X0_digestBehind 267 [vR o, l1, l2, l3] (vR o :: st) σ Q := q5 (show fnd (pgm m_X0_digestBehind) 266 = some (267, 5, 0, 0, 0, []) from rfl) rfl ho
set_option maxRecDepth 100000 in
theorem s_X0_digestBehind_267 {d : Nat} {l0 l1 l2 l3 : AV} {st : List AV} {o : Nat} {σ : Sg} {Q : AV → Sg → Prop} (hk : kn σ o = (0, 0)) : Rn d m_X0_digestBehind 267 [l0, l1, l2, l3] (vR o :: st) σ Q ↔ Rn d m_X0_digestBehind 270 [l0, l1, l2, l3] (vR (tp o 11) :: st) σ Q := q33 (show fnd (pgm m_X0_digestBehind) 267 = some (270, 33, 50, 0, 11, []) from rfl) hk
set_option maxRecDepth 100000 in
theorem s_X0_digestBehind_270 {d : Nat} {l0 l1 l2 : AV} {st : List AV} {x : Int} {σ : Sg} {Q : AV → Sg → Prop}  : Rn d m_X0_digestBehind 270 [l0, l1, l2, vI x] st σ Q ↔ Rn d m_X0_digestBehind 271 [l0, l1, l2, vI x] (vI x :: st) σ Q := q3 (show fnd (pgm m_X0_digestBehind) 270 = some (271, 3, 0, 3, 0, []) from rfl) rfl
set_option maxRecDepth 100000 in
theorem s_X0_digestBehind_271 {d : Nat} {l0 l1 l2 l3 : AV} {st : List AV} {i : Int} {o : Nat} {σ : Sg} {Q : AV → Sg → Prop} (hi : 0 ≤ w32 i ∧ w32 i < al σ 1 o) : Rn d m_X0_digestBehind 271 [l0, l1, l2, l3] (vI i :: vR o :: st) σ Q ↔ Rn d m_X0_digestBehind 272 [l0, l1, l2, l3] (vI (σ o (w32 i)) :: st) σ Q := q25 (show fnd (pgm m_X0_digestBehind) 271 = some (272, 25, 0, 0, 0, []) from rfl) hi
set_option maxRecDepth 100000 in
theorem s_X0_digestBehind_272 {d : Nat} {l0 l1 l2 l3 : AV} {st : List AV} {a : Int} {σ : Sg} {Q : AV → Sg → Prop}  : Rn d m_X0_digestBehind 272 [l0, l1, l2, l3] (vI a :: st) σ Q ↔ Rn d m_X0_digestBehind 273 [l0, l1, l2, l3] (vL (w32 a) :: st) σ Q := q14 (show fnd (pgm m_X0_digestBehind) 272 = some (273, 14, 0, 0, 0, []) from rfl)
set_option maxRecDepth 100000 in
theorem s_X0_digestBehind_273 {d : Nat} {l0 l1 l2 l3 : AV} {st : List AV} {a b : Int} {σ : Sg} {Q : AV → Sg → Prop}  : Rn d m_X0_digestBehind 273 [l0, l1, l2, l3] (vL b :: vL a :: st) σ Q ↔ Rn d m_X0_digestBehind 274 [l0, l1, l2, l3] (vL (a + b) :: st) σ Q := q11_0 (show fnd (pgm m_X0_digestBehind) 273 = some (274, 11, 0, 0, 0, []) from rfl)
set_option maxRecDepth 100000 in
theorem s_X0_digestBehind_274 {d : Nat} {l0 l1 l2 l3 : AV} {st : List AV} {x : Int} {σ : Sg} {Q : AV → Sg → Prop}  : Rn d m_X0_digestBehind 274 [l0, l1, l2, l3] (vL x :: st) σ Q ↔ Rn d m_X0_digestBehind 275 [l0, vL x, none, l3] st σ Q := q7 (show fnd (pgm m_X0_digestBehind) 274 = some (275, 7, 0, 1, 0, []) from rfl) (by decide : 2 < 4)
set_option maxRecDepth 100000 in
theorem s_X0_digestBehind_275 {d : Nat} {l0 l1 l2 : AV} {st : List AV} {x : Int} {σ : Sg} {Q : AV → Sg → Prop}  : Rn d m_X0_digestBehind 275 [l0, l1, l2, vI x] st σ Q ↔ Rn d m_X0_digestBehind 278 [l0, l1, l2, vI (x + 1)] st σ Q := q9 (show fnd (pgm m_X0_digestBehind) 275 = some (278, 9, 1, 3, 0, []) from rfl) rfl
set_option maxRecDepth 100000 in
theorem s_X0_digestBehind_278 {d : Nat} {l0 l1 l2 l3 : AV} {st : List AV} {σ : Sg} {Q : AV → Sg → Prop}  : Rn d m_X0_digestBehind 278 [l0, l1, l2, l3] st σ Q ↔ Rn d m_X0_digestBehind 253 [l0, l1, l2, l3] st σ Q := q21 (show fnd (pgm m_X0_digestBehind) 278 = some (281, 21, 0, 0, 253, []) from rfl)
set_option maxRecDepth 100000 in
theorem s_X0_digestBehind_281 {d : Nat} {l0 l3 : AV} {st : List AV} {x : Int} {σ : Sg} {Q : AV → Sg → Prop}  : Rn d m_X0_digestBehind 281 [l0, vL x, none, l3] st σ Q ↔ Rn d m_X0_digestBehind 282 [l0, vL x, none, l3] (vL x :: st) σ Q := q4 (show fnd (pgm m_X0_digestBehind) 281 = some (282, 4, 0, 1, 0, []) from rfl) rfl rfl
set_option maxRecDepth 100000 in
theorem s_X0_digestBehind_282 {d : Nat} {l0 l1 l2 l3 : AV} {x : Int} {σ : Sg} {Q : AV → Sg → Prop}  : Rn d m_X0_digestBehind 282 [l0, l1, l2, l3] [vL x] σ Q ↔ Q (vL x) σ := q37_3 (st := []) (show fnd (pgm m_X0_digestBehind) 282 = some (283, 37, 0, 3, 0, []) from rfl)
set_option maxRecDepth 100000 in
theorem en_X0_copyOf {d : Nat} {o : Nat} {a0 : Nat} {σ σ0 : Sg} {r0 : AV} (h : Rn d m_X0_copyOf 0 [vR o, vR a0] [] σ (fun r σ1 => r = r0 ∧ σ1 = σ0)) : Ev (d + 1) m_X0_copyOf [vR o, vR a0] σ r0 σ0 := Ev_is (Nat.le_of_ble_eq_true rfl) h
set_option maxRecDepth 100000 in
theorem eo_X0_copyOf {d : Nat} {o : Nat} {a0 : Nat} {σ : Sg} {Q : AV → Sg → Prop} (h : Rn d m_X0_copyOf 0 [vR o, vR a0] [] σ Q) : ∃ r σ1, Ev (d + 1) m_X0_copyOf [vR o, vR a0] σ r σ1 ∧ Q r σ1 := Ev_of (Nat.le_of_ble_eq_true rfl) h
set_option maxRecDepth 100000 in
theorem s_X0_copyOf_0 {d : Nat} {l1 : AV} {st : List AV} {o : Nat} {σ : Sg} {Q : AV → Sg → Prop} (ho : o ≠ 0) : Rn d m_X0_copyOf 0 [vR o, l1] st σ Q ↔ Rn d m_X0_copyOf 1 [vR o, l1] (vR o :: st) σ Q := q5 (show fnd (pgm m_X0_copyOf) 0 = some (1, 5, 0, 0, 0, []) from rfl) rfl ho
set_option maxRecDepth 100000 in
theorem s_X0_copyOf_1 {d : Nat} {l0 : AV} {st : List AV} {o : Nat} {σ : Sg} {Q : AV → Sg → Prop} (ho : o ≠ 0) : Rn d m_X0_copyOf 1 [l0, vR o] st σ Q ↔ Rn d m_X0_copyOf 2 [l0, vR o] (vR o :: st) σ Q := q5 (show fnd (pgm m_X0_copyOf) 1 = some (2, 5, 0, 1, 0, []) from rfl) rfl ho
set_option maxRecDepth 100000 in
theorem s_X0_copyOf_2 {d : Nat} {l0 l1 : AV} {st : List AV} {o : Nat} {σ : Sg} {Q : AV → Sg → Prop} (hk : kn σ o = (0, 0)) : Rn d m_X0_copyOf 2 [l0, l1] (vR o :: st) σ Q ↔ Rn d m_X0_copyOf 5 [l0, l1] (vI (σ o 0) :: st) σ Q := q33 (show fnd (pgm m_X0_copyOf) 2 = some (5, 33, 9, 0, 0, []) from rfl) hk
set_option maxRecDepth 100000 in
theorem s_X0_copyOf_5 {d : Nat} {l0 l1 : AV} {st : List AV} {o : Nat} {x : Int} {σ : Sg} {Q : AV → Sg → Prop} (hk : kn σ o = (0, 0)) : Rn d m_X0_copyOf 5 [l0, l1] (vI x :: vR o :: st) σ Q ↔ Rn d m_X0_copyOf 8 [l0, l1] st (up σ o 0 x) Q := q34i (show fnd (pgm m_X0_copyOf) 5 = some (8, 34, 9, 0, 0, []) from rfl) hk rfl
set_option maxRecDepth 100000 in
theorem s_X0_copyOf_8 {d : Nat} {l0 : AV} {st : List AV} {o : Nat} {σ : Sg} {Q : AV → Sg → Prop} (ho : o ≠ 0) : Rn d m_X0_copyOf 8 [l0, vR o] st σ Q ↔ Rn d m_X0_copyOf 9 [l0, vR o] (vR o :: st) σ Q := q5 (show fnd (pgm m_X0_copyOf) 8 = some (9, 5, 0, 1, 0, []) from rfl) rfl ho
set_option maxRecDepth 100000 in
theorem s_X0_copyOf_9 {d : Nat} {l0 l1 : AV} {st : List AV} {o : Nat} {σ : Sg} {Q : AV → Sg → Prop} (hk : kn σ o = (0, 0)) : Rn d m_X0_copyOf 9 [l0, l1] (vR o :: st) σ Q ↔ Rn d m_X0_copyOf 12 [l0, l1] (vR (tp o 1) :: st) σ Q := q33 (show fnd (pgm m_X0_copyOf) 9 = some (12, 33, 15, 0, 1, []) from rfl) hk
set_option maxRecDepth 100000 in
theorem s_X0_copyOf_12 {d : Nat} {l0 l1 : AV} {st : List AV} {σ : Sg} {Q : AV → Sg → Prop}  : Rn d m_X0_copyOf 12 [l0, l1] st σ Q ↔ Rn d m_X0_copyOf 13 [l0, l1] (vI 0 :: st) σ Q := q0 (show fnd (pgm m_X0_copyOf) 12 = some (13, 0, 0, 0, 0, []) from rfl)
set_option maxRecDepth 100000 in
theorem s_X0_copyOf_13 {d : Nat} {l1 : AV} {st : List AV} {o : Nat} {σ : Sg} {Q : AV → Sg → Prop} (ho : o ≠ 0) : Rn d m_X0_copyOf 13 [vR o, l1] st σ Q ↔ Rn d m_X0_copyOf 14 [vR o, l1] (vR o :: st) σ Q := q5 (show fnd (pgm m_X0_copyOf) 13 = some (14, 5, 0, 0, 0, []) from rfl) rfl ho
set_option maxRecDepth 100000 in
theorem s_X0_copyOf_14 {d : Nat} {l0 l1 : AV} {st : List AV} {o : Nat} {σ : Sg} {Q : AV → Sg → Prop} (hk : kn σ o = (0, 0)) : Rn d m_X0_copyOf 14 [l0, l1] (vR o :: st) σ Q ↔ Rn d m_X0_copyOf 17 [l0, l1] (vR (tp o 1) :: st) σ Q := q33 (show fnd (pgm m_X0_copyOf) 14 = some (17, 33, 15, 0, 1, []) from rfl) hk
set_option maxRecDepth 100000 in
theorem s_X0_copyOf_17 {d : Nat} {l0 l1 : AV} {st : List AV} {σ : Sg} {Q : AV → Sg → Prop}  : Rn d m_X0_copyOf 17 [l0, l1] st σ Q ↔ Rn d m_X0_copyOf 18 [l0, l1] (vI 0 :: st) σ Q := q0 (show fnd (pgm m_X0_copyOf) 17 = some (18, 0, 0, 0, 0, []) from rfl)
set_option maxRecDepth 100000 in
theorem s_X0_copyOf_18 {d : Nat} {l0 l1 : AV} {st : List AV} {σ : Sg} {Q : AV → Sg → Prop}  : Rn d m_X0_copyOf 18 [l0, l1] st σ Q ↔ Rn d m_X0_copyOf 20 [l0, l1] (vI 6 :: st) σ Q := q0 (show fnd (pgm m_X0_copyOf) 18 = some (20, 0, 6, 1, 0, []) from rfl)
set_option maxRecDepth 100000 in
theorem s_X0_copyOf_20 {d : Nat} {l0 l1 : AV} {st : List AV} {n dp sp : Int} {a b : Nat} {σ : Sg} {Q : AV → Sg → Prop} (hc : 0 ≤ w32 sp ∧ 0 ≤ w32 dp ∧ 0 ≤ w32 n ∧ w32 sp + w32 n ≤ al σ 1 a ∧ w32 dp + w32 n ≤ al σ 1 b ∧ a ≠ b ∧ st.length ≤ 4 ∧ 0 < al σ 1 a ∧ 0 < al σ 1 b) : Rn d m_X0_copyOf 20 [l0, l1] (vI n :: vI dp :: vR b :: vI sp :: vR a :: st) σ Q ↔ Rn d m_X0_copyOf 23 [l0, l1] st (cpy σ a (w32 sp) b (w32 dp) (w32 n)) Q := q36 (show fnd (pgm m_X0_copyOf) 20 = some (23, 36, 100, 1, 0, []) from rfl) ⟨by decide, hc⟩
set_option maxRecDepth 100000 in
theorem s_X0_copyOf_23 {d : Nat} {l0 : AV} {st : List AV} {o : Nat} {σ : Sg} {Q : AV → Sg → Prop} (ho : o ≠ 0) : Rn d m_X0_copyOf 23 [l0, vR o] st σ Q ↔ Rn d m_X0_copyOf 24 [l0, vR o] (vR o :: st) σ Q := q5 (show fnd (pgm m_X0_copyOf) 23 = some (24, 5, 0, 1, 0, []) from rfl) rfl ho
set_option maxRecDepth 100000 in
theorem s_X0_copyOf_24 {d : Nat} {l0 l1 : AV} {st : List AV} {o : Nat} {σ : Sg} {Q : AV → Sg → Prop} (hk : kn σ o = (0, 0)) : Rn d m_X0_copyOf 24 [l0, l1] (vR o :: st) σ Q ↔ Rn d m_X0_copyOf 27 [l0, l1] (vR (tp o 2) :: st) σ Q := q33 (show fnd (pgm m_X0_copyOf) 24 = some (27, 33, 19, 0, 2, []) from rfl) hk
set_option maxRecDepth 100000 in
theorem s_X0_copyOf_27 {d : Nat} {l0 l1 : AV} {st : List AV} {σ : Sg} {Q : AV → Sg → Prop}  : Rn d m_X0_copyOf 27 [l0, l1] st σ Q ↔ Rn d m_X0_copyOf 28 [l0, l1] (vI 0 :: st) σ Q := q0 (show fnd (pgm m_X0_copyOf) 27 = some (28, 0, 0, 0, 0, []) from rfl)
set_option maxRecDepth 100000 in
theorem s_X0_copyOf_28 {d : Nat} {l1 : AV} {st : List AV} {o : Nat} {σ : Sg} {Q : AV → Sg → Prop} (ho : o ≠ 0) : Rn d m_X0_copyOf 28 [vR o, l1] st σ Q ↔ Rn d m_X0_copyOf 29 [vR o, l1] (vR o :: st) σ Q := q5 (show fnd (pgm m_X0_copyOf) 28 = some (29, 5, 0, 0, 0, []) from rfl) rfl ho
set_option maxRecDepth 100000 in
theorem s_X0_copyOf_29 {d : Nat} {l0 l1 : AV} {st : List AV} {o : Nat} {σ : Sg} {Q : AV → Sg → Prop} (hk : kn σ o = (0, 0)) : Rn d m_X0_copyOf 29 [l0, l1] (vR o :: st) σ Q ↔ Rn d m_X0_copyOf 32 [l0, l1] (vR (tp o 2) :: st) σ Q := q33 (show fnd (pgm m_X0_copyOf) 29 = some (32, 33, 19, 0, 2, []) from rfl) hk
set_option maxRecDepth 100000 in
theorem s_X0_copyOf_32 {d : Nat} {l0 l1 : AV} {st : List AV} {σ : Sg} {Q : AV → Sg → Prop}  : Rn d m_X0_copyOf 32 [l0, l1] st σ Q ↔ Rn d m_X0_copyOf 33 [l0, l1] (vI 0 :: st) σ Q := q0 (show fnd (pgm m_X0_copyOf) 32 = some (33, 0, 0, 0, 0, []) from rfl)
set_option maxRecDepth 100000 in
theorem s_X0_copyOf_33 {d : Nat} {l0 l1 : AV} {st : List AV} {σ : Sg} {Q : AV → Sg → Prop}  : Rn d m_X0_copyOf 33 [l0, l1] st σ Q ↔ Rn d m_X0_copyOf 35 [l0, l1] (vI 6 :: st) σ Q := q0 (show fnd (pgm m_X0_copyOf) 33 = some (35, 0, 6, 1, 0, []) from rfl)
set_option maxRecDepth 100000 in
theorem s_X0_copyOf_35 {d : Nat} {l0 l1 : AV} {st : List AV} {n dp sp : Int} {a b : Nat} {σ : Sg} {Q : AV → Sg → Prop} (hc : 0 ≤ w32 sp ∧ 0 ≤ w32 dp ∧ 0 ≤ w32 n ∧ w32 sp + w32 n ≤ al σ 1 a ∧ w32 dp + w32 n ≤ al σ 1 b ∧ a ≠ b ∧ st.length ≤ 4 ∧ 0 < al σ 1 a ∧ 0 < al σ 1 b) : Rn d m_X0_copyOf 35 [l0, l1] (vI n :: vI dp :: vR b :: vI sp :: vR a :: st) σ Q ↔ Rn d m_X0_copyOf 38 [l0, l1] st (cpy σ a (w32 sp) b (w32 dp) (w32 n)) Q := q36 (show fnd (pgm m_X0_copyOf) 35 = some (38, 36, 100, 1, 0, []) from rfl) ⟨by decide, hc⟩
set_option maxRecDepth 100000 in
theorem s_X0_copyOf_38 {d : Nat} {l0 : AV} {st : List AV} {o : Nat} {σ : Sg} {Q : AV → Sg → Prop} (ho : o ≠ 0) : Rn d m_X0_copyOf 38 [l0, vR o] st σ Q ↔ Rn d m_X0_copyOf 39 [l0, vR o] (vR o :: st) σ Q := q5 (show fnd (pgm m_X0_copyOf) 38 = some (39, 5, 0, 1, 0, []) from rfl) rfl ho
set_option maxRecDepth 100000 in
theorem s_X0_copyOf_39 {d : Nat} {l0 l1 : AV} {st : List AV} {o : Nat} {σ : Sg} {Q : AV → Sg → Prop} (hk : kn σ o = (0, 0)) : Rn d m_X0_copyOf 39 [l0, l1] (vR o :: st) σ Q ↔ Rn d m_X0_copyOf 42 [l0, l1] (vR (tp o 3) :: st) σ Q := q33 (show fnd (pgm m_X0_copyOf) 39 = some (42, 33, 22, 0, 3, []) from rfl) hk
set_option maxRecDepth 100000 in
theorem s_X0_copyOf_42 {d : Nat} {l0 l1 : AV} {st : List AV} {σ : Sg} {Q : AV → Sg → Prop}  : Rn d m_X0_copyOf 42 [l0, l1] st σ Q ↔ Rn d m_X0_copyOf 43 [l0, l1] (vI 0 :: st) σ Q := q0 (show fnd (pgm m_X0_copyOf) 42 = some (43, 0, 0, 0, 0, []) from rfl)
set_option maxRecDepth 100000 in
theorem s_X0_copyOf_43 {d : Nat} {l1 : AV} {st : List AV} {o : Nat} {σ : Sg} {Q : AV → Sg → Prop} (ho : o ≠ 0) : Rn d m_X0_copyOf 43 [vR o, l1] st σ Q ↔ Rn d m_X0_copyOf 44 [vR o, l1] (vR o :: st) σ Q := q5 (show fnd (pgm m_X0_copyOf) 43 = some (44, 5, 0, 0, 0, []) from rfl) rfl ho
set_option maxRecDepth 100000 in
theorem s_X0_copyOf_44 {d : Nat} {l0 l1 : AV} {st : List AV} {o : Nat} {σ : Sg} {Q : AV → Sg → Prop} (hk : kn σ o = (0, 0)) : Rn d m_X0_copyOf 44 [l0, l1] (vR o :: st) σ Q ↔ Rn d m_X0_copyOf 47 [l0, l1] (vR (tp o 3) :: st) σ Q := q33 (show fnd (pgm m_X0_copyOf) 44 = some (47, 33, 22, 0, 3, []) from rfl) hk
set_option maxRecDepth 100000 in
theorem s_X0_copyOf_47 {d : Nat} {l0 l1 : AV} {st : List AV} {σ : Sg} {Q : AV → Sg → Prop}  : Rn d m_X0_copyOf 47 [l0, l1] st σ Q ↔ Rn d m_X0_copyOf 48 [l0, l1] (vI 0 :: st) σ Q := q0 (show fnd (pgm m_X0_copyOf) 47 = some (48, 0, 0, 0, 0, []) from rfl)
set_option maxRecDepth 100000 in
theorem s_X0_copyOf_48 {d : Nat} {l0 l1 : AV} {st : List AV} {σ : Sg} {Q : AV → Sg → Prop}  : Rn d m_X0_copyOf 48 [l0, l1] st σ Q ↔ Rn d m_X0_copyOf 50 [l0, l1] (vI 6 :: st) σ Q := q0 (show fnd (pgm m_X0_copyOf) 48 = some (50, 0, 6, 1, 0, []) from rfl)
set_option maxRecDepth 100000 in
theorem s_X0_copyOf_50 {d : Nat} {l0 l1 : AV} {st : List AV} {n dp sp : Int} {a b : Nat} {σ : Sg} {Q : AV → Sg → Prop} (hc : 0 ≤ w32 sp ∧ 0 ≤ w32 dp ∧ 0 ≤ w32 n ∧ w32 sp + w32 n ≤ al σ 1 a ∧ w32 dp + w32 n ≤ al σ 1 b ∧ a ≠ b ∧ st.length ≤ 4 ∧ 0 < al σ 1 a ∧ 0 < al σ 1 b) : Rn d m_X0_copyOf 50 [l0, l1] (vI n :: vI dp :: vR b :: vI sp :: vR a :: st) σ Q ↔ Rn d m_X0_copyOf 53 [l0, l1] st (cpy σ a (w32 sp) b (w32 dp) (w32 n)) Q := q36 (show fnd (pgm m_X0_copyOf) 50 = some (53, 36, 100, 1, 0, []) from rfl) ⟨by decide, hc⟩
set_option maxRecDepth 100000 in
theorem s_X0_copyOf_53 {d : Nat} {l0 : AV} {st : List AV} {o : Nat} {σ : Sg} {Q : AV → Sg → Prop} (ho : o ≠ 0) : Rn d m_X0_copyOf 53 [l0, vR o] st σ Q ↔ Rn d m_X0_copyOf 54 [l0, vR o] (vR o :: st) σ Q := q5 (show fnd (pgm m_X0_copyOf) 53 = some (54, 5, 0, 1, 0, []) from rfl) rfl ho
set_option maxRecDepth 100000 in
theorem s_X0_copyOf_54 {d : Nat} {l0 l1 : AV} {st : List AV} {o : Nat} {σ : Sg} {Q : AV → Sg → Prop} (hk : kn σ o = (0, 0)) : Rn d m_X0_copyOf 54 [l0, l1] (vR o :: st) σ Q ↔ Rn d m_X0_copyOf 57 [l0, l1] (vR (tp o 4) :: st) σ Q := q33 (show fnd (pgm m_X0_copyOf) 54 = some (57, 33, 25, 0, 4, []) from rfl) hk
set_option maxRecDepth 100000 in
theorem s_X0_copyOf_57 {d : Nat} {l0 l1 : AV} {st : List AV} {σ : Sg} {Q : AV → Sg → Prop}  : Rn d m_X0_copyOf 57 [l0, l1] st σ Q ↔ Rn d m_X0_copyOf 58 [l0, l1] (vI 0 :: st) σ Q := q0 (show fnd (pgm m_X0_copyOf) 57 = some (58, 0, 0, 0, 0, []) from rfl)
set_option maxRecDepth 100000 in
theorem s_X0_copyOf_58 {d : Nat} {l1 : AV} {st : List AV} {o : Nat} {σ : Sg} {Q : AV → Sg → Prop} (ho : o ≠ 0) : Rn d m_X0_copyOf 58 [vR o, l1] st σ Q ↔ Rn d m_X0_copyOf 59 [vR o, l1] (vR o :: st) σ Q := q5 (show fnd (pgm m_X0_copyOf) 58 = some (59, 5, 0, 0, 0, []) from rfl) rfl ho
set_option maxRecDepth 100000 in
theorem s_X0_copyOf_59 {d : Nat} {l0 l1 : AV} {st : List AV} {o : Nat} {σ : Sg} {Q : AV → Sg → Prop} (hk : kn σ o = (0, 0)) : Rn d m_X0_copyOf 59 [l0, l1] (vR o :: st) σ Q ↔ Rn d m_X0_copyOf 62 [l0, l1] (vR (tp o 4) :: st) σ Q := q33 (show fnd (pgm m_X0_copyOf) 59 = some (62, 33, 25, 0, 4, []) from rfl) hk
set_option maxRecDepth 100000 in
theorem s_X0_copyOf_62 {d : Nat} {l0 l1 : AV} {st : List AV} {σ : Sg} {Q : AV → Sg → Prop}  : Rn d m_X0_copyOf 62 [l0, l1] st σ Q ↔ Rn d m_X0_copyOf 63 [l0, l1] (vI 0 :: st) σ Q := q0 (show fnd (pgm m_X0_copyOf) 62 = some (63, 0, 0, 0, 0, []) from rfl)
set_option maxRecDepth 100000 in
theorem s_X0_copyOf_63 {d : Nat} {l0 l1 : AV} {st : List AV} {σ : Sg} {Q : AV → Sg → Prop}  : Rn d m_X0_copyOf 63 [l0, l1] st σ Q ↔ Rn d m_X0_copyOf 65 [l0, l1] (vI 24 :: st) σ Q := q0 (show fnd (pgm m_X0_copyOf) 63 = some (65, 0, 24, 1, 0, []) from rfl)
set_option maxRecDepth 100000 in
theorem s_X0_copyOf_65 {d : Nat} {l0 l1 : AV} {st : List AV} {n dp sp : Int} {a b : Nat} {σ : Sg} {Q : AV → Sg → Prop} (hc : 0 ≤ w32 sp ∧ 0 ≤ w32 dp ∧ 0 ≤ w32 n ∧ w32 sp + w32 n ≤ al σ 1 a ∧ w32 dp + w32 n ≤ al σ 1 b ∧ a ≠ b ∧ st.length ≤ 4 ∧ 0 < al σ 1 a ∧ 0 < al σ 1 b) : Rn d m_X0_copyOf 65 [l0, l1] (vI n :: vI dp :: vR b :: vI sp :: vR a :: st) σ Q ↔ Rn d m_X0_copyOf 68 [l0, l1] st (cpy σ a (w32 sp) b (w32 dp) (w32 n)) Q := q36 (show fnd (pgm m_X0_copyOf) 65 = some (68, 36, 100, 1, 0, []) from rfl) ⟨by decide, hc⟩
set_option maxRecDepth 100000 in
theorem s_X0_copyOf_68 {d : Nat} {l0 : AV} {st : List AV} {o : Nat} {σ : Sg} {Q : AV → Sg → Prop} (ho : o ≠ 0) : Rn d m_X0_copyOf 68 [l0, vR o] st σ Q ↔ Rn d m_X0_copyOf 69 [l0, vR o] (vR o :: st) σ Q := q5 (show fnd (pgm m_X0_copyOf) 68 = some (69, 5, 0, 1, 0, []) from rfl) rfl ho
set_option maxRecDepth 100000 in
theorem s_X0_copyOf_69 {d : Nat} {l0 l1 : AV} {st : List AV} {o : Nat} {σ : Sg} {Q : AV → Sg → Prop} (hk : kn σ o = (0, 0)) : Rn d m_X0_copyOf 69 [l0, l1] (vR o :: st) σ Q ↔ Rn d m_X0_copyOf 72 [l0, l1] (vR (tp o 5) :: st) σ Q := q33 (show fnd (pgm m_X0_copyOf) 69 = some (72, 33, 28, 0, 5, []) from rfl) hk
set_option maxRecDepth 100000 in
theorem s_X0_copyOf_72 {d : Nat} {l0 l1 : AV} {st : List AV} {σ : Sg} {Q : AV → Sg → Prop}  : Rn d m_X0_copyOf 72 [l0, l1] st σ Q ↔ Rn d m_X0_copyOf 73 [l0, l1] (vI 0 :: st) σ Q := q0 (show fnd (pgm m_X0_copyOf) 72 = some (73, 0, 0, 0, 0, []) from rfl)
set_option maxRecDepth 100000 in
theorem s_X0_copyOf_73 {d : Nat} {l1 : AV} {st : List AV} {o : Nat} {σ : Sg} {Q : AV → Sg → Prop} (ho : o ≠ 0) : Rn d m_X0_copyOf 73 [vR o, l1] st σ Q ↔ Rn d m_X0_copyOf 74 [vR o, l1] (vR o :: st) σ Q := q5 (show fnd (pgm m_X0_copyOf) 73 = some (74, 5, 0, 0, 0, []) from rfl) rfl ho
set_option maxRecDepth 100000 in
theorem s_X0_copyOf_74 {d : Nat} {l0 l1 : AV} {st : List AV} {o : Nat} {σ : Sg} {Q : AV → Sg → Prop} (hk : kn σ o = (0, 0)) : Rn d m_X0_copyOf 74 [l0, l1] (vR o :: st) σ Q ↔ Rn d m_X0_copyOf 77 [l0, l1] (vR (tp o 5) :: st) σ Q := q33 (show fnd (pgm m_X0_copyOf) 74 = some (77, 33, 28, 0, 5, []) from rfl) hk
set_option maxRecDepth 100000 in
theorem s_X0_copyOf_77 {d : Nat} {l0 l1 : AV} {st : List AV} {σ : Sg} {Q : AV → Sg → Prop}  : Rn d m_X0_copyOf 77 [l0, l1] st σ Q ↔ Rn d m_X0_copyOf 78 [l0, l1] (vI 0 :: st) σ Q := q0 (show fnd (pgm m_X0_copyOf) 77 = some (78, 0, 0, 0, 0, []) from rfl)
set_option maxRecDepth 100000 in
theorem s_X0_copyOf_78 {d : Nat} {l0 l1 : AV} {st : List AV} {σ : Sg} {Q : AV → Sg → Prop}  : Rn d m_X0_copyOf 78 [l0, l1] st σ Q ↔ Rn d m_X0_copyOf 81 [l0, l1] (vI 144 :: st) σ Q := q0 (show fnd (pgm m_X0_copyOf) 78 = some (81, 0, 144, 2, 0, []) from rfl)
set_option maxRecDepth 100000 in
theorem s_X0_copyOf_81 {d : Nat} {l0 l1 : AV} {st : List AV} {n dp sp : Int} {a b : Nat} {σ : Sg} {Q : AV → Sg → Prop} (hc : 0 ≤ w32 sp ∧ 0 ≤ w32 dp ∧ 0 ≤ w32 n ∧ w32 sp + w32 n ≤ al σ 1 a ∧ w32 dp + w32 n ≤ al σ 1 b ∧ a ≠ b ∧ st.length ≤ 4 ∧ 0 < al σ 1 a ∧ 0 < al σ 1 b) : Rn d m_X0_copyOf 81 [l0, l1] (vI n :: vI dp :: vR b :: vI sp :: vR a :: st) σ Q ↔ Rn d m_X0_copyOf 84 [l0, l1] st (cpy σ a (w32 sp) b (w32 dp) (w32 n)) Q := q36 (show fnd (pgm m_X0_copyOf) 81 = some (84, 36, 100, 1, 0, []) from rfl) ⟨by decide, hc⟩
set_option maxRecDepth 100000 in
theorem s_X0_copyOf_84 {d : Nat} {l0 : AV} {st : List AV} {o : Nat} {σ : Sg} {Q : AV → Sg → Prop} (ho : o ≠ 0) : Rn d m_X0_copyOf 84 [l0, vR o] st σ Q ↔ Rn d m_X0_copyOf 85 [l0, vR o] (vR o :: st) σ Q := q5 (show fnd (pgm m_X0_copyOf) 84 = some (85, 5, 0, 1, 0, []) from rfl) rfl ho
set_option maxRecDepth 100000 in
theorem s_X0_copyOf_85 {d : Nat} {l0 l1 : AV} {st : List AV} {o : Nat} {σ : Sg} {Q : AV → Sg → Prop} (hk : kn σ o = (0, 0)) : Rn d m_X0_copyOf 85 [l0, l1] (vR o :: st) σ Q ↔ Rn d m_X0_copyOf 88 [l0, l1] (vR (tp o 6) :: st) σ Q := q33 (show fnd (pgm m_X0_copyOf) 85 = some (88, 33, 31, 0, 6, []) from rfl) hk
set_option maxRecDepth 100000 in
theorem s_X0_copyOf_88 {d : Nat} {l0 l1 : AV} {st : List AV} {σ : Sg} {Q : AV → Sg → Prop}  : Rn d m_X0_copyOf 88 [l0, l1] st σ Q ↔ Rn d m_X0_copyOf 89 [l0, l1] (vI 0 :: st) σ Q := q0 (show fnd (pgm m_X0_copyOf) 88 = some (89, 0, 0, 0, 0, []) from rfl)
set_option maxRecDepth 100000 in
theorem s_X0_copyOf_89 {d : Nat} {l1 : AV} {st : List AV} {o : Nat} {σ : Sg} {Q : AV → Sg → Prop} (ho : o ≠ 0) : Rn d m_X0_copyOf 89 [vR o, l1] st σ Q ↔ Rn d m_X0_copyOf 90 [vR o, l1] (vR o :: st) σ Q := q5 (show fnd (pgm m_X0_copyOf) 89 = some (90, 5, 0, 0, 0, []) from rfl) rfl ho
set_option maxRecDepth 100000 in
theorem s_X0_copyOf_90 {d : Nat} {l0 l1 : AV} {st : List AV} {o : Nat} {σ : Sg} {Q : AV → Sg → Prop} (hk : kn σ o = (0, 0)) : Rn d m_X0_copyOf 90 [l0, l1] (vR o :: st) σ Q ↔ Rn d m_X0_copyOf 93 [l0, l1] (vR (tp o 6) :: st) σ Q := q33 (show fnd (pgm m_X0_copyOf) 90 = some (93, 33, 31, 0, 6, []) from rfl) hk
set_option maxRecDepth 100000 in
theorem s_X0_copyOf_93 {d : Nat} {l0 l1 : AV} {st : List AV} {σ : Sg} {Q : AV → Sg → Prop}  : Rn d m_X0_copyOf 93 [l0, l1] st σ Q ↔ Rn d m_X0_copyOf 94 [l0, l1] (vI 0 :: st) σ Q := q0 (show fnd (pgm m_X0_copyOf) 93 = some (94, 0, 0, 0, 0, []) from rfl)
set_option maxRecDepth 100000 in
theorem s_X0_copyOf_94 {d : Nat} {l0 l1 : AV} {st : List AV} {σ : Sg} {Q : AV → Sg → Prop}  : Rn d m_X0_copyOf 94 [l0, l1] st σ Q ↔ Rn d m_X0_copyOf 97 [l0, l1] (vI 144 :: st) σ Q := q0 (show fnd (pgm m_X0_copyOf) 94 = some (97, 0, 144, 2, 0, []) from rfl)
set_option maxRecDepth 100000 in
theorem s_X0_copyOf_97 {d : Nat} {l0 l1 : AV} {st : List AV} {n dp sp : Int} {a b : Nat} {σ : Sg} {Q : AV → Sg → Prop} (hc : 0 ≤ w32 sp ∧ 0 ≤ w32 dp ∧ 0 ≤ w32 n ∧ w32 sp + w32 n ≤ al σ 1 a ∧ w32 dp + w32 n ≤ al σ 1 b ∧ a ≠ b ∧ st.length ≤ 4 ∧ 0 < al σ 1 a ∧ 0 < al σ 1 b) : Rn d m_X0_copyOf 97 [l0, l1] (vI n :: vI dp :: vR b :: vI sp :: vR a :: st) σ Q ↔ Rn d m_X0_copyOf 100 [l0, l1] st (cpy σ a (w32 sp) b (w32 dp) (w32 n)) Q := q36 (show fnd (pgm m_X0_copyOf) 97 = some (100, 36, 100, 1, 0, []) from rfl) ⟨by decide, hc⟩
set_option maxRecDepth 100000 in
theorem s_X0_copyOf_100 {d : Nat} {l1 : AV} {st : List AV} {o : Nat} {σ : Sg} {Q : AV → Sg → Prop} (ho : o ≠ 0) : Rn d m_X0_copyOf 100 [vR o, l1] st σ Q ↔ Rn d m_X0_copyOf 101 [vR o, l1] (vR o :: st) σ Q := q5 (show fnd (pgm m_X0_copyOf) 100 = some (101, 5, 0, 0, 0, []) from rfl) rfl ho
set_option maxRecDepth 100000 in
theorem s_X0_copyOf_101 {d : Nat} {l0 l1 : AV} {st : List AV} {o : Nat} {σ : Sg} {Q : AV → Sg → Prop} (hk : kn σ o = (0, 0)) : Rn d m_X0_copyOf 101 [l0, l1] (vR o :: st) σ Q ↔ Rn d m_X0_copyOf 104 [l0, l1] (vR (tp o 7) :: st) σ Q := q33 (show fnd (pgm m_X0_copyOf) 101 = some (104, 33, 37, 0, 7, []) from rfl) hk
set_option maxRecDepth 100000 in
theorem s_X0_copyOf_104 {d : Nat} {l0 : AV} {st : List AV} {o : Nat} {σ : Sg} {Q : AV → Sg → Prop} (ho : o ≠ 0) : Rn d m_X0_copyOf 104 [l0, vR o] st σ Q ↔ Rn d m_X0_copyOf 105 [l0, vR o] (vR o :: st) σ Q := q5 (show fnd (pgm m_X0_copyOf) 104 = some (105, 5, 0, 1, 0, []) from rfl) rfl ho
set_option maxRecDepth 100000 in
theorem s_X0_copyOf_105 {d : Nat} {l0 l1 : AV} {st : List AV} {o : Nat} {σ : Sg} {Q : AV → Sg → Prop} (hk : kn σ o = (0, 0)) : Rn d m_X0_copyOf 105 [l0, l1] (vR o :: st) σ Q ↔ Rn d m_X0_copyOf 108 [l0, l1] (vR (tp o 7) :: st) σ Q := q33 (show fnd (pgm m_X0_copyOf) 105 = some (108, 33, 37, 0, 7, []) from rfl) hk
set_option maxRecDepth 100000 in
theorem s_X0_copyOf_108 {d : Nat} {l0 l1 : AV} {st : List AV} {o : Nat} {a0 : Nat} {σ : Sg} {Q : AV → Sg → Prop} (h4 : st.length ≤ 4) (hk : kn σ o = (0, 2)) : Rn d m_X0_copyOf 108 [l0, l1] (vR a0 :: vR o :: st) σ Q ↔ ∃ r σ1, Ev d m_X2_copyOf [vR o, vR a0] σ r σ1 ∧ Rn d m_X0_copyOf 111 [l0, l1] (psh r st) σ1 Q := q35 (show fnd (pgm m_X0_copyOf) 108 = some (111, 35, 106, 24, 2, []) from rfl) ⟨⟨by simp, by simpa using h4⟩, (by simp only [List.take, List.reverse, List.reverseAux, rcv]; rw [if_neg (by decide +kernel)]; exact decide_eq_true hk)⟩
set_option maxRecDepth 100000 in
theorem s_X0_copyOf_111 {d : Nat} {l0 : AV} {st : List AV} {o : Nat} {σ : Sg} {Q : AV → Sg → Prop} (ho : o ≠ 0) : Rn d m_X0_copyOf 111 [l0, vR o] st σ Q ↔ Rn d m_X0_copyOf 112 [l0, vR o] (vR o :: st) σ Q := q5 (show fnd (pgm m_X0_copyOf) 111 = some (112, 5, 0, 1, 0, []) from rfl) rfl ho
set_option maxRecDepth 100000 in
theorem s_X0_copyOf_112 {d : Nat} {l0 l1 : AV} {st : List AV} {o : Nat} {σ : Sg} {Q : AV → Sg → Prop} (hk : kn σ o = (0, 0)) : Rn d m_X0_copyOf 112 [l0, l1] (vR o :: st) σ Q ↔ Rn d m_X0_copyOf 115 [l0, l1] (vR (tp o 8) :: st) σ Q := q33 (show fnd (pgm m_X0_copyOf) 112 = some (115, 33, 41, 0, 8, []) from rfl) hk
set_option maxRecDepth 100000 in
theorem s_X0_copyOf_115 {d : Nat} {l0 l1 : AV} {st : List AV} {σ : Sg} {Q : AV → Sg → Prop}  : Rn d m_X0_copyOf 115 [l0, l1] st σ Q ↔ Rn d m_X0_copyOf 116 [l0, l1] (vI 0 :: st) σ Q := q0 (show fnd (pgm m_X0_copyOf) 115 = some (116, 0, 0, 0, 0, []) from rfl)
set_option maxRecDepth 100000 in
theorem s_X0_copyOf_116 {d : Nat} {l1 : AV} {st : List AV} {o : Nat} {σ : Sg} {Q : AV → Sg → Prop} (ho : o ≠ 0) : Rn d m_X0_copyOf 116 [vR o, l1] st σ Q ↔ Rn d m_X0_copyOf 117 [vR o, l1] (vR o :: st) σ Q := q5 (show fnd (pgm m_X0_copyOf) 116 = some (117, 5, 0, 0, 0, []) from rfl) rfl ho
set_option maxRecDepth 100000 in
theorem s_X0_copyOf_117 {d : Nat} {l0 l1 : AV} {st : List AV} {o : Nat} {σ : Sg} {Q : AV → Sg → Prop} (hk : kn σ o = (0, 0)) : Rn d m_X0_copyOf 117 [l0, l1] (vR o :: st) σ Q ↔ Rn d m_X0_copyOf 120 [l0, l1] (vR (tp o 8) :: st) σ Q := q33 (show fnd (pgm m_X0_copyOf) 117 = some (120, 33, 41, 0, 8, []) from rfl) hk
set_option maxRecDepth 100000 in
theorem s_X0_copyOf_120 {d : Nat} {l0 l1 : AV} {st : List AV} {σ : Sg} {Q : AV → Sg → Prop}  : Rn d m_X0_copyOf 120 [l0, l1] st σ Q ↔ Rn d m_X0_copyOf 121 [l0, l1] (vI 0 :: st) σ Q := q0 (show fnd (pgm m_X0_copyOf) 120 = some (121, 0, 0, 0, 0, []) from rfl)
set_option maxRecDepth 100000 in
theorem s_X0_copyOf_121 {d : Nat} {l0 l1 : AV} {st : List AV} {σ : Sg} {Q : AV → Sg → Prop}  : Rn d m_X0_copyOf 121 [l0, l1] st σ Q ↔ Rn d m_X0_copyOf 124 [l0, l1] (vI 200 :: st) σ Q := q0 (show fnd (pgm m_X0_copyOf) 121 = some (124, 0, 200, 2, 0, []) from rfl)
set_option maxRecDepth 100000 in
theorem s_X0_copyOf_124 {d : Nat} {l0 l1 : AV} {st : List AV} {n dp sp : Int} {a b : Nat} {σ : Sg} {Q : AV → Sg → Prop} (hc : 0 ≤ w32 sp ∧ 0 ≤ w32 dp ∧ 0 ≤ w32 n ∧ w32 sp + w32 n ≤ al σ 1 a ∧ w32 dp + w32 n ≤ al σ 1 b ∧ a ≠ b ∧ st.length ≤ 4 ∧ 0 < al σ 1 a ∧ 0 < al σ 1 b) : Rn d m_X0_copyOf 124 [l0, l1] (vI n :: vI dp :: vR b :: vI sp :: vR a :: st) σ Q ↔ Rn d m_X0_copyOf 127 [l0, l1] st (cpy σ a (w32 sp) b (w32 dp) (w32 n)) Q := q36 (show fnd (pgm m_X0_copyOf) 124 = some (127, 36, 100, 1, 0, []) from rfl) ⟨by decide, hc⟩
set_option maxRecDepth 100000 in
theorem s_X0_copyOf_127 {d : Nat} {l1 : AV} {st : List AV} {o : Nat} {σ : Sg} {Q : AV → Sg → Prop} (ho : o ≠ 0) : Rn d m_X0_copyOf 127 [vR o, l1] st σ Q ↔ Rn d m_X0_copyOf 128 [vR o, l1] (vR o :: st) σ Q := q5 (show fnd (pgm m_X0_copyOf) 127 = some (128, 5, 0, 0, 0, []) from rfl) rfl ho
set_option maxRecDepth 100000 in
theorem s_X0_copyOf_128 {d : Nat} {l0 : AV} {st : List AV} {o : Nat} {σ : Sg} {Q : AV → Sg → Prop} (ho : o ≠ 0) : Rn d m_X0_copyOf 128 [l0, vR o] st σ Q ↔ Rn d m_X0_copyOf 129 [l0, vR o] (vR o :: st) σ Q := q5 (show fnd (pgm m_X0_copyOf) 128 = some (129, 5, 0, 1, 0, []) from rfl) rfl ho
set_option maxRecDepth 100000 in
theorem s_X0_copyOf_129 {d : Nat} {l0 l1 : AV} {st : List AV} {o : Nat} {σ : Sg} {Q : AV → Sg → Prop} (hk : kn σ o = (0, 0)) : Rn d m_X0_copyOf 129 [l0, l1] (vR o :: st) σ Q ↔ Rn d m_X0_copyOf 132 [l0, l1] (vI (σ o 9) :: st) σ Q := q33 (show fnd (pgm m_X0_copyOf) 129 = some (132, 33, 44, 0, 9, []) from rfl) hk
set_option maxRecDepth 100000 in
theorem s_X0_copyOf_132 {d : Nat} {l0 l1 : AV} {st : List AV} {o : Nat} {x : Int} {σ : Sg} {Q : AV → Sg → Prop} (hk : kn σ o = (0, 0)) : Rn d m_X0_copyOf 132 [l0, l1] (vI x :: vR o :: st) σ Q ↔ Rn d m_X0_copyOf 135 [l0, l1] st (up σ o 9 x) Q := q34i (show fnd (pgm m_X0_copyOf) 132 = some (135, 34, 44, 0, 9, []) from rfl) hk rfl
set_option maxRecDepth 100000 in
theorem s_X0_copyOf_135 {d : Nat} {l1 : AV} {st : List AV} {o : Nat} {σ : Sg} {Q : AV → Sg → Prop} (ho : o ≠ 0) : Rn d m_X0_copyOf 135 [vR o, l1] st σ Q ↔ Rn d m_X0_copyOf 136 [vR o, l1] (vR o :: st) σ Q := q5 (show fnd (pgm m_X0_copyOf) 135 = some (136, 5, 0, 0, 0, []) from rfl) rfl ho
set_option maxRecDepth 100000 in
theorem s_X0_copyOf_136 {d : Nat} {l0 : AV} {st : List AV} {o : Nat} {σ : Sg} {Q : AV → Sg → Prop} (ho : o ≠ 0) : Rn d m_X0_copyOf 136 [l0, vR o] st σ Q ↔ Rn d m_X0_copyOf 137 [l0, vR o] (vR o :: st) σ Q := q5 (show fnd (pgm m_X0_copyOf) 136 = some (137, 5, 0, 1, 0, []) from rfl) rfl ho
set_option maxRecDepth 100000 in
theorem s_X0_copyOf_137 {d : Nat} {l0 l1 : AV} {st : List AV} {o : Nat} {σ : Sg} {Q : AV → Sg → Prop} (hk : kn σ o = (0, 0)) : Rn d m_X0_copyOf 137 [l0, l1] (vR o :: st) σ Q ↔ Rn d m_X0_copyOf 140 [l0, l1] (vI (σ o 10) :: st) σ Q := q33 (show fnd (pgm m_X0_copyOf) 137 = some (140, 33, 47, 0, 10, []) from rfl) hk
set_option maxRecDepth 100000 in
theorem s_X0_copyOf_140 {d : Nat} {l0 l1 : AV} {st : List AV} {o : Nat} {x : Int} {σ : Sg} {Q : AV → Sg → Prop} (hk : kn σ o = (0, 0)) : Rn d m_X0_copyOf 140 [l0, l1] (vI x :: vR o :: st) σ Q ↔ Rn d m_X0_copyOf 143 [l0, l1] st (up σ o 10 x) Q := q34i (show fnd (pgm m_X0_copyOf) 140 = some (143, 34, 47, 0, 10, []) from rfl) hk rfl
set_option maxRecDepth 100000 in
theorem s_X0_copyOf_143 {d : Nat} {l0 : AV} {st : List AV} {o : Nat} {σ : Sg} {Q : AV → Sg → Prop} (ho : o ≠ 0) : Rn d m_X0_copyOf 143 [l0, vR o] st σ Q ↔ Rn d m_X0_copyOf 144 [l0, vR o] (vR o :: st) σ Q := q5 (show fnd (pgm m_X0_copyOf) 143 = some (144, 5, 0, 1, 0, []) from rfl) rfl ho
set_option maxRecDepth 100000 in
theorem s_X0_copyOf_144 {d : Nat} {l0 l1 : AV} {st : List AV} {o : Nat} {σ : Sg} {Q : AV → Sg → Prop} (hk : kn σ o = (0, 0)) : Rn d m_X0_copyOf 144 [l0, l1] (vR o :: st) σ Q ↔ Rn d m_X0_copyOf 147 [l0, l1] (vR (tp o 11) :: st) σ Q := q33 (show fnd (pgm m_X0_copyOf) 144 = some (147, 33, 50, 0, 11, []) from rfl) hk
set_option maxRecDepth 100000 in
theorem s_X0_copyOf_147 {d : Nat} {l0 l1 : AV} {st : List AV} {σ : Sg} {Q : AV → Sg → Prop}  : Rn d m_X0_copyOf 147 [l0, l1] st σ Q ↔ Rn d m_X0_copyOf 148 [l0, l1] (vI 0 :: st) σ Q := q0 (show fnd (pgm m_X0_copyOf) 147 = some (148, 0, 0, 0, 0, []) from rfl)
set_option maxRecDepth 100000 in
theorem s_X0_copyOf_148 {d : Nat} {l1 : AV} {st : List AV} {o : Nat} {σ : Sg} {Q : AV → Sg → Prop} (ho : o ≠ 0) : Rn d m_X0_copyOf 148 [vR o, l1] st σ Q ↔ Rn d m_X0_copyOf 149 [vR o, l1] (vR o :: st) σ Q := q5 (show fnd (pgm m_X0_copyOf) 148 = some (149, 5, 0, 0, 0, []) from rfl) rfl ho
set_option maxRecDepth 100000 in
theorem s_X0_copyOf_149 {d : Nat} {l0 l1 : AV} {st : List AV} {o : Nat} {σ : Sg} {Q : AV → Sg → Prop} (hk : kn σ o = (0, 0)) : Rn d m_X0_copyOf 149 [l0, l1] (vR o :: st) σ Q ↔ Rn d m_X0_copyOf 152 [l0, l1] (vR (tp o 11) :: st) σ Q := q33 (show fnd (pgm m_X0_copyOf) 149 = some (152, 33, 50, 0, 11, []) from rfl) hk
set_option maxRecDepth 100000 in
theorem s_X0_copyOf_152 {d : Nat} {l0 l1 : AV} {st : List AV} {σ : Sg} {Q : AV → Sg → Prop}  : Rn d m_X0_copyOf 152 [l0, l1] st σ Q ↔ Rn d m_X0_copyOf 153 [l0, l1] (vI 0 :: st) σ Q := q0 (show fnd (pgm m_X0_copyOf) 152 = some (153, 0, 0, 0, 0, []) from rfl)
set_option maxRecDepth 100000 in
theorem s_X0_copyOf_153 {d : Nat} {l0 l1 : AV} {st : List AV} {σ : Sg} {Q : AV → Sg → Prop}  : Rn d m_X0_copyOf 153 [l0, l1] st σ Q ↔ Rn d m_X0_copyOf 155 [l0, l1] (vI 6 :: st) σ Q := q0 (show fnd (pgm m_X0_copyOf) 153 = some (155, 0, 6, 1, 0, []) from rfl)
set_option maxRecDepth 100000 in
theorem s_X0_copyOf_155 {d : Nat} {l0 l1 : AV} {st : List AV} {n dp sp : Int} {a b : Nat} {σ : Sg} {Q : AV → Sg → Prop} (hc : 0 ≤ w32 sp ∧ 0 ≤ w32 dp ∧ 0 ≤ w32 n ∧ w32 sp + w32 n ≤ al σ 1 a ∧ w32 dp + w32 n ≤ al σ 1 b ∧ a ≠ b ∧ st.length ≤ 4 ∧ 0 < al σ 1 a ∧ 0 < al σ 1 b) : Rn d m_X0_copyOf 155 [l0, l1] (vI n :: vI dp :: vR b :: vI sp :: vR a :: st) σ Q ↔ Rn d m_X0_copyOf 158 [l0, l1] st (cpy σ a (w32 sp) b (w32 dp) (w32 n)) Q := q36 (show fnd (pgm m_X0_copyOf) 155 = some (158, 36, 100, 1, 0, []) from rfl) ⟨by decide, hc⟩
set_option maxRecDepth 100000 in
theorem s_X0_copyOf_158 {d : Nat} {l0 l1 : AV} {σ : Sg} {Q : AV → Sg → Prop}  : Rn d m_X0_copyOf 158 [l0, l1] [] σ Q ↔ Q none σ := q37_0 (st := []) (show fnd (pgm m_X0_copyOf) 158 = some (159, 37, 0, 0, 0, []) from rfl)
set_option maxRecDepth 100000 in
theorem en_X1_begin {d : Nat} {o : Nat} {σ σ0 : Sg} {r0 : AV} (h : Rn d m_X1_begin 0 [vR o] [] σ (fun r σ1 => r = r0 ∧ σ1 = σ0)) : Ev (d + 1) m_X1_begin [vR o] σ r0 σ0 := Ev_is (Nat.le_of_ble_eq_true rfl) h
set_option maxRecDepth 100000 in
theorem eo_X1_begin {d : Nat} {o : Nat} {σ : Sg} {Q : AV → Sg → Prop} (h : Rn d m_X1_begin 0 [vR o] [] σ Q) : ∃ r σ1, Ev (d + 1) m_X1_begin [vR o] σ r σ1 ∧ Q r σ1 := Ev_of (Nat.le_of_ble_eq_true rfl) h
set_option maxRecDepth 100000 in
theorem s_X1_begin_0 {d : Nat} {st : List AV} {o : Nat} {σ : Sg} {Q : AV → Sg → Prop} (ho : o ≠ 0) : Rn d m_X1_begin 0 [vR o] st σ Q ↔ Rn d m_X1_begin 1 [vR o] (vR o :: st) σ Q := q5 (show fnd (pgm m_X1_begin) 0 = some (1, 5, 0, 0, 0, []) from rfl) rfl ho
set_option maxRecDepth 100000 in
theorem s_X1_begin_1 {d : Nat} {l0 : AV} {st : List AV} {σ : Sg} {Q : AV → Sg → Prop}  : Rn d m_X1_begin 1 [l0] st σ Q ↔ Rn d m_X1_begin 2 [l0] (vI 0 :: st) σ Q := q0 (show fnd (pgm m_X1_begin) 1 = some (2, 0, 0, 0, 0, []) from rfl)
set_option maxRecDepth 100000 in
theorem s_X1_begin_2 {d : Nat} {l0 : AV} {st : List AV} {o : Nat} {x : Int} {σ : Sg} {Q : AV → Sg → Prop} (hk : kn σ o = (0, 1)) : Rn d m_X1_begin 2 [l0] (vI x :: vR o :: st) σ Q ↔ Rn d m_X1_begin 5 [l0] st (up σ o 0 x) Q := q34i (show fnd (pgm m_X1_begin) 2 = some (5, 34, 9, 1, 0, []) from rfl) hk rfl
set_option maxRecDepth 100000 in
theorem s_X1_begin_5 {d : Nat} {st : List AV} {o : Nat} {σ : Sg} {Q : AV → Sg → Prop} (ho : o ≠ 0) : Rn d m_X1_begin 5 [vR o] st σ Q ↔ Rn d m_X1_begin 6 [vR o] (vR o :: st) σ Q := q5 (show fnd (pgm m_X1_begin) 5 = some (6, 5, 0, 0, 0, []) from rfl) rfl ho
set_option maxRecDepth 100000 in
theorem s_X1_begin_6 {d : Nat} {l0 : AV} {st : List AV} {σ : Sg} {Q : AV → Sg → Prop}  : Rn d m_X1_begin 6 [l0] st σ Q ↔ Rn d m_X1_begin 7 [l0] (vI 0 :: st) σ Q := q0 (show fnd (pgm m_X1_begin) 6 = some (7, 0, 0, 0, 0, []) from rfl)
set_option maxRecDepth 100000 in
theorem s_X1_begin_7 {d : Nat} {l0 : AV} {st : List AV} {o : Nat} {x : Int} {σ : Sg} {Q : AV → Sg → Prop} (hk : kn σ o = (0, 1)) : Rn d m_X1_begin 7 [l0] (vI x :: vR o :: st) σ Q ↔ Rn d m_X1_begin 10 [l0] st (up σ o 1 x) Q := q34i (show fnd (pgm m_X1_begin) 7 = some (10, 34, 15, 1, 1, []) from rfl) hk rfl
set_option maxRecDepth 100000 in
theorem s_X1_begin_10 {d : Nat} {st : List AV} {o : Nat} {σ : Sg} {Q : AV → Sg → Prop} (ho : o ≠ 0) : Rn d m_X1_begin 10 [vR o] st σ Q ↔ Rn d m_X1_begin 11 [vR o] (vR o :: st) σ Q := q5 (show fnd (pgm m_X1_begin) 10 = some (11, 5, 0, 0, 0, []) from rfl) rfl ho
set_option maxRecDepth 100000 in
theorem s_X1_begin_11 {d : Nat} {l0 : AV} {st : List AV} {o : Nat} {σ : Sg} {Q : AV → Sg → Prop} (hk : kn σ o = (0, 1)) : Rn d m_X1_begin 11 [l0] (vR o :: st) σ Q ↔ Rn d m_X1_begin 14 [l0] (vR (tp o 7) :: st) σ Q := q33 (show fnd (pgm m_X1_begin) 11 = some (14, 33, 34, 1, 7, []) from rfl) hk
set_option maxRecDepth 100000 in
theorem s_X1_begin_14 {d : Nat} {l0 : AV} {st : List AV} {σ : Sg} {Q : AV → Sg → Prop}  : Rn d m_X1_begin 14 [l0] st σ Q ↔ Rn d m_X1_begin 15 [l0] (vI 0 :: st) σ Q := q0 (show fnd (pgm m_X1_begin) 14 = some (15, 0, 0, 0, 0, []) from rfl)
set_option maxRecDepth 100000 in
theorem s_X1_begin_15 {d : Nat} {l0 : AV} {st : List AV}  {a0 : Nat} {a1 : Int} {σ : Sg} {Q : AV → Sg → Prop} (h4 : st.length ≤ 4) : Rn d m_X1_begin 15 [l0] (vI a1 :: vR a0 :: st) σ Q ↔ ∃ r σ1, Ev d m_J7_fill_53178 [vR a0, vI a1] σ r σ1 ∧ Rn d m_X1_begin 18 [l0] (psh r st) σ1 Q := q35 (show fnd (pgm m_X1_begin) 15 = some (18, 35, 46, 178, 2, []) from rfl) ⟨⟨by simp, by simpa using h4⟩, rfl⟩
set_option maxRecDepth 100000 in
theorem s_X1_begin_18 {d : Nat} {l0 : AV} {σ : Sg} {Q : AV → Sg → Prop}  : Rn d m_X1_begin 18 [l0] [] σ Q ↔ Q none σ := q37_0 (st := []) (show fnd (pgm m_X1_begin) 18 = some (19, 37, 0, 0, 0, []) from rfl)
set_option maxRecDepth 100000 in
theorem en_X1_addClaim {d : Nat} {o : Nat} {a0 : Nat} {σ σ0 : Sg} {r0 : AV} (h : Rn d m_X1_addClaim 0 [vR o, vR a0] [] σ (fun r σ1 => r = r0 ∧ σ1 = σ0)) : Ev (d + 1) m_X1_addClaim [vR o, vR a0] σ r0 σ0 := Ev_is (Nat.le_of_ble_eq_true rfl) h
set_option maxRecDepth 100000 in
theorem eo_X1_addClaim {d : Nat} {o : Nat} {a0 : Nat} {σ : Sg} {Q : AV → Sg → Prop} (h : Rn d m_X1_addClaim 0 [vR o, vR a0] [] σ Q) : ∃ r σ1, Ev (d + 1) m_X1_addClaim [vR o, vR a0] σ r σ1 ∧ Q r σ1 := Ev_of (Nat.le_of_ble_eq_true rfl) h
set_option maxRecDepth 100000 in
theorem s_X1_addClaim_0 {d : Nat} {l1 : AV} {st : List AV} {o : Nat} {σ : Sg} {Q : AV → Sg → Prop} (ho : o ≠ 0) : Rn d m_X1_addClaim 0 [vR o, l1] st σ Q ↔ Rn d m_X1_addClaim 1 [vR o, l1] (vR o :: st) σ Q := q5 (show fnd (pgm m_X1_addClaim) 0 = some (1, 5, 0, 0, 0, []) from rfl) rfl ho
set_option maxRecDepth 100000 in
theorem s_X1_addClaim_1 {d : Nat} {l0 l1 : AV} {st : List AV} {o : Nat} {σ : Sg} {Q : AV → Sg → Prop} (hk : kn σ o = (0, 1)) : Rn d m_X1_addClaim 1 [l0, l1] (vR o :: st) σ Q ↔ Rn d m_X1_addClaim 4 [l0, l1] (vI (σ o 0) :: st) σ Q := q33 (show fnd (pgm m_X1_addClaim) 1 = some (4, 33, 9, 1, 0, []) from rfl) hk
set_option maxRecDepth 100000 in
theorem s_X1_addClaim_4 {d : Nat} {l0 l1 : AV} {st : List AV} {σ : Sg} {Q : AV → Sg → Prop}  : Rn d m_X1_addClaim 4 [l0, l1] st σ Q ↔ Rn d m_X1_addClaim 6 [l0, l1] (vI 14 :: st) σ Q := q0 (show fnd (pgm m_X1_addClaim) 4 = some (6, 0, 14, 1, 0, []) from rfl)
set_option maxRecDepth 100000 in
theorem s_X1_addClaim_6 {d : Nat} {l0 l1 : AV} {st : List AV} {a b : Int} {σ : Sg} {Q : AV → Sg → Prop}  : Rn d m_X1_addClaim 6 [l0, l1] (vI b :: vI a :: st) σ Q ↔ if w32 b ≤ w32 a then Rn d m_X1_addClaim 15 [l0, l1] st σ Q else Rn d m_X1_addClaim 9 [l0, l1] st σ Q := q20_3 (show fnd (pgm m_X1_addClaim) 6 = some (9, 20, 0, 3, 15, []) from rfl)
set_option maxRecDepth 100000 in
theorem s_X1_addClaim_9 {d : Nat} {l0 : AV} {st : List AV} {o : Nat} {σ : Sg} {Q : AV → Sg → Prop} (ho : o ≠ 0) : Rn d m_X1_addClaim 9 [l0, vR o] st σ Q ↔ Rn d m_X1_addClaim 10 [l0, vR o] (vR o :: st) σ Q := q5 (show fnd (pgm m_X1_addClaim) 9 = some (10, 5, 0, 1, 0, []) from rfl) rfl ho
set_option maxRecDepth 100000 in
theorem s_X1_addClaim_10 {d : Nat} {l0 l1 : AV} {st : List AV} {o c n : Nat} {σ : Sg} {Q : AV → Sg → Prop} (hk : kn σ o = (c, n)) (hc : c = 1 ∨ c = 2) : Rn d m_X1_addClaim 10 [l0, l1] (vR o :: st) σ Q ↔ Rn d m_X1_addClaim 11 [l0, l1] (vI n :: st) σ Q := q32 (show fnd (pgm m_X1_addClaim) 10 = some (11, 32, 0, 0, 0, []) from rfl) hk hc
set_option maxRecDepth 100000 in
theorem s_X1_addClaim_11 {d : Nat} {l0 l1 : AV} {st : List AV} {σ : Sg} {Q : AV → Sg → Prop}  : Rn d m_X1_addClaim 11 [l0, l1] st σ Q ↔ Rn d m_X1_addClaim 12 [l0, l1] (vI 5 :: st) σ Q := q0 (show fnd (pgm m_X1_addClaim) 11 = some (12, 0, 5, 0, 0, []) from rfl)
set_option maxRecDepth 100000 in
theorem s_X1_addClaim_12 {d : Nat} {l0 l1 : AV} {st : List AV} {a b : Int} {σ : Sg} {Q : AV → Sg → Prop}  : Rn d m_X1_addClaim 12 [l0, l1] (vI b :: vI a :: st) σ Q ↔ if w32 b ≤ w32 a then Rn d m_X1_addClaim 16 [l0, l1] st σ Q else Rn d m_X1_addClaim 15 [l0, l1] st σ Q := q20_3 (show fnd (pgm m_X1_addClaim) 12 = some (15, 20, 0, 3, 16, []) from rfl)
set_option maxRecDepth 100000 in
theorem s_X1_addClaim_15 {d : Nat} {l0 l1 : AV} {σ : Sg} {Q : AV → Sg → Prop}  : Rn d m_X1_addClaim 15 [l0, l1] [] σ Q ↔ Q none σ := q37_0 (st := []) (show fnd (pgm m_X1_addClaim) 15 = some (16, 37, 0, 0, 0, []) from rfl)
set_option maxRecDepth 100000 in
theorem s_X1_addClaim_16 {d : Nat} {l1 : AV} {st : List AV} {o : Nat} {σ : Sg} {Q : AV → Sg → Prop} (ho : o ≠ 0) : Rn d m_X1_addClaim 16 [vR o, l1] st σ Q ↔ Rn d m_X1_addClaim 17 [vR o, l1] (vR o :: st) σ Q := q5 (show fnd (pgm m_X1_addClaim) 16 = some (17, 5, 0, 0, 0, []) from rfl) rfl ho
set_option maxRecDepth 100000 in
theorem s_X1_addClaim_17 {d : Nat} {l0 l1 : AV} {st : List AV} {o : Nat} {σ : Sg} {Q : AV → Sg → Prop} (hk : kn σ o = (0, 1)) : Rn d m_X1_addClaim 17 [l0, l1] (vR o :: st) σ Q ↔ Rn d m_X1_addClaim 20 [l0, l1] (vR (tp o 2) :: st) σ Q := q33 (show fnd (pgm m_X1_addClaim) 17 = some (20, 33, 18, 1, 2, []) from rfl) hk
set_option maxRecDepth 100000 in
theorem s_X1_addClaim_20 {d : Nat} {l1 : AV} {st : List AV} {o : Nat} {σ : Sg} {Q : AV → Sg → Prop} (ho : o ≠ 0) : Rn d m_X1_addClaim 20 [vR o, l1] st σ Q ↔ Rn d m_X1_addClaim 21 [vR o, l1] (vR o :: st) σ Q := q5 (show fnd (pgm m_X1_addClaim) 20 = some (21, 5, 0, 0, 0, []) from rfl) rfl ho
set_option maxRecDepth 100000 in
theorem s_X1_addClaim_21 {d : Nat} {l0 l1 : AV} {st : List AV} {o : Nat} {σ : Sg} {Q : AV → Sg → Prop} (hk : kn σ o = (0, 1)) : Rn d m_X1_addClaim 21 [l0, l1] (vR o :: st) σ Q ↔ Rn d m_X1_addClaim 24 [l0, l1] (vI (σ o 0) :: st) σ Q := q33 (show fnd (pgm m_X1_addClaim) 21 = some (24, 33, 9, 1, 0, []) from rfl) hk
set_option maxRecDepth 100000 in
theorem s_X1_addClaim_24 {d : Nat} {l0 : AV} {st : List AV} {o : Nat} {σ : Sg} {Q : AV → Sg → Prop} (ho : o ≠ 0) : Rn d m_X1_addClaim 24 [l0, vR o] st σ Q ↔ Rn d m_X1_addClaim 25 [l0, vR o] (vR o :: st) σ Q := q5 (show fnd (pgm m_X1_addClaim) 24 = some (25, 5, 0, 1, 0, []) from rfl) rfl ho
set_option maxRecDepth 100000 in
theorem s_X1_addClaim_25 {d : Nat} {l0 l1 : AV} {st : List AV} {σ : Sg} {Q : AV → Sg → Prop}  : Rn d m_X1_addClaim 25 [l0, l1] st σ Q ↔ Rn d m_X1_addClaim 26 [l0, l1] (vI 0 :: st) σ Q := q0 (show fnd (pgm m_X1_addClaim) 25 = some (26, 0, 0, 0, 0, []) from rfl)
set_option maxRecDepth 100000 in
theorem s_X1_addClaim_26 {d : Nat} {l0 l1 : AV} {st : List AV} {i : Int} {o : Nat} {σ : Sg} {Q : AV → Sg → Prop} (hi : 0 ≤ w32 i ∧ w32 i < al σ 1 o) : Rn d m_X1_addClaim 26 [l0, l1] (vI i :: vR o :: st) σ Q ↔ Rn d m_X1_addClaim 27 [l0, l1] (vI (σ o (w32 i)) :: st) σ Q := q25 (show fnd (pgm m_X1_addClaim) 26 = some (27, 25, 0, 0, 0, []) from rfl) hi
set_option maxRecDepth 100000 in
theorem s_X1_addClaim_27 {d : Nat} {l0 l1 : AV} {st : List AV} {i x : Int} {o : Nat} {σ : Sg} {Q : AV → Sg → Prop} (hi : 0 ≤ w32 i ∧ w32 i < al σ 1 o) : Rn d m_X1_addClaim 27 [l0, l1] (vI x :: vI i :: vR o :: st) σ Q ↔ Rn d m_X1_addClaim 28 [l0, l1] st (up σ o (w32 i) x) Q := q29 (show fnd (pgm m_X1_addClaim) 27 = some (28, 29, 0, 0, 0, []) from rfl) hi
set_option maxRecDepth 100000 in
theorem s_X1_addClaim_28 {d : Nat} {l1 : AV} {st : List AV} {o : Nat} {σ : Sg} {Q : AV → Sg → Prop} (ho : o ≠ 0) : Rn d m_X1_addClaim 28 [vR o, l1] st σ Q ↔ Rn d m_X1_addClaim 29 [vR o, l1] (vR o :: st) σ Q := q5 (show fnd (pgm m_X1_addClaim) 28 = some (29, 5, 0, 0, 0, []) from rfl) rfl ho
set_option maxRecDepth 100000 in
theorem s_X1_addClaim_29 {d : Nat} {l0 l1 : AV} {st : List AV} {o : Nat} {σ : Sg} {Q : AV → Sg → Prop} (hk : kn σ o = (0, 1)) : Rn d m_X1_addClaim 29 [l0, l1] (vR o :: st) σ Q ↔ Rn d m_X1_addClaim 32 [l0, l1] (vR (tp o 3) :: st) σ Q := q33 (show fnd (pgm m_X1_addClaim) 29 = some (32, 33, 22, 1, 3, []) from rfl) hk
set_option maxRecDepth 100000 in
theorem s_X1_addClaim_32 {d : Nat} {l1 : AV} {st : List AV} {o : Nat} {σ : Sg} {Q : AV → Sg → Prop} (ho : o ≠ 0) : Rn d m_X1_addClaim 32 [vR o, l1] st σ Q ↔ Rn d m_X1_addClaim 33 [vR o, l1] (vR o :: st) σ Q := q5 (show fnd (pgm m_X1_addClaim) 32 = some (33, 5, 0, 0, 0, []) from rfl) rfl ho
set_option maxRecDepth 100000 in
theorem s_X1_addClaim_33 {d : Nat} {l0 l1 : AV} {st : List AV} {o : Nat} {σ : Sg} {Q : AV → Sg → Prop} (hk : kn σ o = (0, 1)) : Rn d m_X1_addClaim 33 [l0, l1] (vR o :: st) σ Q ↔ Rn d m_X1_addClaim 36 [l0, l1] (vI (σ o 0) :: st) σ Q := q33 (show fnd (pgm m_X1_addClaim) 33 = some (36, 33, 9, 1, 0, []) from rfl) hk
set_option maxRecDepth 100000 in
theorem s_X1_addClaim_36 {d : Nat} {l0 : AV} {st : List AV} {o : Nat} {σ : Sg} {Q : AV → Sg → Prop} (ho : o ≠ 0) : Rn d m_X1_addClaim 36 [l0, vR o] st σ Q ↔ Rn d m_X1_addClaim 37 [l0, vR o] (vR o :: st) σ Q := q5 (show fnd (pgm m_X1_addClaim) 36 = some (37, 5, 0, 1, 0, []) from rfl) rfl ho
set_option maxRecDepth 100000 in
theorem s_X1_addClaim_37 {d : Nat} {l0 l1 : AV} {st : List AV} {σ : Sg} {Q : AV → Sg → Prop}  : Rn d m_X1_addClaim 37 [l0, l1] st σ Q ↔ Rn d m_X1_addClaim 38 [l0, l1] (vI 1 :: st) σ Q := q0 (show fnd (pgm m_X1_addClaim) 37 = some (38, 0, 1, 0, 0, []) from rfl)
set_option maxRecDepth 100000 in
theorem s_X1_addClaim_38 {d : Nat} {l0 l1 : AV} {st : List AV} {i : Int} {o : Nat} {σ : Sg} {Q : AV → Sg → Prop} (hi : 0 ≤ w32 i ∧ w32 i < al σ 1 o) : Rn d m_X1_addClaim 38 [l0, l1] (vI i :: vR o :: st) σ Q ↔ Rn d m_X1_addClaim 39 [l0, l1] (vI (σ o (w32 i)) :: st) σ Q := q25 (show fnd (pgm m_X1_addClaim) 38 = some (39, 25, 0, 0, 0, []) from rfl) hi
set_option maxRecDepth 100000 in
theorem s_X1_addClaim_39 {d : Nat} {l0 l1 : AV} {st : List AV} {i x : Int} {o : Nat} {σ : Sg} {Q : AV → Sg → Prop} (hi : 0 ≤ w32 i ∧ w32 i < al σ 1 o) : Rn d m_X1_addClaim 39 [l0, l1] (vI x :: vI i :: vR o :: st) σ Q ↔ Rn d m_X1_addClaim 40 [l0, l1] st (up σ o (w32 i) x) Q := q29 (show fnd (pgm m_X1_addClaim) 39 = some (40, 29, 0, 0, 0, []) from rfl) hi
set_option maxRecDepth 100000 in
theorem s_X1_addClaim_40 {d : Nat} {l1 : AV} {st : List AV} {o : Nat} {σ : Sg} {Q : AV → Sg → Prop} (ho : o ≠ 0) : Rn d m_X1_addClaim 40 [vR o, l1] st σ Q ↔ Rn d m_X1_addClaim 41 [vR o, l1] (vR o :: st) σ Q := q5 (show fnd (pgm m_X1_addClaim) 40 = some (41, 5, 0, 0, 0, []) from rfl) rfl ho
set_option maxRecDepth 100000 in
theorem s_X1_addClaim_41 {d : Nat} {l0 l1 : AV} {st : List AV} {o : Nat} {σ : Sg} {Q : AV → Sg → Prop} (hk : kn σ o = (0, 1)) : Rn d m_X1_addClaim 41 [l0, l1] (vR o :: st) σ Q ↔ Rn d m_X1_addClaim 44 [l0, l1] (vR (tp o 4) :: st) σ Q := q33 (show fnd (pgm m_X1_addClaim) 41 = some (44, 33, 25, 1, 4, []) from rfl) hk
set_option maxRecDepth 100000 in
theorem s_X1_addClaim_44 {d : Nat} {l1 : AV} {st : List AV} {o : Nat} {σ : Sg} {Q : AV → Sg → Prop} (ho : o ≠ 0) : Rn d m_X1_addClaim 44 [vR o, l1] st σ Q ↔ Rn d m_X1_addClaim 45 [vR o, l1] (vR o :: st) σ Q := q5 (show fnd (pgm m_X1_addClaim) 44 = some (45, 5, 0, 0, 0, []) from rfl) rfl ho
set_option maxRecDepth 100000 in
theorem s_X1_addClaim_45 {d : Nat} {l0 l1 : AV} {st : List AV} {o : Nat} {σ : Sg} {Q : AV → Sg → Prop} (hk : kn σ o = (0, 1)) : Rn d m_X1_addClaim 45 [l0, l1] (vR o :: st) σ Q ↔ Rn d m_X1_addClaim 48 [l0, l1] (vI (σ o 0) :: st) σ Q := q33 (show fnd (pgm m_X1_addClaim) 45 = some (48, 33, 9, 1, 0, []) from rfl) hk
set_option maxRecDepth 100000 in
theorem s_X1_addClaim_48 {d : Nat} {l0 : AV} {st : List AV} {o : Nat} {σ : Sg} {Q : AV → Sg → Prop} (ho : o ≠ 0) : Rn d m_X1_addClaim 48 [l0, vR o] st σ Q ↔ Rn d m_X1_addClaim 49 [l0, vR o] (vR o :: st) σ Q := q5 (show fnd (pgm m_X1_addClaim) 48 = some (49, 5, 0, 1, 0, []) from rfl) rfl ho
set_option maxRecDepth 100000 in
theorem s_X1_addClaim_49 {d : Nat} {l0 l1 : AV} {st : List AV} {σ : Sg} {Q : AV → Sg → Prop}  : Rn d m_X1_addClaim 49 [l0, l1] st σ Q ↔ Rn d m_X1_addClaim 50 [l0, l1] (vI 2 :: st) σ Q := q0 (show fnd (pgm m_X1_addClaim) 49 = some (50, 0, 2, 0, 0, []) from rfl)
set_option maxRecDepth 100000 in
theorem s_X1_addClaim_50 {d : Nat} {l0 l1 : AV} {st : List AV} {i : Int} {o : Nat} {σ : Sg} {Q : AV → Sg → Prop} (hi : 0 ≤ w32 i ∧ w32 i < al σ 1 o) : Rn d m_X1_addClaim 50 [l0, l1] (vI i :: vR o :: st) σ Q ↔ Rn d m_X1_addClaim 51 [l0, l1] (vI (σ o (w32 i)) :: st) σ Q := q25 (show fnd (pgm m_X1_addClaim) 50 = some (51, 25, 0, 0, 0, []) from rfl) hi
set_option maxRecDepth 100000 in
theorem s_X1_addClaim_51 {d : Nat} {l0 l1 : AV} {st : List AV} {i x : Int} {o : Nat} {σ : Sg} {Q : AV → Sg → Prop} (hi : 0 ≤ w32 i ∧ w32 i < al σ 1 o) : Rn d m_X1_addClaim 51 [l0, l1] (vI x :: vI i :: vR o :: st) σ Q ↔ Rn d m_X1_addClaim 52 [l0, l1] st (up σ o (w32 i) x) Q := q29 (show fnd (pgm m_X1_addClaim) 51 = some (52, 29, 0, 0, 0, []) from rfl) hi
set_option maxRecDepth 100000 in
theorem s_X1_addClaim_52 {d : Nat} {l1 : AV} {st : List AV} {o : Nat} {σ : Sg} {Q : AV → Sg → Prop} (ho : o ≠ 0) : Rn d m_X1_addClaim 52 [vR o, l1] st σ Q ↔ Rn d m_X1_addClaim 53 [vR o, l1] (vR o :: st) σ Q := q5 (show fnd (pgm m_X1_addClaim) 52 = some (53, 5, 0, 0, 0, []) from rfl) rfl ho
set_option maxRecDepth 100000 in
theorem s_X1_addClaim_53 {d : Nat} {l0 l1 : AV} {st : List AV} {o : Nat} {σ : Sg} {Q : AV → Sg → Prop} (hk : kn σ o = (0, 1)) : Rn d m_X1_addClaim 53 [l0, l1] (vR o :: st) σ Q ↔ Rn d m_X1_addClaim 56 [l0, l1] (vR (tp o 5) :: st) σ Q := q33 (show fnd (pgm m_X1_addClaim) 53 = some (56, 33, 28, 1, 5, []) from rfl) hk
set_option maxRecDepth 100000 in
theorem s_X1_addClaim_56 {d : Nat} {l1 : AV} {st : List AV} {o : Nat} {σ : Sg} {Q : AV → Sg → Prop} (ho : o ≠ 0) : Rn d m_X1_addClaim 56 [vR o, l1] st σ Q ↔ Rn d m_X1_addClaim 57 [vR o, l1] (vR o :: st) σ Q := q5 (show fnd (pgm m_X1_addClaim) 56 = some (57, 5, 0, 0, 0, []) from rfl) rfl ho
set_option maxRecDepth 100000 in
theorem s_X1_addClaim_57 {d : Nat} {l0 l1 : AV} {st : List AV} {o : Nat} {σ : Sg} {Q : AV → Sg → Prop} (hk : kn σ o = (0, 1)) : Rn d m_X1_addClaim 57 [l0, l1] (vR o :: st) σ Q ↔ Rn d m_X1_addClaim 60 [l0, l1] (vI (σ o 0) :: st) σ Q := q33 (show fnd (pgm m_X1_addClaim) 57 = some (60, 33, 9, 1, 0, []) from rfl) hk
set_option maxRecDepth 100000 in
theorem s_X1_addClaim_60 {d : Nat} {l0 : AV} {st : List AV} {o : Nat} {σ : Sg} {Q : AV → Sg → Prop} (ho : o ≠ 0) : Rn d m_X1_addClaim 60 [l0, vR o] st σ Q ↔ Rn d m_X1_addClaim 61 [l0, vR o] (vR o :: st) σ Q := q5 (show fnd (pgm m_X1_addClaim) 60 = some (61, 5, 0, 1, 0, []) from rfl) rfl ho
set_option maxRecDepth 100000 in
theorem s_X1_addClaim_61 {d : Nat} {l0 l1 : AV} {st : List AV} {σ : Sg} {Q : AV → Sg → Prop}  : Rn d m_X1_addClaim 61 [l0, l1] st σ Q ↔ Rn d m_X1_addClaim 62 [l0, l1] (vI 3 :: st) σ Q := q0 (show fnd (pgm m_X1_addClaim) 61 = some (62, 0, 3, 0, 0, []) from rfl)
set_option maxRecDepth 100000 in
theorem s_X1_addClaim_62 {d : Nat} {l0 l1 : AV} {st : List AV} {i : Int} {o : Nat} {σ : Sg} {Q : AV → Sg → Prop} (hi : 0 ≤ w32 i ∧ w32 i < al σ 1 o) : Rn d m_X1_addClaim 62 [l0, l1] (vI i :: vR o :: st) σ Q ↔ Rn d m_X1_addClaim 63 [l0, l1] (vI (σ o (w32 i)) :: st) σ Q := q25 (show fnd (pgm m_X1_addClaim) 62 = some (63, 25, 0, 0, 0, []) from rfl) hi
set_option maxRecDepth 100000 in
theorem s_X1_addClaim_63 {d : Nat} {l0 l1 : AV} {st : List AV} {i x : Int} {o : Nat} {σ : Sg} {Q : AV → Sg → Prop} (hi : 0 ≤ w32 i ∧ w32 i < al σ 1 o) : Rn d m_X1_addClaim 63 [l0, l1] (vI x :: vI i :: vR o :: st) σ Q ↔ Rn d m_X1_addClaim 64 [l0, l1] st (up σ o (w32 i) x) Q := q29 (show fnd (pgm m_X1_addClaim) 63 = some (64, 29, 0, 0, 0, []) from rfl) hi
set_option maxRecDepth 100000 in
theorem s_X1_addClaim_64 {d : Nat} {l1 : AV} {st : List AV} {o : Nat} {σ : Sg} {Q : AV → Sg → Prop} (ho : o ≠ 0) : Rn d m_X1_addClaim 64 [vR o, l1] st σ Q ↔ Rn d m_X1_addClaim 65 [vR o, l1] (vR o :: st) σ Q := q5 (show fnd (pgm m_X1_addClaim) 64 = some (65, 5, 0, 0, 0, []) from rfl) rfl ho
set_option maxRecDepth 100000 in
theorem s_X1_addClaim_65 {d : Nat} {l0 l1 : AV} {st : List AV} {o : Nat} {σ : Sg} {Q : AV → Sg → Prop} (hk : kn σ o = (0, 1)) : Rn d m_X1_addClaim 65 [l0, l1] (vR o :: st) σ Q ↔ Rn d m_X1_addClaim 68 [l0, l1] (vR (tp o 6) :: st) σ Q := q33 (show fnd (pgm m_X1_addClaim) 65 = some (68, 33, 31, 1, 6, []) from rfl) hk
set_option maxRecDepth 100000 in
theorem s_X1_addClaim_68 {d : Nat} {l1 : AV} {st : List AV} {o : Nat} {σ : Sg} {Q : AV → Sg → Prop} (ho : o ≠ 0) : Rn d m_X1_addClaim 68 [vR o, l1] st σ Q ↔ Rn d m_X1_addClaim 69 [vR o, l1] (vR o :: st) σ Q := q5 (show fnd (pgm m_X1_addClaim) 68 = some (69, 5, 0, 0, 0, []) from rfl) rfl ho
set_option maxRecDepth 100000 in
theorem s_X1_addClaim_69 {d : Nat} {l0 l1 : AV} {st : List AV} {o : Nat} {σ : Sg} {Q : AV → Sg → Prop} (hk : kn σ o = (0, 1)) : Rn d m_X1_addClaim 69 [l0, l1] (vR o :: st) σ Q ↔ Rn d m_X1_addClaim 72 [l0, l1] (vI (σ o 0) :: st) σ Q := q33 (show fnd (pgm m_X1_addClaim) 69 = some (72, 33, 9, 1, 0, []) from rfl) hk
set_option maxRecDepth 100000 in
theorem s_X1_addClaim_72 {d : Nat} {l0 : AV} {st : List AV} {o : Nat} {σ : Sg} {Q : AV → Sg → Prop} (ho : o ≠ 0) : Rn d m_X1_addClaim 72 [l0, vR o] st σ Q ↔ Rn d m_X1_addClaim 73 [l0, vR o] (vR o :: st) σ Q := q5 (show fnd (pgm m_X1_addClaim) 72 = some (73, 5, 0, 1, 0, []) from rfl) rfl ho
set_option maxRecDepth 100000 in
theorem s_X1_addClaim_73 {d : Nat} {l0 l1 : AV} {st : List AV} {σ : Sg} {Q : AV → Sg → Prop}  : Rn d m_X1_addClaim 73 [l0, l1] st σ Q ↔ Rn d m_X1_addClaim 74 [l0, l1] (vI 4 :: st) σ Q := q0 (show fnd (pgm m_X1_addClaim) 73 = some (74, 0, 4, 0, 0, []) from rfl)
set_option maxRecDepth 100000 in
theorem s_X1_addClaim_74 {d : Nat} {l0 l1 : AV} {st : List AV} {i : Int} {o : Nat} {σ : Sg} {Q : AV → Sg → Prop} (hi : 0 ≤ w32 i ∧ w32 i < al σ 1 o) : Rn d m_X1_addClaim 74 [l0, l1] (vI i :: vR o :: st) σ Q ↔ Rn d m_X1_addClaim 75 [l0, l1] (vI (σ o (w32 i)) :: st) σ Q := q25 (show fnd (pgm m_X1_addClaim) 74 = some (75, 25, 0, 0, 0, []) from rfl) hi
set_option maxRecDepth 100000 in
theorem s_X1_addClaim_75 {d : Nat} {l0 l1 : AV} {st : List AV} {i x : Int} {o : Nat} {σ : Sg} {Q : AV → Sg → Prop} (hi : 0 ≤ w32 i ∧ w32 i < al σ 1 o) : Rn d m_X1_addClaim 75 [l0, l1] (vI x :: vI i :: vR o :: st) σ Q ↔ Rn d m_X1_addClaim 76 [l0, l1] st (up σ o (w32 i) x) Q := q29 (show fnd (pgm m_X1_addClaim) 75 = some (76, 29, 0, 0, 0, []) from rfl) hi
set_option maxRecDepth 100000 in
theorem s_X1_addClaim_76 {d : Nat} {l1 : AV} {st : List AV} {o : Nat} {σ : Sg} {Q : AV → Sg → Prop} (ho : o ≠ 0) : Rn d m_X1_addClaim 76 [vR o, l1] st σ Q ↔ Rn d m_X1_addClaim 77 [vR o, l1] (vR o :: st) σ Q := q5 (show fnd (pgm m_X1_addClaim) 76 = some (77, 5, 0, 0, 0, []) from rfl) rfl ho
set_option maxRecDepth 100000 in
theorem s_X1_addClaim_77 {d : Nat} {l0 l1 : AV} {st : List AV} {a : Int} {σ : Sg} {Q : AV → Sg → Prop} : Rn d m_X1_addClaim 77 [l0, l1] (vI a :: st) σ Q ↔ Rn d m_X1_addClaim 78 [l0, l1] (vI a :: vI a :: st) σ Q := q17i (show fnd (pgm m_X1_addClaim) 77 = some (78, 17, 0, 0, 0, []) from rfl)
set_option maxRecDepth 100000 in
theorem s_X1_addClaim_77r {d : Nat} {l0 l1 : AV} {st : List AV} {o : Nat} {σ : Sg} {Q : AV → Sg → Prop} : Rn d m_X1_addClaim 77 [l0, l1] (vR o :: st) σ Q ↔ Rn d m_X1_addClaim 78 [l0, l1] (vR o :: vR o :: st) σ Q := q17r (show fnd (pgm m_X1_addClaim) 77 = some (78, 17, 0, 0, 0, []) from rfl)
set_option maxRecDepth 100000 in
theorem s_X1_addClaim_78 {d : Nat} {l0 l1 : AV} {st : List AV} {o : Nat} {σ : Sg} {Q : AV → Sg → Prop} (hk : kn σ o = (0, 1)) : Rn d m_X1_addClaim 78 [l0, l1] (vR o :: st) σ Q ↔ Rn d m_X1_addClaim 81 [l0, l1] (vI (σ o 0) :: st) σ Q := q33 (show fnd (pgm m_X1_addClaim) 78 = some (81, 33, 9, 1, 0, []) from rfl) hk
set_option maxRecDepth 100000 in
theorem s_X1_addClaim_81 {d : Nat} {l0 l1 : AV} {st : List AV} {σ : Sg} {Q : AV → Sg → Prop}  : Rn d m_X1_addClaim 81 [l0, l1] st σ Q ↔ Rn d m_X1_addClaim 82 [l0, l1] (vI 1 :: st) σ Q := q0 (show fnd (pgm m_X1_addClaim) 81 = some (82, 0, 1, 0, 0, []) from rfl)
set_option maxRecDepth 100000 in
theorem s_X1_addClaim_82 {d : Nat} {l0 l1 : AV} {st : List AV} {a b : Int} {σ : Sg} {Q : AV → Sg → Prop}  : Rn d m_X1_addClaim 82 [l0, l1] (vI b :: vI a :: st) σ Q ↔ Rn d m_X1_addClaim 83 [l0, l1] (vI (a + b) :: st) σ Q := q10_0 (show fnd (pgm m_X1_addClaim) 82 = some (83, 10, 0, 0, 0, []) from rfl)
set_option maxRecDepth 100000 in
theorem s_X1_addClaim_83 {d : Nat} {l0 l1 : AV} {st : List AV} {o : Nat} {x : Int} {σ : Sg} {Q : AV → Sg → Prop} (hk : kn σ o = (0, 1)) : Rn d m_X1_addClaim 83 [l0, l1] (vI x :: vR o :: st) σ Q ↔ Rn d m_X1_addClaim 86 [l0, l1] st (up σ o 0 x) Q := q34i (show fnd (pgm m_X1_addClaim) 83 = some (86, 34, 9, 1, 0, []) from rfl) hk rfl
set_option maxRecDepth 100000 in
theorem s_X1_addClaim_86 {d : Nat} {l0 l1 : AV} {σ : Sg} {Q : AV → Sg → Prop}  : Rn d m_X1_addClaim 86 [l0, l1] [] σ Q ↔ Q none σ := q37_0 (st := []) (show fnd (pgm m_X1_addClaim) 86 = some (87, 37, 0, 0, 0, []) from rfl)
set_option maxRecDepth 100000 in
theorem en_X1_giveBack {d : Nat} {o : Nat} {a0 : Int} {a1 : Int} {a2 : Int} {σ σ0 : Sg} {r0 : AV} (h : Rn d m_X1_giveBack 0 [vR o, vI a0, vI a1, vI a2] [] σ (fun r σ1 => r = r0 ∧ σ1 = σ0)) : Ev (d + 1) m_X1_giveBack [vR o, vI a0, vI a1, vI a2] σ r0 σ0 := Ev_is (Nat.le_of_ble_eq_true rfl) h
set_option maxRecDepth 100000 in
theorem eo_X1_giveBack {d : Nat} {o : Nat} {a0 : Int} {a1 : Int} {a2 : Int} {σ : Sg} {Q : AV → Sg → Prop} (h : Rn d m_X1_giveBack 0 [vR o, vI a0, vI a1, vI a2] [] σ Q) : ∃ r σ1, Ev (d + 1) m_X1_giveBack [vR o, vI a0, vI a1, vI a2] σ r σ1 ∧ Q r σ1 := Ev_of (Nat.le_of_ble_eq_true rfl) h
set_option maxRecDepth 100000 in
theorem s_X1_giveBack_0 {d : Nat} {l1 l2 l3 : AV} {st : List AV} {o : Nat} {σ : Sg} {Q : AV → Sg → Prop} (ho : o ≠ 0) : Rn d m_X1_giveBack 0 [vR o, l1, l2, l3] st σ Q ↔ Rn d m_X1_giveBack 1 [vR o, l1, l2, l3] (vR o :: st) σ Q := q5 (show fnd (pgm m_X1_giveBack) 0 = some (1, 5, 0, 0, 0, []) from rfl) rfl ho
set_option maxRecDepth 100000 in
theorem s_X1_giveBack_1 {d : Nat} {l0 l1 l2 l3 : AV} {st : List AV} {o : Nat} {σ : Sg} {Q : AV → Sg → Prop} (hk : kn σ o = (0, 1)) : Rn d m_X1_giveBack 1 [l0, l1, l2, l3] (vR o :: st) σ Q ↔ Rn d m_X1_giveBack 4 [l0, l1, l2, l3] (vR (tp o 7) :: st) σ Q := q33 (show fnd (pgm m_X1_giveBack) 1 = some (4, 33, 34, 1, 7, []) from rfl) hk
set_option maxRecDepth 100000 in
theorem s_X1_giveBack_4 {d : Nat} {l0 l1 l2 l3 : AV} {st : List AV} {σ : Sg} {Q : AV → Sg → Prop}  : Rn d m_X1_giveBack 4 [l0, l1, l2, l3] st σ Q ↔ Rn d m_X1_giveBack 6 [l0, l1, l2, l3] (vI 6 :: st) σ Q := q0 (show fnd (pgm m_X1_giveBack) 4 = some (6, 0, 6, 1, 0, []) from rfl)
set_option maxRecDepth 100000 in
theorem s_X1_giveBack_6 {d : Nat} {l0 l2 l3 : AV} {st : List AV} {x : Int} {σ : Sg} {Q : AV → Sg → Prop}  : Rn d m_X1_giveBack 6 [l0, vI x, l2, l3] st σ Q ↔ Rn d m_X1_giveBack 7 [l0, vI x, l2, l3] (vI x :: st) σ Q := q3 (show fnd (pgm m_X1_giveBack) 6 = some (7, 3, 0, 1, 0, []) from rfl) rfl
set_option maxRecDepth 100000 in
theorem s_X1_giveBack_7 {d : Nat} {l0 l1 l2 l3 : AV} {st : List AV} {a b : Int} {σ : Sg} {Q : AV → Sg → Prop}  : Rn d m_X1_giveBack 7 [l0, l1, l2, l3] (vI b :: vI a :: st) σ Q ↔ Rn d m_X1_giveBack 8 [l0, l1, l2, l3] (vI (a * b) :: st) σ Q := q10_2 (show fnd (pgm m_X1_giveBack) 7 = some (8, 10, 0, 2, 0, []) from rfl)
set_option maxRecDepth 100000 in
theorem s_X1_giveBack_8 {d : Nat} {l0 l1 l3 : AV} {st : List AV} {x : Int} {σ : Sg} {Q : AV → Sg → Prop}  : Rn d m_X1_giveBack 8 [l0, l1, vI x, l3] st σ Q ↔ Rn d m_X1_giveBack 9 [l0, l1, vI x, l3] (vI x :: st) σ Q := q3 (show fnd (pgm m_X1_giveBack) 8 = some (9, 3, 0, 2, 0, []) from rfl) rfl
set_option maxRecDepth 100000 in
theorem s_X1_giveBack_9 {d : Nat} {l0 l1 l2 l3 : AV} {st : List AV} {a b : Int} {σ : Sg} {Q : AV → Sg → Prop}  : Rn d m_X1_giveBack 9 [l0, l1, l2, l3] (vI b :: vI a :: st) σ Q ↔ Rn d m_X1_giveBack 10 [l0, l1, l2, l3] (vI (a + b) :: st) σ Q := q10_0 (show fnd (pgm m_X1_giveBack) 9 = some (10, 10, 0, 0, 0, []) from rfl)
set_option maxRecDepth 100000 in
theorem s_X1_giveBack_10 {d : Nat} {l0 l1 l2 l3 : AV} {st : List AV} {a : Int} {o : Nat} {σ : Sg} {Q : AV → Sg → Prop}  : Rn d m_X1_giveBack 10 [l0, l1, l2, l3] (vI a :: vR o :: st) σ Q ↔ Rn d m_X1_giveBack 11 [l0, l1, l2, l3] (vI a :: vR o :: vI a :: vR o :: st) σ Q := q18 (show fnd (pgm m_X1_giveBack) 10 = some (11, 18, 0, 0, 0, []) from rfl)
set_option maxRecDepth 100000 in
theorem s_X1_giveBack_11 {d : Nat} {l0 l1 l2 l3 : AV} {st : List AV} {i : Int} {o : Nat} {σ : Sg} {Q : AV → Sg → Prop} (hi : 0 ≤ w32 i ∧ w32 i < al σ 1 o) : Rn d m_X1_giveBack 11 [l0, l1, l2, l3] (vI i :: vR o :: st) σ Q ↔ Rn d m_X1_giveBack 12 [l0, l1, l2, l3] (vI (σ o (w32 i)) :: st) σ Q := q25 (show fnd (pgm m_X1_giveBack) 11 = some (12, 25, 0, 0, 0, []) from rfl) hi
set_option maxRecDepth 100000 in
theorem s_X1_giveBack_12 {d : Nat} {l0 l1 l2 : AV} {st : List AV} {x : Int} {σ : Sg} {Q : AV → Sg → Prop}  : Rn d m_X1_giveBack 12 [l0, l1, l2, vI x] st σ Q ↔ Rn d m_X1_giveBack 13 [l0, l1, l2, vI x] (vI x :: st) σ Q := q3 (show fnd (pgm m_X1_giveBack) 12 = some (13, 3, 0, 3, 0, []) from rfl) rfl
set_option maxRecDepth 100000 in
theorem s_X1_giveBack_13 {d : Nat} {l0 l1 l2 l3 : AV} {st : List AV} {a b : Int} {σ : Sg} {Q : AV → Sg → Prop}  : Rn d m_X1_giveBack 13 [l0, l1, l2, l3] (vI b :: vI a :: st) σ Q ↔ Rn d m_X1_giveBack 14 [l0, l1, l2, l3] (vI (a + b) :: st) σ Q := q10_0 (show fnd (pgm m_X1_giveBack) 13 = some (14, 10, 0, 0, 0, []) from rfl)
set_option maxRecDepth 100000 in
theorem s_X1_giveBack_14 {d : Nat} {l0 l1 l2 l3 : AV} {st : List AV} {i x : Int} {o : Nat} {σ : Sg} {Q : AV → Sg → Prop} (hi : 0 ≤ w32 i ∧ w32 i < al σ 1 o) : Rn d m_X1_giveBack 14 [l0, l1, l2, l3] (vI x :: vI i :: vR o :: st) σ Q ↔ Rn d m_X1_giveBack 15 [l0, l1, l2, l3] st (up σ o (w32 i) x) Q := q29 (show fnd (pgm m_X1_giveBack) 14 = some (15, 29, 0, 0, 0, []) from rfl) hi
set_option maxRecDepth 100000 in
theorem s_X1_giveBack_15 {d : Nat} {l0 l1 l2 l3 : AV} {σ : Sg} {Q : AV → Sg → Prop}  : Rn d m_X1_giveBack 15 [l0, l1, l2, l3] [] σ Q ↔ Q none σ := q37_0 (st := []) (show fnd (pgm m_X1_giveBack) 15 = some (16, 37, 0, 0, 0, []) from rfl)
set_option maxRecDepth 100000 in
theorem en_X1_judge {d : Nat} {o : Nat} {a0 : Int} {a1 : Int} {a2 : Nat} {σ σ0 : Sg} {r0 : AV} (h : Rn d m_X1_judge 0 [vR o, vI a0, vI a1, vR a2, none, none, none] [] σ (fun r σ1 => r = r0 ∧ σ1 = σ0)) : Ev (d + 1) m_X1_judge [vR o, vI a0, vI a1, vR a2] σ r0 σ0 := Ev_is (Nat.le_of_ble_eq_true rfl) h
set_option maxRecDepth 100000 in
theorem eo_X1_judge {d : Nat} {o : Nat} {a0 : Int} {a1 : Int} {a2 : Nat} {σ : Sg} {Q : AV → Sg → Prop} (h : Rn d m_X1_judge 0 [vR o, vI a0, vI a1, vR a2, none, none, none] [] σ Q) : ∃ r σ1, Ev (d + 1) m_X1_judge [vR o, vI a0, vI a1, vR a2] σ r σ1 ∧ Q r σ1 := Ev_of (Nat.le_of_ble_eq_true rfl) h
set_option maxRecDepth 100000 in
theorem s_X1_judge_0 {d : Nat} {l1 l2 l3 l4 l5 l6 : AV} {st : List AV} {o : Nat} {σ : Sg} {Q : AV → Sg → Prop} (ho : o ≠ 0) : Rn d m_X1_judge 0 [vR o, l1, l2, l3, l4, l5, l6] st σ Q ↔ Rn d m_X1_judge 1 [vR o, l1, l2, l3, l4, l5, l6] (vR o :: st) σ Q := q5 (show fnd (pgm m_X1_judge) 0 = some (1, 5, 0, 0, 0, []) from rfl) rfl ho
set_option maxRecDepth 100000 in
theorem s_X1_judge_1 {d : Nat} {l0 l1 l2 l3 l4 l5 l6 : AV} {st : List AV} {σ : Sg} {Q : AV → Sg → Prop}  : Rn d m_X1_judge 1 [l0, l1, l2, l3, l4, l5, l6] st σ Q ↔ Rn d m_X1_judge 2 [l0, l1, l2, l3, l4, l5, l6] (vI 0 :: st) σ Q := q0 (show fnd (pgm m_X1_judge) 1 = some (2, 0, 0, 0, 0, []) from rfl)
set_option maxRecDepth 100000 in
theorem s_X1_judge_2 {d : Nat} {l0 l1 l2 l3 l4 l5 l6 : AV} {st : List AV} {o : Nat} {x : Int} {σ : Sg} {Q : AV → Sg → Prop} (hk : kn σ o = (0, 1)) : Rn d m_X1_judge 2 [l0, l1, l2, l3, l4, l5, l6] (vI x :: vR o :: st) σ Q ↔ Rn d m_X1_judge 5 [l0, l1, l2, l3, l4, l5, l6] st (up σ o 1 x) Q := q34i (show fnd (pgm m_X1_judge) 2 = some (5, 34, 15, 1, 1, []) from rfl) hk rfl
set_option maxRecDepth 100000 in
theorem s_X1_judge_5 {d : Nat} {l0 l1 l2 l3 l4 l5 l6 : AV} {st : List AV} {σ : Sg} {Q : AV → Sg → Prop}  : Rn d m_X1_judge 5 [l0, l1, l2, l3, l4, l5, l6] st σ Q ↔ Rn d m_X1_judge 6 [l0, l1, l2, l3, l4, l5, l6] (vI 0 :: st) σ Q := q0 (show fnd (pgm m_X1_judge) 5 = some (6, 0, 0, 0, 0, []) from rfl)
set_option maxRecDepth 100000 in
theorem s_X1_judge_6 {d : Nat} {l0 l1 l2 l3 l4 l5 l6 : AV} {st : List AV} {x : Int} {σ : Sg} {Q : AV → Sg → Prop}  : Rn d m_X1_judge 6 [l0, l1, l2, l3, l4, l5, l6] (vI x :: st) σ Q ↔ Rn d m_X1_judge 8 [l0, l1, l2, l3, vI x, l5, l6] st σ Q := q6 (show fnd (pgm m_X1_judge) 6 = some (8, 6, 0, 4, 1, []) from rfl) (by decide : 4 < 7)
set_option maxRecDepth 100000 in
theorem s_X1_judge_8 {d : Nat} {l0 l1 l2 l3 l5 l6 : AV} {st : List AV} {x : Int} {σ : Sg} {Q : AV → Sg → Prop}  : Rn d m_X1_judge 8 [l0, l1, l2, l3, vI x, l5, l6] st σ Q ↔ Rn d m_X1_judge 10 [l0, l1, l2, l3, vI x, l5, l6] (vI x :: st) σ Q := q3 (show fnd (pgm m_X1_judge) 8 = some (10, 3, 0, 4, 1, []) from rfl) rfl
set_option maxRecDepth 100000 in
theorem s_X1_judge_10 {d : Nat} {l0 l1 l2 l3 l4 l5 l6 : AV} {st : List AV} {σ : Sg} {Q : AV → Sg → Prop}  : Rn d m_X1_judge 10 [l0, l1, l2, l3, l4, l5, l6] st σ Q ↔ Rn d m_X1_judge 12 [l0, l1, l2, l3, l4, l5, l6] (vI 36 :: st) σ Q := q0 (show fnd (pgm m_X1_judge) 10 = some (12, 0, 36, 1, 0, []) from rfl)
set_option maxRecDepth 100000 in
theorem s_X1_judge_12 {d : Nat} {l0 l1 l2 l3 l4 l5 l6 : AV} {st : List AV} {a b : Int} {σ : Sg} {Q : AV → Sg → Prop}  : Rn d m_X1_judge 12 [l0, l1, l2, l3, l4, l5, l6] (vI b :: vI a :: st) σ Q ↔ if w32 b ≤ w32 a then Rn d m_X1_judge 36 [l0, l1, l2, l3, l4, l5, l6] st σ Q else Rn d m_X1_judge 15 [l0, l1, l2, l3, l4, l5, l6] st σ Q := q20_3 (show fnd (pgm m_X1_judge) 12 = some (15, 20, 0, 3, 36, []) from rfl)
set_option maxRecDepth 100000 in
theorem s_X1_judge_15 {d : Nat} {l1 l2 l3 l4 l5 l6 : AV} {st : List AV} {o : Nat} {σ : Sg} {Q : AV → Sg → Prop} (ho : o ≠ 0) : Rn d m_X1_judge 15 [vR o, l1, l2, l3, l4, l5, l6] st σ Q ↔ Rn d m_X1_judge 16 [vR o, l1, l2, l3, l4, l5, l6] (vR o :: st) σ Q := q5 (show fnd (pgm m_X1_judge) 15 = some (16, 5, 0, 0, 0, []) from rfl) rfl ho
set_option maxRecDepth 100000 in
theorem s_X1_judge_16 {d : Nat} {l0 l1 l2 l3 l4 l5 l6 : AV} {st : List AV} {o : Nat} {σ : Sg} {Q : AV → Sg → Prop} (hk : kn σ o = (0, 1)) : Rn d m_X1_judge 16 [l0, l1, l2, l3, l4, l5, l6] (vR o :: st) σ Q ↔ Rn d m_X1_judge 19 [l0, l1, l2, l3, l4, l5, l6] (vR (tp o 8) :: st) σ Q := q33 (show fnd (pgm m_X1_judge) 16 = some (19, 33, 37, 1, 8, []) from rfl) hk
set_option maxRecDepth 100000 in
theorem s_X1_judge_19 {d : Nat} {l0 l1 l2 l3 l5 l6 : AV} {st : List AV} {x : Int} {σ : Sg} {Q : AV → Sg → Prop}  : Rn d m_X1_judge 19 [l0, l1, l2, l3, vI x, l5, l6] st σ Q ↔ Rn d m_X1_judge 21 [l0, l1, l2, l3, vI x, l5, l6] (vI x :: st) σ Q := q3 (show fnd (pgm m_X1_judge) 19 = some (21, 3, 0, 4, 1, []) from rfl) rfl
set_option maxRecDepth 100000 in
theorem s_X1_judge_21 {d : Nat} {l1 l2 l3 l4 l5 l6 : AV} {st : List AV} {o : Nat} {σ : Sg} {Q : AV → Sg → Prop} (ho : o ≠ 0) : Rn d m_X1_judge 21 [vR o, l1, l2, l3, l4, l5, l6] st σ Q ↔ Rn d m_X1_judge 22 [vR o, l1, l2, l3, l4, l5, l6] (vR o :: st) σ Q := q5 (show fnd (pgm m_X1_judge) 21 = some (22, 5, 0, 0, 0, []) from rfl) rfl ho
set_option maxRecDepth 100000 in
theorem s_X1_judge_22 {d : Nat} {l0 l1 l2 l3 l4 l5 l6 : AV} {st : List AV} {o : Nat} {σ : Sg} {Q : AV → Sg → Prop} (hk : kn σ o = (0, 1)) : Rn d m_X1_judge 22 [l0, l1, l2, l3, l4, l5, l6] (vR o :: st) σ Q ↔ Rn d m_X1_judge 25 [l0, l1, l2, l3, l4, l5, l6] (vR (tp o 7) :: st) σ Q := q33 (show fnd (pgm m_X1_judge) 22 = some (25, 33, 34, 1, 7, []) from rfl) hk
set_option maxRecDepth 100000 in
theorem s_X1_judge_25 {d : Nat} {l0 l1 l2 l3 l5 l6 : AV} {st : List AV} {x : Int} {σ : Sg} {Q : AV → Sg → Prop}  : Rn d m_X1_judge 25 [l0, l1, l2, l3, vI x, l5, l6] st σ Q ↔ Rn d m_X1_judge 27 [l0, l1, l2, l3, vI x, l5, l6] (vI x :: st) σ Q := q3 (show fnd (pgm m_X1_judge) 25 = some (27, 3, 0, 4, 1, []) from rfl) rfl
set_option maxRecDepth 100000 in
theorem s_X1_judge_27 {d : Nat} {l0 l1 l2 l3 l4 l5 l6 : AV} {st : List AV} {i : Int} {o : Nat} {σ : Sg} {Q : AV → Sg → Prop} (hi : 0 ≤ w32 i ∧ w32 i < al σ 1 o) : Rn d m_X1_judge 27 [l0, l1, l2, l3, l4, l5, l6] (vI i :: vR o :: st) σ Q ↔ Rn d m_X1_judge 28 [l0, l1, l2, l3, l4, l5, l6] (vI (σ o (w32 i)) :: st) σ Q := q25 (show fnd (pgm m_X1_judge) 27 = some (28, 25, 0, 0, 0, []) from rfl) hi
set_option maxRecDepth 100000 in
theorem s_X1_judge_28 {d : Nat} {l0 l1 l2 l3 l4 l5 l6 : AV} {st : List AV} {a : Int} {σ : Sg} {Q : AV → Sg → Prop}  : Rn d m_X1_judge 28 [l0, l1, l2, l3, l4, l5, l6] (vI a :: st) σ Q ↔ Rn d m_X1_judge 29 [l0, l1, l2, l3, l4, l5, l6] (vI (-a) :: st) σ Q := q13 (show fnd (pgm m_X1_judge) 28 = some (29, 13, 0, 0, 0, []) from rfl)
set_option maxRecDepth 100000 in
theorem s_X1_judge_29 {d : Nat} {l0 l1 l2 l3 l4 l5 l6 : AV} {st : List AV} {i x : Int} {o : Nat} {σ : Sg} {Q : AV → Sg → Prop} (hi : 0 ≤ w32 i ∧ w32 i < al σ 1 o) : Rn d m_X1_judge 29 [l0, l1, l2, l3, l4, l5, l6] (vI x :: vI i :: vR o :: st) σ Q ↔ Rn d m_X1_judge 30 [l0, l1, l2, l3, l4, l5, l6] st (up σ o (w32 i) x) Q := q29 (show fnd (pgm m_X1_judge) 29 = some (30, 29, 0, 0, 0, []) from rfl) hi
set_option maxRecDepth 100000 in
theorem s_X1_judge_30 {d : Nat} {l0 l1 l2 l3 l5 l6 : AV} {st : List AV} {x : Int} {σ : Sg} {Q : AV → Sg → Prop}  : Rn d m_X1_judge 30 [l0, l1, l2, l3, vI x, l5, l6] st σ Q ↔ Rn d m_X1_judge 33 [l0, l1, l2, l3, vI (x + 1), l5, l6] st σ Q := q9 (show fnd (pgm m_X1_judge) 30 = some (33, 9, 1, 4, 0, []) from rfl) rfl
set_option maxRecDepth 100000 in
theorem s_X1_judge_33 {d : Nat} {l0 l1 l2 l3 l4 l5 l6 : AV} {st : List AV} {σ : Sg} {Q : AV → Sg → Prop}  : Rn d m_X1_judge 33 [l0, l1, l2, l3, l4, l5, l6] st σ Q ↔ Rn d m_X1_judge 8 [l0, l1, l2, l3, l4, l5, l6] st σ Q := q21 (show fnd (pgm m_X1_judge) 33 = some (36, 21, 0, 0, 8, []) from rfl)
set_option maxRecDepth 100000 in
theorem s_X1_judge_36 {d : Nat} {l0 l1 l2 l3 l4 l5 l6 : AV} {st : List AV} {σ : Sg} {Q : AV → Sg → Prop}  : Rn d m_X1_judge 36 [l0, l1, l2, l3, l4, l5, l6] st σ Q ↔ Rn d m_X1_judge 37 [l0, l1, l2, l3, l4, l5, l6] (vI 0 :: st) σ Q := q0 (show fnd (pgm m_X1_judge) 36 = some (37, 0, 0, 0, 0, []) from rfl)
set_option maxRecDepth 100000 in
theorem s_X1_judge_37 {d : Nat} {l0 l1 l2 l3 l4 l5 l6 : AV} {st : List AV} {x : Int} {σ : Sg} {Q : AV → Sg → Prop}  : Rn d m_X1_judge 37 [l0, l1, l2, l3, l4, l5, l6] (vI x :: st) σ Q ↔ Rn d m_X1_judge 39 [l0, l1, l2, l3, vI x, l5, l6] st σ Q := q6 (show fnd (pgm m_X1_judge) 37 = some (39, 6, 0, 4, 1, []) from rfl) (by decide : 4 < 7)
set_option maxRecDepth 100000 in
theorem s_X1_judge_39 {d : Nat} {l0 l1 l2 l3 l5 l6 : AV} {st : List AV} {x : Int} {σ : Sg} {Q : AV → Sg → Prop}  : Rn d m_X1_judge 39 [l0, l1, l2, l3, vI x, l5, l6] st σ Q ↔ Rn d m_X1_judge 41 [l0, l1, l2, l3, vI x, l5, l6] (vI x :: st) σ Q := q3 (show fnd (pgm m_X1_judge) 39 = some (41, 3, 0, 4, 1, []) from rfl) rfl
set_option maxRecDepth 100000 in
theorem s_X1_judge_41 {d : Nat} {l1 l2 l3 l4 l5 l6 : AV} {st : List AV} {o : Nat} {σ : Sg} {Q : AV → Sg → Prop} (ho : o ≠ 0) : Rn d m_X1_judge 41 [vR o, l1, l2, l3, l4, l5, l6] st σ Q ↔ Rn d m_X1_judge 42 [vR o, l1, l2, l3, l4, l5, l6] (vR o :: st) σ Q := q5 (show fnd (pgm m_X1_judge) 41 = some (42, 5, 0, 0, 0, []) from rfl) rfl ho
set_option maxRecDepth 100000 in
theorem s_X1_judge_42 {d : Nat} {l0 l1 l2 l3 l4 l5 l6 : AV} {st : List AV} {o : Nat} {σ : Sg} {Q : AV → Sg → Prop} (hk : kn σ o = (0, 1)) : Rn d m_X1_judge 42 [l0, l1, l2, l3, l4, l5, l6] (vR o :: st) σ Q ↔ Rn d m_X1_judge 45 [l0, l1, l2, l3, l4, l5, l6] (vI (σ o 0) :: st) σ Q := q33 (show fnd (pgm m_X1_judge) 42 = some (45, 33, 9, 1, 0, []) from rfl) hk
set_option maxRecDepth 100000 in
theorem s_X1_judge_45 {d : Nat} {l0 l1 l2 l3 l4 l5 l6 : AV} {st : List AV} {a b : Int} {σ : Sg} {Q : AV → Sg → Prop}  : Rn d m_X1_judge 45 [l0, l1, l2, l3, l4, l5, l6] (vI b :: vI a :: st) σ Q ↔ if w32 b ≤ w32 a then Rn d m_X1_judge 146 [l0, l1, l2, l3, l4, l5, l6] st σ Q else Rn d m_X1_judge 48 [l0, l1, l2, l3, l4, l5, l6] st σ Q := q20_3 (show fnd (pgm m_X1_judge) 45 = some (48, 20, 0, 3, 146, []) from rfl)
set_option maxRecDepth 100000 in
theorem s_X1_judge_48 {d : Nat} {l1 l2 l3 l4 l5 l6 : AV} {st : List AV} {o : Nat} {σ : Sg} {Q : AV → Sg → Prop} (ho : o ≠ 0) : Rn d m_X1_judge 48 [vR o, l1, l2, l3, l4, l5, l6] st σ Q ↔ Rn d m_X1_judge 49 [vR o, l1, l2, l3, l4, l5, l6] (vR o :: st) σ Q := q5 (show fnd (pgm m_X1_judge) 48 = some (49, 5, 0, 0, 0, []) from rfl) rfl ho
set_option maxRecDepth 100000 in
theorem s_X1_judge_49 {d : Nat} {l0 l1 l2 l3 l4 l5 l6 : AV} {st : List AV} {o : Nat} {σ : Sg} {Q : AV → Sg → Prop} (hk : kn σ o = (0, 1)) : Rn d m_X1_judge 49 [l0, l1, l2, l3, l4, l5, l6] (vR o :: st) σ Q ↔ Rn d m_X1_judge 52 [l0, l1, l2, l3, l4, l5, l6] (vR (tp o 5) :: st) σ Q := q33 (show fnd (pgm m_X1_judge) 49 = some (52, 33, 28, 1, 5, []) from rfl) hk
set_option maxRecDepth 100000 in
theorem s_X1_judge_52 {d : Nat} {l0 l1 l2 l3 l5 l6 : AV} {st : List AV} {x : Int} {σ : Sg} {Q : AV → Sg → Prop}  : Rn d m_X1_judge 52 [l0, l1, l2, l3, vI x, l5, l6] st σ Q ↔ Rn d m_X1_judge 54 [l0, l1, l2, l3, vI x, l5, l6] (vI x :: st) σ Q := q3 (show fnd (pgm m_X1_judge) 52 = some (54, 3, 0, 4, 1, []) from rfl) rfl
set_option maxRecDepth 100000 in
theorem s_X1_judge_54 {d : Nat} {l0 l1 l2 l3 l4 l5 l6 : AV} {st : List AV} {i : Int} {o : Nat} {σ : Sg} {Q : AV → Sg → Prop} (hi : 0 ≤ w32 i ∧ w32 i < al σ 1 o) : Rn d m_X1_judge 54 [l0, l1, l2, l3, l4, l5, l6] (vI i :: vR o :: st) σ Q ↔ Rn d m_X1_judge 55 [l0, l1, l2, l3, l4, l5, l6] (vI (σ o (w32 i)) :: st) σ Q := q25 (show fnd (pgm m_X1_judge) 54 = some (55, 25, 0, 0, 0, []) from rfl) hi
set_option maxRecDepth 100000 in
theorem s_X1_judge_55 {d : Nat} {l0 l1 l2 l3 l4 l5 l6 : AV} {st : List AV} {x : Int} {σ : Sg} {Q : AV → Sg → Prop}  : Rn d m_X1_judge 55 [l0, l1, l2, l3, l4, l5, l6] (vI x :: st) σ Q ↔ Rn d m_X1_judge 57 [l0, l1, l2, l3, l4, vI x, l6] st σ Q := q6 (show fnd (pgm m_X1_judge) 55 = some (57, 6, 0, 5, 1, []) from rfl) (by decide : 5 < 7)
set_option maxRecDepth 100000 in
theorem s_X1_judge_57 {d : Nat} {l1 l2 l3 l4 l5 l6 : AV} {st : List AV} {o : Nat} {σ : Sg} {Q : AV → Sg → Prop} (ho : o ≠ 0) : Rn d m_X1_judge 57 [vR o, l1, l2, l3, l4, l5, l6] st σ Q ↔ Rn d m_X1_judge 58 [vR o, l1, l2, l3, l4, l5, l6] (vR o :: st) σ Q := q5 (show fnd (pgm m_X1_judge) 57 = some (58, 5, 0, 0, 0, []) from rfl) rfl ho
set_option maxRecDepth 100000 in
theorem s_X1_judge_58 {d : Nat} {l0 l1 l2 l3 l4 l5 l6 : AV} {st : List AV} {o : Nat} {σ : Sg} {Q : AV → Sg → Prop} (hk : kn σ o = (0, 1)) : Rn d m_X1_judge 58 [l0, l1, l2, l3, l4, l5, l6] (vR o :: st) σ Q ↔ Rn d m_X1_judge 61 [l0, l1, l2, l3, l4, l5, l6] (vR (tp o 4) :: st) σ Q := q33 (show fnd (pgm m_X1_judge) 58 = some (61, 33, 25, 1, 4, []) from rfl) hk
set_option maxRecDepth 100000 in
theorem s_X1_judge_61 {d : Nat} {l0 l1 l2 l3 l5 l6 : AV} {st : List AV} {x : Int} {σ : Sg} {Q : AV → Sg → Prop}  : Rn d m_X1_judge 61 [l0, l1, l2, l3, vI x, l5, l6] st σ Q ↔ Rn d m_X1_judge 63 [l0, l1, l2, l3, vI x, l5, l6] (vI x :: st) σ Q := q3 (show fnd (pgm m_X1_judge) 61 = some (63, 3, 0, 4, 1, []) from rfl) rfl
set_option maxRecDepth 100000 in
theorem s_X1_judge_63 {d : Nat} {l0 l1 l2 l3 l4 l5 l6 : AV} {st : List AV} {i : Int} {o : Nat} {σ : Sg} {Q : AV → Sg → Prop} (hi : 0 ≤ w32 i ∧ w32 i < al σ 1 o) : Rn d m_X1_judge 63 [l0, l1, l2, l3, l4, l5, l6] (vI i :: vR o :: st) σ Q ↔ Rn d m_X1_judge 64 [l0, l1, l2, l3, l4, l5, l6] (vI (σ o (w32 i)) :: st) σ Q := q25 (show fnd (pgm m_X1_judge) 63 = some (64, 25, 0, 0, 0, []) from rfl) hi
set_option maxRecDepth 100000 in
theorem s_X1_judge_64 {d : Nat} {l0 l1 l2 l3 l4 l5 l6 : AV} {st : List AV} {x : Int} {σ : Sg} {Q : AV → Sg → Prop}  : Rn d m_X1_judge 64 [l0, l1, l2, l3, l4, l5, l6] (vI x :: st) σ Q ↔ Rn d m_X1_judge 66 [l0, l1, l2, l3, l4, l5, vI x] st σ Q := q6 (show fnd (pgm m_X1_judge) 64 = some (66, 6, 0, 6, 1, []) from rfl) (by decide : 6 < 7)
set_option maxRecDepth 100000 in
theorem s_X1_judge_66 {d : Nat} {l0 l1 l2 l3 l4 l5 : AV} {st : List AV} {x : Int} {σ : Sg} {Q : AV → Sg → Prop}  : Rn d m_X1_judge 66 [l0, l1, l2, l3, l4, l5, vI x] st σ Q ↔ Rn d m_X1_judge 68 [l0, l1, l2, l3, l4, l5, vI x] (vI x :: st) σ Q := q3 (show fnd (pgm m_X1_judge) 66 = some (68, 3, 0, 6, 1, []) from rfl) rfl
set_option maxRecDepth 100000 in
theorem s_X1_judge_68 {d : Nat} {l0 l2 l3 l4 l5 l6 : AV} {st : List AV} {x : Int} {σ : Sg} {Q : AV → Sg → Prop}  : Rn d m_X1_judge 68 [l0, vI x, l2, l3, l4, l5, l6] st σ Q ↔ Rn d m_X1_judge 69 [l0, vI x, l2, l3, l4, l5, l6] (vI x :: st) σ Q := q3 (show fnd (pgm m_X1_judge) 68 = some (69, 3, 0, 1, 0, []) from rfl) rfl
set_option maxRecDepth 100000 in
theorem s_X1_judge_69 {d : Nat} {l0 l1 l2 l3 l4 l5 l6 : AV} {st : List AV} {a b : Int} {σ : Sg} {Q : AV → Sg → Prop}  : Rn d m_X1_judge 69 [l0, l1, l2, l3, l4, l5, l6] (vI b :: vI a :: st) σ Q ↔ if w32 b < w32 a then Rn d m_X1_judge 107 [l0, l1, l2, l3, l4, l5, l6] st σ Q else Rn d m_X1_judge 72 [l0, l1, l2, l3, l4, l5, l6] st σ Q := q20_4 (show fnd (pgm m_X1_judge) 69 = some (72, 20, 0, 4, 107, []) from rfl)
set_option maxRecDepth 100000 in
theorem s_X1_judge_72 {d : Nat} {l0 l1 l3 l4 l5 l6 : AV} {st : List AV} {x : Int} {σ : Sg} {Q : AV → Sg → Prop}  : Rn d m_X1_judge 72 [l0, l1, vI x, l3, l4, l5, l6] st σ Q ↔ Rn d m_X1_judge 73 [l0, l1, vI x, l3, l4, l5, l6] (vI x :: st) σ Q := q3 (show fnd (pgm m_X1_judge) 72 = some (73, 3, 0, 2, 0, []) from rfl) rfl
set_option maxRecDepth 100000 in
theorem s_X1_judge_73 {d : Nat} {l0 l1 l2 l3 l4 l6 : AV} {st : List AV} {x : Int} {σ : Sg} {Q : AV → Sg → Prop}  : Rn d m_X1_judge 73 [l0, l1, l2, l3, l4, vI x, l6] st σ Q ↔ Rn d m_X1_judge 75 [l0, l1, l2, l3, l4, vI x, l6] (vI x :: st) σ Q := q3 (show fnd (pgm m_X1_judge) 73 = some (75, 3, 0, 5, 1, []) from rfl) rfl
set_option maxRecDepth 100000 in
theorem s_X1_judge_75 {d : Nat} {l0 l1 l2 l3 l4 l5 l6 : AV} {st : List AV} {a b : Int} {σ : Sg} {Q : AV → Sg → Prop}  : Rn d m_X1_judge 75 [l0, l1, l2, l3, l4, l5, l6] (vI b :: vI a :: st) σ Q ↔ Rn d m_X1_judge 76 [l0, l1, l2, l3, l4, l5, l6] (vI (shr32 a b) :: st) σ Q := q10_9 (show fnd (pgm m_X1_judge) 75 = some (76, 10, 0, 9, 0, []) from rfl)
set_option maxRecDepth 100000 in
theorem s_X1_judge_76 {d : Nat} {l0 l1 l2 l3 l4 l5 l6 : AV} {st : List AV} {σ : Sg} {Q : AV → Sg → Prop}  : Rn d m_X1_judge 76 [l0, l1, l2, l3, l4, l5, l6] st σ Q ↔ Rn d m_X1_judge 77 [l0, l1, l2, l3, l4, l5, l6] (vI 1 :: st) σ Q := q0 (show fnd (pgm m_X1_judge) 76 = some (77, 0, 1, 0, 0, []) from rfl)
set_option maxRecDepth 100000 in
theorem s_X1_judge_77 {d : Nat} {l0 l1 l2 l3 l4 l5 l6 : AV} {st : List AV} {a b : Int} {σ : Sg} {Q : AV → Sg → Prop}  : Rn d m_X1_judge 77 [l0, l1, l2, l3, l4, l5, l6] (vI b :: vI a :: st) σ Q ↔ Rn d m_X1_judge 78 [l0, l1, l2, l3, l4, l5, l6] (vI (and32 a b) :: st) σ Q := q10_5 (show fnd (pgm m_X1_judge) 77 = some (78, 10, 0, 5, 0, []) from rfl)
set_option maxRecDepth 100000 in
theorem s_X1_judge_78 {d : Nat} {l0 l1 l2 l3 l4 l5 l6 : AV} {st : List AV} {σ : Sg} {Q : AV → Sg → Prop}  : Rn d m_X1_judge 78 [l0, l1, l2, l3, l4, l5, l6] st σ Q ↔ Rn d m_X1_judge 79 [l0, l1, l2, l3, l4, l5, l6] (vI 1 :: st) σ Q := q0 (show fnd (pgm m_X1_judge) 78 = some (79, 0, 1, 0, 0, []) from rfl)
set_option maxRecDepth 100000 in
theorem s_X1_judge_79 {d : Nat} {l0 l1 l2 l3 l4 l5 l6 : AV} {st : List AV} {a b : Int} {σ : Sg} {Q : AV → Sg → Prop}  : Rn d m_X1_judge 79 [l0, l1, l2, l3, l4, l5, l6] (vI b :: vI a :: st) σ Q ↔ if ¬ w32 a = w32 b then Rn d m_X1_judge 107 [l0, l1, l2, l3, l4, l5, l6] st σ Q else Rn d m_X1_judge 82 [l0, l1, l2, l3, l4, l5, l6] st σ Q := q20_1 (show fnd (pgm m_X1_judge) 79 = some (82, 20, 0, 1, 107, []) from rfl)
set_option maxRecDepth 100000 in
theorem s_X1_judge_82 {d : Nat} {l0 l1 l2 l4 l5 l6 : AV} {st : List AV} {o : Nat} {σ : Sg} {Q : AV → Sg → Prop} (ho : o ≠ 0) : Rn d m_X1_judge 82 [l0, l1, l2, vR o, l4, l5, l6] st σ Q ↔ Rn d m_X1_judge 83 [l0, l1, l2, vR o, l4, l5, l6] (vR o :: st) σ Q := q5 (show fnd (pgm m_X1_judge) 82 = some (83, 5, 0, 3, 0, []) from rfl) rfl ho
set_option maxRecDepth 100000 in
theorem s_X1_judge_83 {d : Nat} {l0 l1 l2 l3 l4 l5 : AV} {st : List AV} {x : Int} {σ : Sg} {Q : AV → Sg → Prop}  : Rn d m_X1_judge 83 [l0, l1, l2, l3, l4, l5, vI x] st σ Q ↔ Rn d m_X1_judge 85 [l0, l1, l2, l3, l4, l5, vI x] (vI x :: st) σ Q := q3 (show fnd (pgm m_X1_judge) 83 = some (85, 3, 0, 6, 1, []) from rfl) rfl
set_option maxRecDepth 100000 in
theorem s_X1_judge_85 {d : Nat} {l0 l1 l2 l3 l4 l5 l6 : AV} {st : List AV} {i : Int} {o : Nat} {σ : Sg} {Q : AV → Sg → Prop} (hi : 0 ≤ w32 i ∧ w32 i < al σ 1 o) : Rn d m_X1_judge 85 [l0, l1, l2, l3, l4, l5, l6] (vI i :: vR o :: st) σ Q ↔ Rn d m_X1_judge 86 [l0, l1, l2, l3, l4, l5, l6] (vI (σ o (w32 i)) :: st) σ Q := q25 (show fnd (pgm m_X1_judge) 85 = some (86, 25, 0, 0, 0, []) from rfl) hi
set_option maxRecDepth 100000 in
theorem s_X1_judge_86 {d : Nat} {l0 l1 l2 l3 l4 l6 : AV} {st : List AV} {x : Int} {σ : Sg} {Q : AV → Sg → Prop}  : Rn d m_X1_judge 86 [l0, l1, l2, l3, l4, vI x, l6] st σ Q ↔ Rn d m_X1_judge 88 [l0, l1, l2, l3, l4, vI x, l6] (vI x :: st) σ Q := q3 (show fnd (pgm m_X1_judge) 86 = some (88, 3, 0, 5, 1, []) from rfl) rfl
set_option maxRecDepth 100000 in
theorem s_X1_judge_88 {d : Nat} {l0 l1 l2 l3 l4 l5 l6 : AV} {st : List AV} {a b : Int} {σ : Sg} {Q : AV → Sg → Prop}  : Rn d m_X1_judge 88 [l0, l1, l2, l3, l4, l5, l6] (vI b :: vI a :: st) σ Q ↔ Rn d m_X1_judge 89 [l0, l1, l2, l3, l4, l5, l6] (vI (shr32 a b) :: st) σ Q := q10_9 (show fnd (pgm m_X1_judge) 88 = some (89, 10, 0, 9, 0, []) from rfl)
set_option maxRecDepth 100000 in
theorem s_X1_judge_89 {d : Nat} {l0 l1 l2 l3 l4 l5 l6 : AV} {st : List AV} {σ : Sg} {Q : AV → Sg → Prop}  : Rn d m_X1_judge 89 [l0, l1, l2, l3, l4, l5, l6] st σ Q ↔ Rn d m_X1_judge 90 [l0, l1, l2, l3, l4, l5, l6] (vI 1 :: st) σ Q := q0 (show fnd (pgm m_X1_judge) 89 = some (90, 0, 1, 0, 0, []) from rfl)
set_option maxRecDepth 100000 in
theorem s_X1_judge_90 {d : Nat} {l0 l1 l2 l3 l4 l5 l6 : AV} {st : List AV} {a b : Int} {σ : Sg} {Q : AV → Sg → Prop}  : Rn d m_X1_judge 90 [l0, l1, l2, l3, l4, l5, l6] (vI b :: vI a :: st) σ Q ↔ Rn d m_X1_judge 91 [l0, l1, l2, l3, l4, l5, l6] (vI (and32 a b) :: st) σ Q := q10_5 (show fnd (pgm m_X1_judge) 90 = some (91, 10, 0, 5, 0, []) from rfl)
set_option maxRecDepth 100000 in
theorem s_X1_judge_91 {d : Nat} {l0 l1 l2 l3 l4 l5 l6 : AV} {st : List AV} {a : Int} {σ : Sg} {Q : AV → Sg → Prop}  : Rn d m_X1_judge 91 [l0, l1, l2, l3, l4, l5, l6] (vI a :: st) σ Q ↔ if ¬ w32 a = 0 then Rn d m_X1_judge 107 [l0, l1, l2, l3, l4, l5, l6] st σ Q else Rn d m_X1_judge 94 [l0, l1, l2, l3, l4, l5, l6] st σ Q := q19_1 (show fnd (pgm m_X1_judge) 91 = some (94, 19, 0, 1, 107, []) from rfl)
set_option maxRecDepth 100000 in
theorem s_X1_judge_94 {d : Nat} {l1 l2 l3 l4 l5 l6 : AV} {st : List AV} {o : Nat} {σ : Sg} {Q : AV → Sg → Prop} (ho : o ≠ 0) : Rn d m_X1_judge 94 [vR o, l1, l2, l3, l4, l5, l6] st σ Q ↔ Rn d m_X1_judge 95 [vR o, l1, l2, l3, l4, l5, l6] (vR o :: st) σ Q := q5 (show fnd (pgm m_X1_judge) 94 = some (95, 5, 0, 0, 0, []) from rfl) rfl ho
set_option maxRecDepth 100000 in
theorem s_X1_judge_95 {d : Nat} {l0 l1 l2 l3 l4 l5 l6 : AV} {st : List AV} {a : Int} {σ : Sg} {Q : AV → Sg → Prop} : Rn d m_X1_judge 95 [l0, l1, l2, l3, l4, l5, l6] (vI a :: st) σ Q ↔ Rn d m_X1_judge 96 [l0, l1, l2, l3, l4, l5, l6] (vI a :: vI a :: st) σ Q := q17i (show fnd (pgm m_X1_judge) 95 = some (96, 17, 0, 0, 0, []) from rfl)
set_option maxRecDepth 100000 in
theorem s_X1_judge_95r {d : Nat} {l0 l1 l2 l3 l4 l5 l6 : AV} {st : List AV} {o : Nat} {σ : Sg} {Q : AV → Sg → Prop} : Rn d m_X1_judge 95 [l0, l1, l2, l3, l4, l5, l6] (vR o :: st) σ Q ↔ Rn d m_X1_judge 96 [l0, l1, l2, l3, l4, l5, l6] (vR o :: vR o :: st) σ Q := q17r (show fnd (pgm m_X1_judge) 95 = some (96, 17, 0, 0, 0, []) from rfl)
set_option maxRecDepth 100000 in
theorem s_X1_judge_96 {d : Nat} {l0 l1 l2 l3 l4 l5 l6 : AV} {st : List AV} {o : Nat} {σ : Sg} {Q : AV → Sg → Prop} (hk : kn σ o = (0, 1)) : Rn d m_X1_judge 96 [l0, l1, l2, l3, l4, l5, l6] (vR o :: st) σ Q ↔ Rn d m_X1_judge 99 [l0, l1, l2, l3, l4, l5, l6] (vI (σ o 1) :: st) σ Q := q33 (show fnd (pgm m_X1_judge) 96 = some (99, 33, 15, 1, 1, []) from rfl) hk
set_option maxRecDepth 100000 in
theorem s_X1_judge_99 {d : Nat} {l0 l1 l2 l3 l4 l5 l6 : AV} {st : List AV} {σ : Sg} {Q : AV → Sg → Prop}  : Rn d m_X1_judge 99 [l0, l1, l2, l3, l4, l5, l6] st σ Q ↔ Rn d m_X1_judge 100 [l0, l1, l2, l3, l4, l5, l6] (vI 1 :: st) σ Q := q0 (show fnd (pgm m_X1_judge) 99 = some (100, 0, 1, 0, 0, []) from rfl)
set_option maxRecDepth 100000 in
theorem s_X1_judge_100 {d : Nat} {l0 l1 l2 l3 l4 l5 l6 : AV} {st : List AV} {a b : Int} {σ : Sg} {Q : AV → Sg → Prop}  : Rn d m_X1_judge 100 [l0, l1, l2, l3, l4, l5, l6] (vI b :: vI a :: st) σ Q ↔ Rn d m_X1_judge 101 [l0, l1, l2, l3, l4, l5, l6] (vI (a + b) :: st) σ Q := q10_0 (show fnd (pgm m_X1_judge) 100 = some (101, 10, 0, 0, 0, []) from rfl)
set_option maxRecDepth 100000 in
theorem s_X1_judge_101 {d : Nat} {l0 l1 l2 l3 l4 l5 l6 : AV} {st : List AV} {o : Nat} {x : Int} {σ : Sg} {Q : AV → Sg → Prop} (hk : kn σ o = (0, 1)) : Rn d m_X1_judge 101 [l0, l1, l2, l3, l4, l5, l6] (vI x :: vR o :: st) σ Q ↔ Rn d m_X1_judge 104 [l0, l1, l2, l3, l4, l5, l6] st (up σ o 1 x) Q := q34i (show fnd (pgm m_X1_judge) 101 = some (104, 34, 15, 1, 1, []) from rfl) hk rfl
set_option maxRecDepth 100000 in
theorem s_X1_judge_104 {d : Nat} {l0 l1 l2 l3 l4 l5 l6 : AV} {st : List AV} {σ : Sg} {Q : AV → Sg → Prop}  : Rn d m_X1_judge 104 [l0, l1, l2, l3, l4, l5, l6] st σ Q ↔ Rn d m_X1_judge 140 [l0, l1, l2, l3, l4, l5, l6] st σ Q := q21 (show fnd (pgm m_X1_judge) 104 = some (107, 21, 0, 0, 140, []) from rfl)
set_option maxRecDepth 100000 in
theorem s_X1_judge_107 {d : Nat} {l1 l2 l3 l4 l5 l6 : AV} {st : List AV} {o : Nat} {σ : Sg} {Q : AV → Sg → Prop} (ho : o ≠ 0) : Rn d m_X1_judge 107 [vR o, l1, l2, l3, l4, l5, l6] st σ Q ↔ Rn d m_X1_judge 108 [vR o, l1, l2, l3, l4, l5, l6] (vR o :: st) σ Q := q5 (show fnd (pgm m_X1_judge) 107 = some (108, 5, 0, 0, 0, []) from rfl) rfl ho
set_option maxRecDepth 100000 in
theorem s_X1_judge_108 {d : Nat} {l0 l1 l2 l3 l4 l5 l6 : AV} {st : List AV} {o : Nat} {σ : Sg} {Q : AV → Sg → Prop} (hk : kn σ o = (0, 1)) : Rn d m_X1_judge 108 [l0, l1, l2, l3, l4, l5, l6] (vR o :: st) σ Q ↔ Rn d m_X1_judge 111 [l0, l1, l2, l3, l4, l5, l6] (vR (tp o 8) :: st) σ Q := q33 (show fnd (pgm m_X1_judge) 108 = some (111, 33, 37, 1, 8, []) from rfl) hk
set_option maxRecDepth 100000 in
theorem s_X1_judge_111 {d : Nat} {l0 l1 l2 l3 l4 l5 l6 : AV} {st : List AV} {σ : Sg} {Q : AV → Sg → Prop}  : Rn d m_X1_judge 111 [l0, l1, l2, l3, l4, l5, l6] st σ Q ↔ Rn d m_X1_judge 113 [l0, l1, l2, l3, l4, l5, l6] (vI 6 :: st) σ Q := q0 (show fnd (pgm m_X1_judge) 111 = some (113, 0, 6, 1, 0, []) from rfl)
set_option maxRecDepth 100000 in
theorem s_X1_judge_113 {d : Nat} {l1 l2 l3 l4 l5 l6 : AV} {st : List AV} {o : Nat} {σ : Sg} {Q : AV → Sg → Prop} (ho : o ≠ 0) : Rn d m_X1_judge 113 [vR o, l1, l2, l3, l4, l5, l6] st σ Q ↔ Rn d m_X1_judge 114 [vR o, l1, l2, l3, l4, l5, l6] (vR o :: st) σ Q := q5 (show fnd (pgm m_X1_judge) 113 = some (114, 5, 0, 0, 0, []) from rfl) rfl ho
set_option maxRecDepth 100000 in
theorem s_X1_judge_114 {d : Nat} {l0 l1 l2 l3 l4 l5 l6 : AV} {st : List AV} {o : Nat} {σ : Sg} {Q : AV → Sg → Prop} (hk : kn σ o = (0, 1)) : Rn d m_X1_judge 114 [l0, l1, l2, l3, l4, l5, l6] (vR o :: st) σ Q ↔ Rn d m_X1_judge 117 [l0, l1, l2, l3, l4, l5, l6] (vR (tp o 2) :: st) σ Q := q33 (show fnd (pgm m_X1_judge) 114 = some (117, 33, 18, 1, 2, []) from rfl) hk
set_option maxRecDepth 100000 in
theorem s_X1_judge_117 {d : Nat} {l0 l1 l2 l3 l5 l6 : AV} {st : List AV} {x : Int} {σ : Sg} {Q : AV → Sg → Prop}  : Rn d m_X1_judge 117 [l0, l1, l2, l3, vI x, l5, l6] st σ Q ↔ Rn d m_X1_judge 119 [l0, l1, l2, l3, vI x, l5, l6] (vI x :: st) σ Q := q3 (show fnd (pgm m_X1_judge) 117 = some (119, 3, 0, 4, 1, []) from rfl) rfl
set_option maxRecDepth 100000 in
theorem s_X1_judge_119 {d : Nat} {l0 l1 l2 l3 l4 l5 l6 : AV} {st : List AV} {i : Int} {o : Nat} {σ : Sg} {Q : AV → Sg → Prop} (hi : 0 ≤ w32 i ∧ w32 i < al σ 1 o) : Rn d m_X1_judge 119 [l0, l1, l2, l3, l4, l5, l6] (vI i :: vR o :: st) σ Q ↔ Rn d m_X1_judge 120 [l0, l1, l2, l3, l4, l5, l6] (vI (σ o (w32 i)) :: st) σ Q := q25 (show fnd (pgm m_X1_judge) 119 = some (120, 25, 0, 0, 0, []) from rfl) hi
set_option maxRecDepth 100000 in
theorem s_X1_judge_120 {d : Nat} {l0 l1 l2 l3 l4 l5 l6 : AV} {st : List AV} {a b : Int} {σ : Sg} {Q : AV → Sg → Prop}  : Rn d m_X1_judge 120 [l0, l1, l2, l3, l4, l5, l6] (vI b :: vI a :: st) σ Q ↔ Rn d m_X1_judge 121 [l0, l1, l2, l3, l4, l5, l6] (vI (a * b) :: st) σ Q := q10_2 (show fnd (pgm m_X1_judge) 120 = some (121, 10, 0, 2, 0, []) from rfl)
set_option maxRecDepth 100000 in
theorem s_X1_judge_121 {d : Nat} {l1 l2 l3 l4 l5 l6 : AV} {st : List AV} {o : Nat} {σ : Sg} {Q : AV → Sg → Prop} (ho : o ≠ 0) : Rn d m_X1_judge 121 [vR o, l1, l2, l3, l4, l5, l6] st σ Q ↔ Rn d m_X1_judge 122 [vR o, l1, l2, l3, l4, l5, l6] (vR o :: st) σ Q := q5 (show fnd (pgm m_X1_judge) 121 = some (122, 5, 0, 0, 0, []) from rfl) rfl ho
set_option maxRecDepth 100000 in
theorem s_X1_judge_122 {d : Nat} {l0 l1 l2 l3 l4 l5 l6 : AV} {st : List AV} {o : Nat} {σ : Sg} {Q : AV → Sg → Prop} (hk : kn σ o = (0, 1)) : Rn d m_X1_judge 122 [l0, l1, l2, l3, l4, l5, l6] (vR o :: st) σ Q ↔ Rn d m_X1_judge 125 [l0, l1, l2, l3, l4, l5, l6] (vR (tp o 3) :: st) σ Q := q33 (show fnd (pgm m_X1_judge) 122 = some (125, 33, 22, 1, 3, []) from rfl) hk
set_option maxRecDepth 100000 in
theorem s_X1_judge_125 {d : Nat} {l0 l1 l2 l3 l5 l6 : AV} {st : List AV} {x : Int} {σ : Sg} {Q : AV → Sg → Prop}  : Rn d m_X1_judge 125 [l0, l1, l2, l3, vI x, l5, l6] st σ Q ↔ Rn d m_X1_judge 127 [l0, l1, l2, l3, vI x, l5, l6] (vI x :: st) σ Q := q3 (show fnd (pgm m_X1_judge) 125 = some (127, 3, 0, 4, 1, []) from rfl) rfl
set_option maxRecDepth 100000 in
theorem s_X1_judge_127 {d : Nat} {l0 l1 l2 l3 l4 l5 l6 : AV} {st : List AV} {i : Int} {o : Nat} {σ : Sg} {Q : AV → Sg → Prop} (hi : 0 ≤ w32 i ∧ w32 i < al σ 1 o) : Rn d m_X1_judge 127 [l0, l1, l2, l3, l4, l5, l6] (vI i :: vR o :: st) σ Q ↔ Rn d m_X1_judge 128 [l0, l1, l2, l3, l4, l5, l6] (vI (σ o (w32 i)) :: st) σ Q := q25 (show fnd (pgm m_X1_judge) 127 = some (128, 25, 0, 0, 0, []) from rfl) hi
set_option maxRecDepth 100000 in
theorem s_X1_judge_128 {d : Nat} {l0 l1 l2 l3 l4 l5 l6 : AV} {st : List AV} {a b : Int} {σ : Sg} {Q : AV → Sg → Prop}  : Rn d m_X1_judge 128 [l0, l1, l2, l3, l4, l5, l6] (vI b :: vI a :: st) σ Q ↔ Rn d m_X1_judge 129 [l0, l1, l2, l3, l4, l5, l6] (vI (a + b) :: st) σ Q := q10_0 (show fnd (pgm m_X1_judge) 128 = some (129, 10, 0, 0, 0, []) from rfl)
set_option maxRecDepth 100000 in
theorem s_X1_judge_129 {d : Nat} {l0 l1 l2 l3 l4 l5 l6 : AV} {st : List AV} {a : Int} {o : Nat} {σ : Sg} {Q : AV → Sg → Prop}  : Rn d m_X1_judge 129 [l0, l1, l2, l3, l4, l5, l6] (vI a :: vR o :: st) σ Q ↔ Rn d m_X1_judge 130 [l0, l1, l2, l3, l4, l5, l6] (vI a :: vR o :: vI a :: vR o :: st) σ Q := q18 (show fnd (pgm m_X1_judge) 129 = some (130, 18, 0, 0, 0, []) from rfl)
set_option maxRecDepth 100000 in
theorem s_X1_judge_130 {d : Nat} {l0 l1 l2 l3 l4 l5 l6 : AV} {st : List AV} {i : Int} {o : Nat} {σ : Sg} {Q : AV → Sg → Prop} (hi : 0 ≤ w32 i ∧ w32 i < al σ 1 o) : Rn d m_X1_judge 130 [l0, l1, l2, l3, l4, l5, l6] (vI i :: vR o :: st) σ Q ↔ Rn d m_X1_judge 131 [l0, l1, l2, l3, l4, l5, l6] (vI (σ o (w32 i)) :: st) σ Q := q25 (show fnd (pgm m_X1_judge) 130 = some (131, 25, 0, 0, 0, []) from rfl) hi
set_option maxRecDepth 100000 in
theorem s_X1_judge_131 {d : Nat} {l1 l2 l3 l4 l5 l6 : AV} {st : List AV} {o : Nat} {σ : Sg} {Q : AV → Sg → Prop} (ho : o ≠ 0) : Rn d m_X1_judge 131 [vR o, l1, l2, l3, l4, l5, l6] st σ Q ↔ Rn d m_X1_judge 132 [vR o, l1, l2, l3, l4, l5, l6] (vR o :: st) σ Q := q5 (show fnd (pgm m_X1_judge) 131 = some (132, 5, 0, 0, 0, []) from rfl) rfl ho
set_option maxRecDepth 100000 in
theorem s_X1_judge_132 {d : Nat} {l0 l1 l2 l3 l4 l5 l6 : AV} {st : List AV} {o : Nat} {σ : Sg} {Q : AV → Sg → Prop} (hk : kn σ o = (0, 1)) : Rn d m_X1_judge 132 [l0, l1, l2, l3, l4, l5, l6] (vR o :: st) σ Q ↔ Rn d m_X1_judge 135 [l0, l1, l2, l3, l4, l5, l6] (vR (tp o 6) :: st) σ Q := q33 (show fnd (pgm m_X1_judge) 132 = some (135, 33, 31, 1, 6, []) from rfl) hk
set_option maxRecDepth 100000 in
theorem s_X1_judge_135 {d : Nat} {l0 l1 l2 l3 l5 l6 : AV} {st : List AV} {x : Int} {σ : Sg} {Q : AV → Sg → Prop}  : Rn d m_X1_judge 135 [l0, l1, l2, l3, vI x, l5, l6] st σ Q ↔ Rn d m_X1_judge 137 [l0, l1, l2, l3, vI x, l5, l6] (vI x :: st) σ Q := q3 (show fnd (pgm m_X1_judge) 135 = some (137, 3, 0, 4, 1, []) from rfl) rfl
set_option maxRecDepth 100000 in
theorem s_X1_judge_137 {d : Nat} {l0 l1 l2 l3 l4 l5 l6 : AV} {st : List AV} {i : Int} {o : Nat} {σ : Sg} {Q : AV → Sg → Prop} (hi : 0 ≤ w32 i ∧ w32 i < al σ 1 o) : Rn d m_X1_judge 137 [l0, l1, l2, l3, l4, l5, l6] (vI i :: vR o :: st) σ Q ↔ Rn d m_X1_judge 138 [l0, l1, l2, l3, l4, l5, l6] (vI (σ o (w32 i)) :: st) σ Q := q25 (show fnd (pgm m_X1_judge) 137 = some (138, 25, 0, 0, 0, []) from rfl) hi
set_option maxRecDepth 100000 in
theorem s_X1_judge_138 {d : Nat} {l0 l1 l2 l3 l4 l5 l6 : AV} {st : List AV} {a b : Int} {σ : Sg} {Q : AV → Sg → Prop}  : Rn d m_X1_judge 138 [l0, l1, l2, l3, l4, l5, l6] (vI b :: vI a :: st) σ Q ↔ Rn d m_X1_judge 139 [l0, l1, l2, l3, l4, l5, l6] (vI (a + b) :: st) σ Q := q10_0 (show fnd (pgm m_X1_judge) 138 = some (139, 10, 0, 0, 0, []) from rfl)
set_option maxRecDepth 100000 in
theorem s_X1_judge_139 {d : Nat} {l0 l1 l2 l3 l4 l5 l6 : AV} {st : List AV} {i x : Int} {o : Nat} {σ : Sg} {Q : AV → Sg → Prop} (hi : 0 ≤ w32 i ∧ w32 i < al σ 1 o) : Rn d m_X1_judge 139 [l0, l1, l2, l3, l4, l5, l6] (vI x :: vI i :: vR o :: st) σ Q ↔ Rn d m_X1_judge 140 [l0, l1, l2, l3, l4, l5, l6] st (up σ o (w32 i) x) Q := q29 (show fnd (pgm m_X1_judge) 139 = some (140, 29, 0, 0, 0, []) from rfl) hi
set_option maxRecDepth 100000 in
theorem s_X1_judge_140 {d : Nat} {l0 l1 l2 l3 l5 l6 : AV} {st : List AV} {x : Int} {σ : Sg} {Q : AV → Sg → Prop}  : Rn d m_X1_judge 140 [l0, l1, l2, l3, vI x, l5, l6] st σ Q ↔ Rn d m_X1_judge 143 [l0, l1, l2, l3, vI (x + 1), l5, l6] st σ Q := q9 (show fnd (pgm m_X1_judge) 140 = some (143, 9, 1, 4, 0, []) from rfl) rfl
set_option maxRecDepth 100000 in
theorem s_X1_judge_143 {d : Nat} {l0 l1 l2 l3 l4 l5 l6 : AV} {st : List AV} {σ : Sg} {Q : AV → Sg → Prop}  : Rn d m_X1_judge 143 [l0, l1, l2, l3, l4, l5, l6] st σ Q ↔ Rn d m_X1_judge 39 [l0, l1, l2, l3, l4, l5, l6] st σ Q := q21 (show fnd (pgm m_X1_judge) 143 = some (146, 21, 0, 0, 39, []) from rfl)
set_option maxRecDepth 100000 in
theorem s_X1_judge_146 {d : Nat} {l0 l1 l2 l3 l4 l5 l6 : AV} {σ : Sg} {Q : AV → Sg → Prop}  : Rn d m_X1_judge 146 [l0, l1, l2, l3, l4, l5, l6] [] σ Q ↔ Q none σ := q37_0 (st := []) (show fnd (pgm m_X1_judge) 146 = some (147, 37, 0, 0, 0, []) from rfl)
set_option maxRecDepth 100000 in
theorem en_X1_debt {d : Nat} {o : Nat} {a0 : Int} {a1 : Int} {σ σ0 : Sg} {r0 : AV} (h : Rn d m_X1_debt 0 [vR o, vI a0, vI a1] [] σ (fun r σ1 => r = r0 ∧ σ1 = σ0)) : Ev (d + 1) m_X1_debt [vR o, vI a0, vI a1] σ r0 σ0 := Ev_is (Nat.le_of_ble_eq_true rfl) h
set_option maxRecDepth 100000 in
theorem eo_X1_debt {d : Nat} {o : Nat} {a0 : Int} {a1 : Int} {σ : Sg} {Q : AV → Sg → Prop} (h : Rn d m_X1_debt 0 [vR o, vI a0, vI a1] [] σ Q) : ∃ r σ1, Ev (d + 1) m_X1_debt [vR o, vI a0, vI a1] σ r σ1 ∧ Q r σ1 := Ev_of (Nat.le_of_ble_eq_true rfl) h
set_option maxRecDepth 100000 in
theorem s_X1_debt_0 {d : Nat} {l1 l2 : AV} {st : List AV} {o : Nat} {σ : Sg} {Q : AV → Sg → Prop} (ho : o ≠ 0) : Rn d m_X1_debt 0 [vR o, l1, l2] st σ Q ↔ Rn d m_X1_debt 1 [vR o, l1, l2] (vR o :: st) σ Q := q5 (show fnd (pgm m_X1_debt) 0 = some (1, 5, 0, 0, 0, []) from rfl) rfl ho
set_option maxRecDepth 100000 in
theorem s_X1_debt_1 {d : Nat} {l0 l1 l2 : AV} {st : List AV} {o : Nat} {σ : Sg} {Q : AV → Sg → Prop} (hk : kn σ o = (0, 1)) : Rn d m_X1_debt 1 [l0, l1, l2] (vR o :: st) σ Q ↔ Rn d m_X1_debt 4 [l0, l1, l2] (vR (tp o 8) :: st) σ Q := q33 (show fnd (pgm m_X1_debt) 1 = some (4, 33, 37, 1, 8, []) from rfl) hk
set_option maxRecDepth 100000 in
theorem s_X1_debt_4 {d : Nat} {l0 l1 l2 : AV} {st : List AV} {σ : Sg} {Q : AV → Sg → Prop}  : Rn d m_X1_debt 4 [l0, l1, l2] st σ Q ↔ Rn d m_X1_debt 6 [l0, l1, l2] (vI 6 :: st) σ Q := q0 (show fnd (pgm m_X1_debt) 4 = some (6, 0, 6, 1, 0, []) from rfl)
set_option maxRecDepth 100000 in
theorem s_X1_debt_6 {d : Nat} {l0 l2 : AV} {st : List AV} {x : Int} {σ : Sg} {Q : AV → Sg → Prop}  : Rn d m_X1_debt 6 [l0, vI x, l2] st σ Q ↔ Rn d m_X1_debt 7 [l0, vI x, l2] (vI x :: st) σ Q := q3 (show fnd (pgm m_X1_debt) 6 = some (7, 3, 0, 1, 0, []) from rfl) rfl
set_option maxRecDepth 100000 in
theorem s_X1_debt_7 {d : Nat} {l0 l1 l2 : AV} {st : List AV} {a b : Int} {σ : Sg} {Q : AV → Sg → Prop}  : Rn d m_X1_debt 7 [l0, l1, l2] (vI b :: vI a :: st) σ Q ↔ Rn d m_X1_debt 8 [l0, l1, l2] (vI (a * b) :: st) σ Q := q10_2 (show fnd (pgm m_X1_debt) 7 = some (8, 10, 0, 2, 0, []) from rfl)
set_option maxRecDepth 100000 in
theorem s_X1_debt_8 {d : Nat} {l0 l1 : AV} {st : List AV} {x : Int} {σ : Sg} {Q : AV → Sg → Prop}  : Rn d m_X1_debt 8 [l0, l1, vI x] st σ Q ↔ Rn d m_X1_debt 9 [l0, l1, vI x] (vI x :: st) σ Q := q3 (show fnd (pgm m_X1_debt) 8 = some (9, 3, 0, 2, 0, []) from rfl) rfl
set_option maxRecDepth 100000 in
theorem s_X1_debt_9 {d : Nat} {l0 l1 l2 : AV} {st : List AV} {a b : Int} {σ : Sg} {Q : AV → Sg → Prop}  : Rn d m_X1_debt 9 [l0, l1, l2] (vI b :: vI a :: st) σ Q ↔ Rn d m_X1_debt 10 [l0, l1, l2] (vI (a + b) :: st) σ Q := q10_0 (show fnd (pgm m_X1_debt) 9 = some (10, 10, 0, 0, 0, []) from rfl)
set_option maxRecDepth 100000 in
theorem s_X1_debt_10 {d : Nat} {l0 l1 l2 : AV} {st : List AV} {i : Int} {o : Nat} {σ : Sg} {Q : AV → Sg → Prop} (hi : 0 ≤ w32 i ∧ w32 i < al σ 1 o) : Rn d m_X1_debt 10 [l0, l1, l2] (vI i :: vR o :: st) σ Q ↔ Rn d m_X1_debt 11 [l0, l1, l2] (vI (σ o (w32 i)) :: st) σ Q := q25 (show fnd (pgm m_X1_debt) 10 = some (11, 25, 0, 0, 0, []) from rfl) hi
set_option maxRecDepth 100000 in
theorem s_X1_debt_11 {d : Nat} {l0 l1 l2 : AV} {x : Int} {σ : Sg} {Q : AV → Sg → Prop}  : Rn d m_X1_debt 11 [l0, l1, l2] [vI x] σ Q ↔ Q (vI x) σ := q37_1 (st := []) (show fnd (pgm m_X1_debt) 11 = some (12, 37, 0, 1, 0, []) from rfl)
set_option maxRecDepth 100000 in
theorem en_X1_balance {d : Nat} {o : Nat} {a0 : Int} {σ σ0 : Sg} {r0 : AV} (h : Rn d m_X1_balance 0 [vR o, vI a0, none, none] [] σ (fun r σ1 => r = r0 ∧ σ1 = σ0)) : Ev (d + 1) m_X1_balance [vR o, vI a0] σ r0 σ0 := Ev_is (Nat.le_of_ble_eq_true rfl) h
set_option maxRecDepth 100000 in
theorem eo_X1_balance {d : Nat} {o : Nat} {a0 : Int} {σ : Sg} {Q : AV → Sg → Prop} (h : Rn d m_X1_balance 0 [vR o, vI a0, none, none] [] σ Q) : ∃ r σ1, Ev (d + 1) m_X1_balance [vR o, vI a0] σ r σ1 ∧ Q r σ1 := Ev_of (Nat.le_of_ble_eq_true rfl) h
set_option maxRecDepth 100000 in
theorem s_X1_balance_0 {d : Nat} {l0 l1 l2 l3 : AV} {st : List AV} {σ : Sg} {Q : AV → Sg → Prop}  : Rn d m_X1_balance 0 [l0, l1, l2, l3] st σ Q ↔ Rn d m_X1_balance 1 [l0, l1, l2, l3] (vI 0 :: st) σ Q := q0 (show fnd (pgm m_X1_balance) 0 = some (1, 0, 0, 0, 0, []) from rfl)
set_option maxRecDepth 100000 in
theorem s_X1_balance_1 {d : Nat} {l0 l1 l2 l3 : AV} {st : List AV} {x : Int} {σ : Sg} {Q : AV → Sg → Prop}  : Rn d m_X1_balance 1 [l0, l1, l2, l3] (vI x :: st) σ Q ↔ Rn d m_X1_balance 2 [l0, l1, vI x, l3] st σ Q := q6 (show fnd (pgm m_X1_balance) 1 = some (2, 6, 0, 2, 0, []) from rfl) (by decide : 2 < 4)
set_option maxRecDepth 100000 in
theorem s_X1_balance_2 {d : Nat} {l0 l1 l2 l3 : AV} {st : List AV} {σ : Sg} {Q : AV → Sg → Prop}  : Rn d m_X1_balance 2 [l0, l1, l2, l3] st σ Q ↔ Rn d m_X1_balance 3 [l0, l1, l2, l3] (vI 0 :: st) σ Q := q0 (show fnd (pgm m_X1_balance) 2 = some (3, 0, 0, 0, 0, []) from rfl)
set_option maxRecDepth 100000 in
theorem s_X1_balance_3 {d : Nat} {l0 l1 l2 l3 : AV} {st : List AV} {x : Int} {σ : Sg} {Q : AV → Sg → Prop}  : Rn d m_X1_balance 3 [l0, l1, l2, l3] (vI x :: st) σ Q ↔ Rn d m_X1_balance 4 [l0, l1, l2, vI x] st σ Q := q6 (show fnd (pgm m_X1_balance) 3 = some (4, 6, 0, 3, 0, []) from rfl) (by decide : 3 < 4)
set_option maxRecDepth 100000 in
theorem s_X1_balance_4 {d : Nat} {l0 l1 l2 : AV} {st : List AV} {x : Int} {σ : Sg} {Q : AV → Sg → Prop}  : Rn d m_X1_balance 4 [l0, l1, l2, vI x] st σ Q ↔ Rn d m_X1_balance 5 [l0, l1, l2, vI x] (vI x :: st) σ Q := q3 (show fnd (pgm m_X1_balance) 4 = some (5, 3, 0, 3, 0, []) from rfl) rfl
set_option maxRecDepth 100000 in
theorem s_X1_balance_5 {d : Nat} {l0 l1 l2 l3 : AV} {st : List AV} {σ : Sg} {Q : AV → Sg → Prop}  : Rn d m_X1_balance 5 [l0, l1, l2, l3] st σ Q ↔ Rn d m_X1_balance 7 [l0, l1, l2, l3] (vI 6 :: st) σ Q := q0 (show fnd (pgm m_X1_balance) 5 = some (7, 0, 6, 1, 0, []) from rfl)
set_option maxRecDepth 100000 in
theorem s_X1_balance_7 {d : Nat} {l0 l1 l2 l3 : AV} {st : List AV} {a b : Int} {σ : Sg} {Q : AV → Sg → Prop}  : Rn d m_X1_balance 7 [l0, l1, l2, l3] (vI b :: vI a :: st) σ Q ↔ if w32 b ≤ w32 a then Rn d m_X1_balance 37 [l0, l1, l2, l3] st σ Q else Rn d m_X1_balance 10 [l0, l1, l2, l3] st σ Q := q20_3 (show fnd (pgm m_X1_balance) 7 = some (10, 20, 0, 3, 37, []) from rfl)
set_option maxRecDepth 100000 in
theorem s_X1_balance_10 {d : Nat} {l0 l1 l2 : AV} {st : List AV} {x : Int} {σ : Sg} {Q : AV → Sg → Prop}  : Rn d m_X1_balance 10 [l0, l1, l2, vI x] st σ Q ↔ Rn d m_X1_balance 11 [l0, l1, l2, vI x] (vI x :: st) σ Q := q3 (show fnd (pgm m_X1_balance) 10 = some (11, 3, 0, 3, 0, []) from rfl) rfl
set_option maxRecDepth 100000 in
theorem s_X1_balance_11 {d : Nat} {l0 l2 l3 : AV} {st : List AV} {x : Int} {σ : Sg} {Q : AV → Sg → Prop}  : Rn d m_X1_balance 11 [l0, vI x, l2, l3] st σ Q ↔ Rn d m_X1_balance 12 [l0, vI x, l2, l3] (vI x :: st) σ Q := q3 (show fnd (pgm m_X1_balance) 11 = some (12, 3, 0, 1, 0, []) from rfl) rfl
set_option maxRecDepth 100000 in
theorem s_X1_balance_12 {d : Nat} {l0 l1 l2 l3 : AV} {st : List AV} {a b : Int} {σ : Sg} {Q : AV → Sg → Prop}  : Rn d m_X1_balance 12 [l0, l1, l2, l3] (vI b :: vI a :: st) σ Q ↔ if w32 a = w32 b then Rn d m_X1_balance 31 [l0, l1, l2, l3] st σ Q else Rn d m_X1_balance 15 [l0, l1, l2, l3] st σ Q := q20_0 (show fnd (pgm m_X1_balance) 12 = some (15, 20, 0, 0, 31, []) from rfl)
set_option maxRecDepth 100000 in
theorem s_X1_balance_15 {d : Nat} {l0 l1 l3 : AV} {st : List AV} {x : Int} {σ : Sg} {Q : AV → Sg → Prop}  : Rn d m_X1_balance 15 [l0, l1, vI x, l3] st σ Q ↔ Rn d m_X1_balance 16 [l0, l1, vI x, l3] (vI x :: st) σ Q := q3 (show fnd (pgm m_X1_balance) 15 = some (16, 3, 0, 2, 0, []) from rfl) rfl
set_option maxRecDepth 100000 in
theorem s_X1_balance_16 {d : Nat} {l1 l2 l3 : AV} {st : List AV} {o : Nat} {σ : Sg} {Q : AV → Sg → Prop} (ho : o ≠ 0) : Rn d m_X1_balance 16 [vR o, l1, l2, l3] st σ Q ↔ Rn d m_X1_balance 17 [vR o, l1, l2, l3] (vR o :: st) σ Q := q5 (show fnd (pgm m_X1_balance) 16 = some (17, 5, 0, 0, 0, []) from rfl) rfl ho
set_option maxRecDepth 100000 in
theorem s_X1_balance_17 {d : Nat} {l0 l1 l2 : AV} {st : List AV} {x : Int} {σ : Sg} {Q : AV → Sg → Prop}  : Rn d m_X1_balance 17 [l0, l1, l2, vI x] st σ Q ↔ Rn d m_X1_balance 18 [l0, l1, l2, vI x] (vI x :: st) σ Q := q3 (show fnd (pgm m_X1_balance) 17 = some (18, 3, 0, 3, 0, []) from rfl) rfl
set_option maxRecDepth 100000 in
theorem s_X1_balance_18 {d : Nat} {l0 l2 l3 : AV} {st : List AV} {x : Int} {σ : Sg} {Q : AV → Sg → Prop}  : Rn d m_X1_balance 18 [l0, vI x, l2, l3] st σ Q ↔ Rn d m_X1_balance 19 [l0, vI x, l2, l3] (vI x :: st) σ Q := q3 (show fnd (pgm m_X1_balance) 18 = some (19, 3, 0, 1, 0, []) from rfl) rfl
set_option maxRecDepth 100000 in
theorem s_X1_balance_19 {d : Nat} {l0 l1 l2 l3 : AV} {st : List AV} {o : Nat} {a0 : Int} {a1 : Int} {σ : Sg} {Q : AV → Sg → Prop} (h4 : st.length ≤ 4) (hk : kn σ o = (0, 1)) : Rn d m_X1_balance 19 [l0, l1, l2, l3] (vI a1 :: vI a0 :: vR o :: st) σ Q ↔ ∃ r σ1, Ev d m_X1_debt [vR o, vI a0, vI a1] σ r σ1 ∧ Rn d m_X1_balance 22 [l0, l1, l2, l3] (psh r st) σ1 Q := q35 (show fnd (pgm m_X1_balance) 19 = some (22, 35, 52, 16, 3, []) from rfl) ⟨⟨by simp, by simpa using h4⟩, (by simp only [List.take, List.reverse, List.reverseAux, rcv]; rw [if_neg (by decide +kernel)]; exact decide_eq_true hk)⟩
set_option maxRecDepth 100000 in
theorem s_X1_balance_22 {d : Nat} {l1 l2 l3 : AV} {st : List AV} {o : Nat} {σ : Sg} {Q : AV → Sg → Prop} (ho : o ≠ 0) : Rn d m_X1_balance 22 [vR o, l1, l2, l3] st σ Q ↔ Rn d m_X1_balance 23 [vR o, l1, l2, l3] (vR o :: st) σ Q := q5 (show fnd (pgm m_X1_balance) 22 = some (23, 5, 0, 0, 0, []) from rfl) rfl ho
set_option maxRecDepth 100000 in
theorem s_X1_balance_23 {d : Nat} {l0 l2 l3 : AV} {st : List AV} {x : Int} {σ : Sg} {Q : AV → Sg → Prop}  : Rn d m_X1_balance 23 [l0, vI x, l2, l3] st σ Q ↔ Rn d m_X1_balance 24 [l0, vI x, l2, l3] (vI x :: st) σ Q := q3 (show fnd (pgm m_X1_balance) 23 = some (24, 3, 0, 1, 0, []) from rfl) rfl
set_option maxRecDepth 100000 in
theorem s_X1_balance_24 {d : Nat} {l0 l1 l2 : AV} {st : List AV} {x : Int} {σ : Sg} {Q : AV → Sg → Prop}  : Rn d m_X1_balance 24 [l0, l1, l2, vI x] st σ Q ↔ Rn d m_X1_balance 25 [l0, l1, l2, vI x] (vI x :: st) σ Q := q3 (show fnd (pgm m_X1_balance) 24 = some (25, 3, 0, 3, 0, []) from rfl) rfl
set_option maxRecDepth 100000 in
theorem s_X1_balance_25 {d : Nat} {l0 l1 l2 l3 : AV} {st : List AV} {o : Nat} {a0 : Int} {a1 : Int} {σ : Sg} {Q : AV → Sg → Prop} (h4 : st.length ≤ 4) (hk : kn σ o = (0, 1)) : Rn d m_X1_balance 25 [l0, l1, l2, l3] (vI a1 :: vI a0 :: vR o :: st) σ Q ↔ ∃ r σ1, Ev d m_X1_debt [vR o, vI a0, vI a1] σ r σ1 ∧ Rn d m_X1_balance 28 [l0, l1, l2, l3] (psh r st) σ1 Q := q35 (show fnd (pgm m_X1_balance) 25 = some (28, 35, 52, 16, 3, []) from rfl) ⟨⟨by simp, by simpa using h4⟩, (by simp only [List.take, List.reverse, List.reverseAux, rcv]; rw [if_neg (by decide +kernel)]; exact decide_eq_true hk)⟩
set_option maxRecDepth 100000 in
theorem s_X1_balance_28 {d : Nat} {l0 l1 l2 l3 : AV} {st : List AV} {a b : Int} {σ : Sg} {Q : AV → Sg → Prop}  : Rn d m_X1_balance 28 [l0, l1, l2, l3] (vI b :: vI a :: st) σ Q ↔ Rn d m_X1_balance 29 [l0, l1, l2, l3] (vI (a - b) :: st) σ Q := q10_1 (show fnd (pgm m_X1_balance) 28 = some (29, 10, 0, 1, 0, []) from rfl)
set_option maxRecDepth 100000 in
theorem s_X1_balance_29 {d : Nat} {l0 l1 l2 l3 : AV} {st : List AV} {a b : Int} {σ : Sg} {Q : AV → Sg → Prop}  : Rn d m_X1_balance 29 [l0, l1, l2, l3] (vI b :: vI a :: st) σ Q ↔ Rn d m_X1_balance 30 [l0, l1, l2, l3] (vI (a + b) :: st) σ Q := q10_0 (show fnd (pgm m_X1_balance) 29 = some (30, 10, 0, 0, 0, []) from rfl)
set_option maxRecDepth 100000 in
theorem s_X1_balance_30 {d : Nat} {l0 l1 l2 l3 : AV} {st : List AV} {x : Int} {σ : Sg} {Q : AV → Sg → Prop}  : Rn d m_X1_balance 30 [l0, l1, l2, l3] (vI x :: st) σ Q ↔ Rn d m_X1_balance 31 [l0, l1, vI x, l3] st σ Q := q6 (show fnd (pgm m_X1_balance) 30 = some (31, 6, 0, 2, 0, []) from rfl) (by decide : 2 < 4)
set_option maxRecDepth 100000 in
theorem s_X1_balance_31 {d : Nat} {l0 l1 l2 : AV} {st : List AV} {x : Int} {σ : Sg} {Q : AV → Sg → Prop}  : Rn d m_X1_balance 31 [l0, l1, l2, vI x] st σ Q ↔ Rn d m_X1_balance 34 [l0, l1, l2, vI (x + 1)] st σ Q := q9 (show fnd (pgm m_X1_balance) 31 = some (34, 9, 1, 3, 0, []) from rfl) rfl
set_option maxRecDepth 100000 in
theorem s_X1_balance_34 {d : Nat} {l0 l1 l2 l3 : AV} {st : List AV} {σ : Sg} {Q : AV → Sg → Prop}  : Rn d m_X1_balance 34 [l0, l1, l2, l3] st σ Q ↔ Rn d m_X1_balance 4 [l0, l1, l2, l3] st σ Q := q21 (show fnd (pgm m_X1_balance) 34 = some (37, 21, 0, 0, 4, []) from rfl)
set_option maxRecDepth 100000 in
theorem s_X1_balance_37 {d : Nat} {l0 l1 l3 : AV} {st : List AV} {x : Int} {σ : Sg} {Q : AV → Sg → Prop}  : Rn d m_X1_balance 37 [l0, l1, vI x, l3] st σ Q ↔ Rn d m_X1_balance 38 [l0, l1, vI x, l3] (vI x :: st) σ Q := q3 (show fnd (pgm m_X1_balance) 37 = some (38, 3, 0, 2, 0, []) from rfl) rfl
set_option maxRecDepth 100000 in
theorem s_X1_balance_38 {d : Nat} {l0 l1 l2 l3 : AV} {x : Int} {σ : Sg} {Q : AV → Sg → Prop}  : Rn d m_X1_balance 38 [l0, l1, l2, l3] [vI x] σ Q ↔ Q (vI x) σ := q37_1 (st := []) (show fnd (pgm m_X1_balance) 38 = some (39, 37, 0, 1, 0, []) from rfl)
set_option maxRecDepth 100000 in
theorem en_X1_fewestPayments {d : Nat} {o : Nat} {σ σ0 : Sg} {r0 : AV} (h : Rn d m_X1_fewestPayments 0 [vR o, none, none, none, none] [] σ (fun r σ1 => r = r0 ∧ σ1 = σ0)) : Ev (d + 1) m_X1_fewestPayments [vR o] σ r0 σ0 := Ev_is (Nat.le_of_ble_eq_true rfl) h
set_option maxRecDepth 100000 in
theorem eo_X1_fewestPayments {d : Nat} {o : Nat} {σ : Sg} {Q : AV → Sg → Prop} (h : Rn d m_X1_fewestPayments 0 [vR o, none, none, none, none] [] σ Q) : ∃ r σ1, Ev (d + 1) m_X1_fewestPayments [vR o] σ r σ1 ∧ Q r σ1 := Ev_of (Nat.le_of_ble_eq_true rfl) h
set_option maxRecDepth 100000 in
theorem s_X1_fewestPayments_0 {d : Nat} {l1 l2 l3 l4 : AV} {st : List AV} {o : Nat} {σ : Sg} {Q : AV → Sg → Prop} (ho : o ≠ 0) : Rn d m_X1_fewestPayments 0 [vR o, l1, l2, l3, l4] st σ Q ↔ Rn d m_X1_fewestPayments 1 [vR o, l1, l2, l3, l4] (vR o :: st) σ Q := q5 (show fnd (pgm m_X1_fewestPayments) 0 = some (1, 5, 0, 0, 0, []) from rfl) rfl ho
set_option maxRecDepth 100000 in
theorem s_X1_fewestPayments_1 {d : Nat} {l0 l1 l2 l3 l4 : AV} {st : List AV} {o : Nat} {σ : Sg} {Q : AV → Sg → Prop} (hk : kn σ o = (0, 1)) : Rn d m_X1_fewestPayments 1 [l0, l1, l2, l3, l4] (vR o :: st) σ Q ↔ Rn d m_X1_fewestPayments 4 [l0, l1, l2, l3, l4] (vR (tp o 9) :: st) σ Q := q33 (show fnd (pgm m_X1_fewestPayments) 1 = some (4, 33, 40, 1, 9, []) from rfl) hk
set_option maxRecDepth 100000 in
theorem s_X1_fewestPayments_4 {d : Nat} {l0 l1 l2 l3 l4 : AV} {st : List AV} {σ : Sg} {Q : AV → Sg → Prop}  : Rn d m_X1_fewestPayments 4 [l0, l1, l2, l3, l4] st σ Q ↔ Rn d m_X1_fewestPayments 5 [l0, l1, l2, l3, l4] (vI 0 :: st) σ Q := q0 (show fnd (pgm m_X1_fewestPayments) 4 = some (5, 0, 0, 0, 0, []) from rfl)
set_option maxRecDepth 100000 in
theorem s_X1_fewestPayments_5 {d : Nat} {l0 l1 l2 l3 l4 : AV} {st : List AV} {σ : Sg} {Q : AV → Sg → Prop}  : Rn d m_X1_fewestPayments 5 [l0, l1, l2, l3, l4] st σ Q ↔ Rn d m_X1_fewestPayments 6 [l0, l1, l2, l3, l4] (vI 0 :: st) σ Q := q0 (show fnd (pgm m_X1_fewestPayments) 5 = some (6, 0, 0, 0, 0, []) from rfl)
set_option maxRecDepth 100000 in
theorem s_X1_fewestPayments_6 {d : Nat} {l0 l1 l2 l3 l4 : AV} {st : List AV} {i x : Int} {o : Nat} {σ : Sg} {Q : AV → Sg → Prop} (hi : 0 ≤ w32 i ∧ w32 i < al σ 1 o) : Rn d m_X1_fewestPayments 6 [l0, l1, l2, l3, l4] (vI x :: vI i :: vR o :: st) σ Q ↔ Rn d m_X1_fewestPayments 7 [l0, l1, l2, l3, l4] st (up σ o (w32 i) x) Q := q29 (show fnd (pgm m_X1_fewestPayments) 6 = some (7, 29, 0, 0, 0, []) from rfl) hi
set_option maxRecDepth 100000 in
theorem s_X1_fewestPayments_7 {d : Nat} {l1 l2 l3 l4 : AV} {st : List AV} {o : Nat} {σ : Sg} {Q : AV → Sg → Prop} (ho : o ≠ 0) : Rn d m_X1_fewestPayments 7 [vR o, l1, l2, l3, l4] st σ Q ↔ Rn d m_X1_fewestPayments 8 [vR o, l1, l2, l3, l4] (vR o :: st) σ Q := q5 (show fnd (pgm m_X1_fewestPayments) 7 = some (8, 5, 0, 0, 0, []) from rfl) rfl ho
set_option maxRecDepth 100000 in
theorem s_X1_fewestPayments_8 {d : Nat} {l0 l1 l2 l3 l4 : AV} {st : List AV} {o : Nat} {σ : Sg} {Q : AV → Sg → Prop} (hk : kn σ o = (0, 1)) : Rn d m_X1_fewestPayments 8 [l0, l1, l2, l3, l4] (vR o :: st) σ Q ↔ Rn d m_X1_fewestPayments 11 [l0, l1, l2, l3, l4] (vR (tp o 10) :: st) σ Q := q33 (show fnd (pgm m_X1_fewestPayments) 8 = some (11, 33, 43, 1, 10, []) from rfl) hk
set_option maxRecDepth 100000 in
theorem s_X1_fewestPayments_11 {d : Nat} {l0 l1 l2 l3 l4 : AV} {st : List AV} {σ : Sg} {Q : AV → Sg → Prop}  : Rn d m_X1_fewestPayments 11 [l0, l1, l2, l3, l4] st σ Q ↔ Rn d m_X1_fewestPayments 12 [l0, l1, l2, l3, l4] (vI 0 :: st) σ Q := q0 (show fnd (pgm m_X1_fewestPayments) 11 = some (12, 0, 0, 0, 0, []) from rfl)
set_option maxRecDepth 100000 in
theorem s_X1_fewestPayments_12 {d : Nat} {l0 l1 l2 l3 l4 : AV} {st : List AV} {σ : Sg} {Q : AV → Sg → Prop}  : Rn d m_X1_fewestPayments 12 [l0, l1, l2, l3, l4] st σ Q ↔ Rn d m_X1_fewestPayments 13 [l0, l1, l2, l3, l4] (vI 0 :: st) σ Q := q0 (show fnd (pgm m_X1_fewestPayments) 12 = some (13, 0, 0, 0, 0, []) from rfl)
set_option maxRecDepth 100000 in
theorem s_X1_fewestPayments_13 {d : Nat} {l0 l1 l2 l3 l4 : AV} {st : List AV} {i x : Int} {o : Nat} {σ : Sg} {Q : AV → Sg → Prop} (hi : 0 ≤ w32 i ∧ w32 i < al σ 1 o) : Rn d m_X1_fewestPayments 13 [l0, l1, l2, l3, l4] (vI x :: vI i :: vR o :: st) σ Q ↔ Rn d m_X1_fewestPayments 14 [l0, l1, l2, l3, l4] st (up σ o (w32 i) x) Q := q29 (show fnd (pgm m_X1_fewestPayments) 13 = some (14, 29, 0, 0, 0, []) from rfl) hi
set_option maxRecDepth 100000 in
theorem s_X1_fewestPayments_14 {d : Nat} {l0 l1 l2 l3 l4 : AV} {st : List AV} {σ : Sg} {Q : AV → Sg → Prop}  : Rn d m_X1_fewestPayments 14 [l0, l1, l2, l3, l4] st σ Q ↔ Rn d m_X1_fewestPayments 15 [l0, l1, l2, l3, l4] (vI 1 :: st) σ Q := q0 (show fnd (pgm m_X1_fewestPayments) 14 = some (15, 0, 1, 0, 0, []) from rfl)
set_option maxRecDepth 100000 in
theorem s_X1_fewestPayments_15 {d : Nat} {l0 l1 l2 l3 l4 : AV} {st : List AV} {x : Int} {σ : Sg} {Q : AV → Sg → Prop}  : Rn d m_X1_fewestPayments 15 [l0, l1, l2, l3, l4] (vI x :: st) σ Q ↔ Rn d m_X1_fewestPayments 16 [l0, vI x, l2, l3, l4] st σ Q := q6 (show fnd (pgm m_X1_fewestPayments) 15 = some (16, 6, 0, 1, 0, []) from rfl) (by decide : 1 < 5)
set_option maxRecDepth 100000 in
theorem s_X1_fewestPayments_16 {d : Nat} {l0 l2 l3 l4 : AV} {st : List AV} {x : Int} {σ : Sg} {Q : AV → Sg → Prop}  : Rn d m_X1_fewestPayments 16 [l0, vI x, l2, l3, l4] st σ Q ↔ Rn d m_X1_fewestPayments 17 [l0, vI x, l2, l3, l4] (vI x :: st) σ Q := q3 (show fnd (pgm m_X1_fewestPayments) 16 = some (17, 3, 0, 1, 0, []) from rfl) rfl
set_option maxRecDepth 100000 in
theorem s_X1_fewestPayments_17 {d : Nat} {l0 l1 l2 l3 l4 : AV} {st : List AV} {σ : Sg} {Q : AV → Sg → Prop}  : Rn d m_X1_fewestPayments 17 [l0, l1, l2, l3, l4] st σ Q ↔ Rn d m_X1_fewestPayments 19 [l0, l1, l2, l3, l4] (vI 64 :: st) σ Q := q0 (show fnd (pgm m_X1_fewestPayments) 17 = some (19, 0, 64, 1, 0, []) from rfl)
set_option maxRecDepth 100000 in
theorem s_X1_fewestPayments_19 {d : Nat} {l0 l1 l2 l3 l4 : AV} {st : List AV} {a b : Int} {σ : Sg} {Q : AV → Sg → Prop}  : Rn d m_X1_fewestPayments 19 [l0, l1, l2, l3, l4] (vI b :: vI a :: st) σ Q ↔ if w32 b ≤ w32 a then Rn d m_X1_fewestPayments 121 [l0, l1, l2, l3, l4] st σ Q else Rn d m_X1_fewestPayments 22 [l0, l1, l2, l3, l4] st σ Q := q20_3 (show fnd (pgm m_X1_fewestPayments) 19 = some (22, 20, 0, 3, 121, []) from rfl)
set_option maxRecDepth 100000 in
theorem s_X1_fewestPayments_22 {d : Nat} {l0 l2 l3 l4 : AV} {st : List AV} {x : Int} {σ : Sg} {Q : AV → Sg → Prop}  : Rn d m_X1_fewestPayments 22 [l0, vI x, l2, l3, l4] st σ Q ↔ Rn d m_X1_fewestPayments 23 [l0, vI x, l2, l3, l4] (vI x :: st) σ Q := q3 (show fnd (pgm m_X1_fewestPayments) 22 = some (23, 3, 0, 1, 0, []) from rfl) rfl
set_option maxRecDepth 100000 in
theorem s_X1_fewestPayments_23 {d : Nat} {l0 l1 l2 l3 l4 : AV} {st : List AV}  {a0 : Int} {σ : Sg} {Q : AV → Sg → Prop} (h4 : st.length ≤ 4) : Rn d m_X1_fewestPayments 23 [l0, l1, l2, l3, l4] (vI a0 :: st) σ Q ↔ ∃ r σ1, Ev d m_J6_numberOfTrailingZeros_0f7a4 [vI a0] σ r σ1 ∧ Rn d m_X1_fewestPayments 26 [l0, l1, l2, l3, l4] (psh r st) σ1 Q := q35 (show fnd (pgm m_X1_fewestPayments) 23 = some (26, 35, 56, 175, 1, []) from rfl) ⟨⟨by simp, by simpa using h4⟩, rfl⟩
set_option maxRecDepth 100000 in
theorem s_X1_fewestPayments_26 {d : Nat} {l0 l1 l2 l3 l4 : AV} {st : List AV} {x : Int} {σ : Sg} {Q : AV → Sg → Prop}  : Rn d m_X1_fewestPayments 26 [l0, l1, l2, l3, l4] (vI x :: st) σ Q ↔ Rn d m_X1_fewestPayments 27 [l0, l1, vI x, l3, l4] st σ Q := q6 (show fnd (pgm m_X1_fewestPayments) 26 = some (27, 6, 0, 2, 0, []) from rfl) (by decide : 2 < 5)
set_option maxRecDepth 100000 in
theorem s_X1_fewestPayments_27 {d : Nat} {l1 l2 l3 l4 : AV} {st : List AV} {o : Nat} {σ : Sg} {Q : AV → Sg → Prop} (ho : o ≠ 0) : Rn d m_X1_fewestPayments 27 [vR o, l1, l2, l3, l4] st σ Q ↔ Rn d m_X1_fewestPayments 28 [vR o, l1, l2, l3, l4] (vR o :: st) σ Q := q5 (show fnd (pgm m_X1_fewestPayments) 27 = some (28, 5, 0, 0, 0, []) from rfl) rfl ho
set_option maxRecDepth 100000 in
theorem s_X1_fewestPayments_28 {d : Nat} {l0 l1 l2 l3 l4 : AV} {st : List AV} {o : Nat} {σ : Sg} {Q : AV → Sg → Prop} (hk : kn σ o = (0, 1)) : Rn d m_X1_fewestPayments 28 [l0, l1, l2, l3, l4] (vR o :: st) σ Q ↔ Rn d m_X1_fewestPayments 31 [l0, l1, l2, l3, l4] (vR (tp o 9) :: st) σ Q := q33 (show fnd (pgm m_X1_fewestPayments) 28 = some (31, 33, 40, 1, 9, []) from rfl) hk
set_option maxRecDepth 100000 in
theorem s_X1_fewestPayments_31 {d : Nat} {l0 l2 l3 l4 : AV} {st : List AV} {x : Int} {σ : Sg} {Q : AV → Sg → Prop}  : Rn d m_X1_fewestPayments 31 [l0, vI x, l2, l3, l4] st σ Q ↔ Rn d m_X1_fewestPayments 32 [l0, vI x, l2, l3, l4] (vI x :: st) σ Q := q3 (show fnd (pgm m_X1_fewestPayments) 31 = some (32, 3, 0, 1, 0, []) from rfl) rfl
set_option maxRecDepth 100000 in
theorem s_X1_fewestPayments_32 {d : Nat} {l1 l2 l3 l4 : AV} {st : List AV} {o : Nat} {σ : Sg} {Q : AV → Sg → Prop} (ho : o ≠ 0) : Rn d m_X1_fewestPayments 32 [vR o, l1, l2, l3, l4] st σ Q ↔ Rn d m_X1_fewestPayments 33 [vR o, l1, l2, l3, l4] (vR o :: st) σ Q := q5 (show fnd (pgm m_X1_fewestPayments) 32 = some (33, 5, 0, 0, 0, []) from rfl) rfl ho
set_option maxRecDepth 100000 in
theorem s_X1_fewestPayments_33 {d : Nat} {l0 l1 l2 l3 l4 : AV} {st : List AV} {o : Nat} {σ : Sg} {Q : AV → Sg → Prop} (hk : kn σ o = (0, 1)) : Rn d m_X1_fewestPayments 33 [l0, l1, l2, l3, l4] (vR o :: st) σ Q ↔ Rn d m_X1_fewestPayments 36 [l0, l1, l2, l3, l4] (vR (tp o 9) :: st) σ Q := q33 (show fnd (pgm m_X1_fewestPayments) 33 = some (36, 33, 40, 1, 9, []) from rfl) hk
set_option maxRecDepth 100000 in
theorem s_X1_fewestPayments_36 {d : Nat} {l0 l2 l3 l4 : AV} {st : List AV} {x : Int} {σ : Sg} {Q : AV → Sg → Prop}  : Rn d m_X1_fewestPayments 36 [l0, vI x, l2, l3, l4] st σ Q ↔ Rn d m_X1_fewestPayments 37 [l0, vI x, l2, l3, l4] (vI x :: st) σ Q := q3 (show fnd (pgm m_X1_fewestPayments) 36 = some (37, 3, 0, 1, 0, []) from rfl) rfl
set_option maxRecDepth 100000 in
theorem s_X1_fewestPayments_37 {d : Nat} {l0 l1 l2 l3 l4 : AV} {st : List AV} {σ : Sg} {Q : AV → Sg → Prop}  : Rn d m_X1_fewestPayments 37 [l0, l1, l2, l3, l4] st σ Q ↔ Rn d m_X1_fewestPayments 38 [l0, l1, l2, l3, l4] (vI 1 :: st) σ Q := q0 (show fnd (pgm m_X1_fewestPayments) 37 = some (38, 0, 1, 0, 0, []) from rfl)
set_option maxRecDepth 100000 in
theorem s_X1_fewestPayments_38 {d : Nat} {l0 l1 l3 l4 : AV} {st : List AV} {x : Int} {σ : Sg} {Q : AV → Sg → Prop}  : Rn d m_X1_fewestPayments 38 [l0, l1, vI x, l3, l4] st σ Q ↔ Rn d m_X1_fewestPayments 39 [l0, l1, vI x, l3, l4] (vI x :: st) σ Q := q3 (show fnd (pgm m_X1_fewestPayments) 38 = some (39, 3, 0, 2, 0, []) from rfl) rfl
set_option maxRecDepth 100000 in
theorem s_X1_fewestPayments_39 {d : Nat} {l0 l1 l2 l3 l4 : AV} {st : List AV} {a b : Int} {σ : Sg} {Q : AV → Sg → Prop}  : Rn d m_X1_fewestPayments 39 [l0, l1, l2, l3, l4] (vI b :: vI a :: st) σ Q ↔ Rn d m_X1_fewestPayments 40 [l0, l1, l2, l3, l4] (vI (shl32 a b) :: st) σ Q := q10_8 (show fnd (pgm m_X1_fewestPayments) 39 = some (40, 10, 0, 8, 0, []) from rfl)
set_option maxRecDepth 100000 in
theorem s_X1_fewestPayments_40 {d : Nat} {l0 l1 l2 l3 l4 : AV} {st : List AV} {a b : Int} {σ : Sg} {Q : AV → Sg → Prop}  : Rn d m_X1_fewestPayments 40 [l0, l1, l2, l3, l4] (vI b :: vI a :: st) σ Q ↔ Rn d m_X1_fewestPayments 41 [l0, l1, l2, l3, l4] (vI (xor32 a b) :: st) σ Q := q10_7 (show fnd (pgm m_X1_fewestPayments) 40 = some (41, 10, 0, 7, 0, []) from rfl)
set_option maxRecDepth 100000 in
theorem s_X1_fewestPayments_41 {d : Nat} {l0 l1 l2 l3 l4 : AV} {st : List AV} {i : Int} {o : Nat} {σ : Sg} {Q : AV → Sg → Prop} (hi : 0 ≤ w32 i ∧ w32 i < al σ 1 o) : Rn d m_X1_fewestPayments 41 [l0, l1, l2, l3, l4] (vI i :: vR o :: st) σ Q ↔ Rn d m_X1_fewestPayments 42 [l0, l1, l2, l3, l4] (vI (σ o (w32 i)) :: st) σ Q := q25 (show fnd (pgm m_X1_fewestPayments) 41 = some (42, 25, 0, 0, 0, []) from rfl) hi
set_option maxRecDepth 100000 in
theorem s_X1_fewestPayments_42 {d : Nat} {l1 l2 l3 l4 : AV} {st : List AV} {o : Nat} {σ : Sg} {Q : AV → Sg → Prop} (ho : o ≠ 0) : Rn d m_X1_fewestPayments 42 [vR o, l1, l2, l3, l4] st σ Q ↔ Rn d m_X1_fewestPayments 43 [vR o, l1, l2, l3, l4] (vR o :: st) σ Q := q5 (show fnd (pgm m_X1_fewestPayments) 42 = some (43, 5, 0, 0, 0, []) from rfl) rfl ho
set_option maxRecDepth 100000 in
theorem s_X1_fewestPayments_43 {d : Nat} {l0 l1 l3 l4 : AV} {st : List AV} {x : Int} {σ : Sg} {Q : AV → Sg → Prop}  : Rn d m_X1_fewestPayments 43 [l0, l1, vI x, l3, l4] st σ Q ↔ Rn d m_X1_fewestPayments 44 [l0, l1, vI x, l3, l4] (vI x :: st) σ Q := q3 (show fnd (pgm m_X1_fewestPayments) 43 = some (44, 3, 0, 2, 0, []) from rfl) rfl
set_option maxRecDepth 100000 in
theorem s_X1_fewestPayments_44 {d : Nat} {l0 l1 l2 l3 l4 : AV} {st : List AV} {o : Nat} {a0 : Int} {σ : Sg} {Q : AV → Sg → Prop} (h4 : st.length ≤ 4) (hk : kn σ o = (0, 1)) : Rn d m_X1_fewestPayments 44 [l0, l1, l2, l3, l4] (vI a0 :: vR o :: st) σ Q ↔ ∃ r σ1, Ev d m_X1_balance [vR o, vI a0] σ r σ1 ∧ Rn d m_X1_fewestPayments 47 [l0, l1, l2, l3, l4] (psh r st) σ1 Q := q35 (show fnd (pgm m_X1_fewestPayments) 44 = some (47, 35, 62, 17, 2, []) from rfl) ⟨⟨by simp, by simpa using h4⟩, (by simp only [List.take, List.reverse, List.reverseAux, rcv]; rw [if_neg (by decide +kernel)]; exact decide_eq_true hk)⟩
set_option maxRecDepth 100000 in
theorem s_X1_fewestPayments_47 {d : Nat} {l0 l1 l2 l3 l4 : AV} {st : List AV} {a b : Int} {σ : Sg} {Q : AV → Sg → Prop}  : Rn d m_X1_fewestPayments 47 [l0, l1, l2, l3, l4] (vI b :: vI a :: st) σ Q ↔ Rn d m_X1_fewestPayments 48 [l0, l1, l2, l3, l4] (vI (a + b) :: st) σ Q := q10_0 (show fnd (pgm m_X1_fewestPayments) 47 = some (48, 10, 0, 0, 0, []) from rfl)
set_option maxRecDepth 100000 in
theorem s_X1_fewestPayments_48 {d : Nat} {l0 l1 l2 l3 l4 : AV} {st : List AV} {i x : Int} {o : Nat} {σ : Sg} {Q : AV → Sg → Prop} (hi : 0 ≤ w32 i ∧ w32 i < al σ 1 o) : Rn d m_X1_fewestPayments 48 [l0, l1, l2, l3, l4] (vI x :: vI i :: vR o :: st) σ Q ↔ Rn d m_X1_fewestPayments 49 [l0, l1, l2, l3, l4] st (up σ o (w32 i) x) Q := q29 (show fnd (pgm m_X1_fewestPayments) 48 = some (49, 29, 0, 0, 0, []) from rfl) hi
set_option maxRecDepth 100000 in
theorem s_X1_fewestPayments_49 {d : Nat} {l0 l1 l2 l3 l4 : AV} {st : List AV} {σ : Sg} {Q : AV → Sg → Prop}  : Rn d m_X1_fewestPayments 49 [l0, l1, l2, l3, l4] st σ Q ↔ Rn d m_X1_fewestPayments 50 [l0, l1, l2, l3, l4] (vI 0 :: st) σ Q := q0 (show fnd (pgm m_X1_fewestPayments) 49 = some (50, 0, 0, 0, 0, []) from rfl)
set_option maxRecDepth 100000 in
theorem s_X1_fewestPayments_50 {d : Nat} {l0 l1 l2 l3 l4 : AV} {st : List AV} {x : Int} {σ : Sg} {Q : AV → Sg → Prop}  : Rn d m_X1_fewestPayments 50 [l0, l1, l2, l3, l4] (vI x :: st) σ Q ↔ Rn d m_X1_fewestPayments 51 [l0, l1, l2, vI x, l4] st σ Q := q6 (show fnd (pgm m_X1_fewestPayments) 50 = some (51, 6, 0, 3, 0, []) from rfl) (by decide : 3 < 5)
set_option maxRecDepth 100000 in
theorem s_X1_fewestPayments_51 {d : Nat} {l0 l1 l2 l3 l4 : AV} {st : List AV} {σ : Sg} {Q : AV → Sg → Prop}  : Rn d m_X1_fewestPayments 51 [l0, l1, l2, l3, l4] st σ Q ↔ Rn d m_X1_fewestPayments 52 [l0, l1, l2, l3, l4] (vI 0 :: st) σ Q := q0 (show fnd (pgm m_X1_fewestPayments) 51 = some (52, 0, 0, 0, 0, []) from rfl)
set_option maxRecDepth 100000 in
theorem s_X1_fewestPayments_52 {d : Nat} {l0 l1 l2 l3 l4 : AV} {st : List AV} {x : Int} {σ : Sg} {Q : AV → Sg → Prop}  : Rn d m_X1_fewestPayments 52 [l0, l1, l2, l3, l4] (vI x :: st) σ Q ↔ Rn d m_X1_fewestPayments 54 [l0, l1, l2, l3, vI x] st σ Q := q6 (show fnd (pgm m_X1_fewestPayments) 52 = some (54, 6, 0, 4, 1, []) from rfl) (by decide : 4 < 5)
set_option maxRecDepth 100000 in
theorem s_X1_fewestPayments_54 {d : Nat} {l0 l1 l2 l3 : AV} {st : List AV} {x : Int} {σ : Sg} {Q : AV → Sg → Prop}  : Rn d m_X1_fewestPayments 54 [l0, l1, l2, l3, vI x] st σ Q ↔ Rn d m_X1_fewestPayments 56 [l0, l1, l2, l3, vI x] (vI x :: st) σ Q := q3 (show fnd (pgm m_X1_fewestPayments) 54 = some (56, 3, 0, 4, 1, []) from rfl) rfl
set_option maxRecDepth 100000 in
theorem s_X1_fewestPayments_56 {d : Nat} {l0 l1 l2 l3 l4 : AV} {st : List AV} {σ : Sg} {Q : AV → Sg → Prop}  : Rn d m_X1_fewestPayments 56 [l0, l1, l2, l3, l4] st σ Q ↔ Rn d m_X1_fewestPayments 58 [l0, l1, l2, l3, l4] (vI 6 :: st) σ Q := q0 (show fnd (pgm m_X1_fewestPayments) 56 = some (58, 0, 6, 1, 0, []) from rfl)
set_option maxRecDepth 100000 in
theorem s_X1_fewestPayments_58 {d : Nat} {l0 l1 l2 l3 l4 : AV} {st : List AV} {a b : Int} {σ : Sg} {Q : AV → Sg → Prop}  : Rn d m_X1_fewestPayments 58 [l0, l1, l2, l3, l4] (vI b :: vI a :: st) σ Q ↔ if w32 b ≤ w32 a then Rn d m_X1_fewestPayments 93 [l0, l1, l2, l3, l4] st σ Q else Rn d m_X1_fewestPayments 61 [l0, l1, l2, l3, l4] st σ Q := q20_3 (show fnd (pgm m_X1_fewestPayments) 58 = some (61, 20, 0, 3, 93, []) from rfl)
set_option maxRecDepth 100000 in
theorem s_X1_fewestPayments_61 {d : Nat} {l0 l2 l3 l4 : AV} {st : List AV} {x : Int} {σ : Sg} {Q : AV → Sg → Prop}  : Rn d m_X1_fewestPayments 61 [l0, vI x, l2, l3, l4] st σ Q ↔ Rn d m_X1_fewestPayments 62 [l0, vI x, l2, l3, l4] (vI x :: st) σ Q := q3 (show fnd (pgm m_X1_fewestPayments) 61 = some (62, 3, 0, 1, 0, []) from rfl) rfl
set_option maxRecDepth 100000 in
theorem s_X1_fewestPayments_62 {d : Nat} {l0 l1 l2 l3 : AV} {st : List AV} {x : Int} {σ : Sg} {Q : AV → Sg → Prop}  : Rn d m_X1_fewestPayments 62 [l0, l1, l2, l3, vI x] st σ Q ↔ Rn d m_X1_fewestPayments 64 [l0, l1, l2, l3, vI x] (vI x :: st) σ Q := q3 (show fnd (pgm m_X1_fewestPayments) 62 = some (64, 3, 0, 4, 1, []) from rfl) rfl
set_option maxRecDepth 100000 in
theorem s_X1_fewestPayments_64 {d : Nat} {l0 l1 l2 l3 l4 : AV} {st : List AV} {a b : Int} {σ : Sg} {Q : AV → Sg → Prop}  : Rn d m_X1_fewestPayments 64 [l0, l1, l2, l3, l4] (vI b :: vI a :: st) σ Q ↔ Rn d m_X1_fewestPayments 65 [l0, l1, l2, l3, l4] (vI (shr32 a b) :: st) σ Q := q10_9 (show fnd (pgm m_X1_fewestPayments) 64 = some (65, 10, 0, 9, 0, []) from rfl)
set_option maxRecDepth 100000 in
theorem s_X1_fewestPayments_65 {d : Nat} {l0 l1 l2 l3 l4 : AV} {st : List AV} {σ : Sg} {Q : AV → Sg → Prop}  : Rn d m_X1_fewestPayments 65 [l0, l1, l2, l3, l4] st σ Q ↔ Rn d m_X1_fewestPayments 66 [l0, l1, l2, l3, l4] (vI 1 :: st) σ Q := q0 (show fnd (pgm m_X1_fewestPayments) 65 = some (66, 0, 1, 0, 0, []) from rfl)
set_option maxRecDepth 100000 in
theorem s_X1_fewestPayments_66 {d : Nat} {l0 l1 l2 l3 l4 : AV} {st : List AV} {a b : Int} {σ : Sg} {Q : AV → Sg → Prop}  : Rn d m_X1_fewestPayments 66 [l0, l1, l2, l3, l4] (vI b :: vI a :: st) σ Q ↔ Rn d m_X1_fewestPayments 67 [l0, l1, l2, l3, l4] (vI (and32 a b) :: st) σ Q := q10_5 (show fnd (pgm m_X1_fewestPayments) 66 = some (67, 10, 0, 5, 0, []) from rfl)
set_option maxRecDepth 100000 in
theorem s_X1_fewestPayments_67 {d : Nat} {l0 l1 l2 l3 l4 : AV} {st : List AV} {σ : Sg} {Q : AV → Sg → Prop}  : Rn d m_X1_fewestPayments 67 [l0, l1, l2, l3, l4] st σ Q ↔ Rn d m_X1_fewestPayments 68 [l0, l1, l2, l3, l4] (vI 1 :: st) σ Q := q0 (show fnd (pgm m_X1_fewestPayments) 67 = some (68, 0, 1, 0, 0, []) from rfl)
set_option maxRecDepth 100000 in
theorem s_X1_fewestPayments_68 {d : Nat} {l0 l1 l2 l3 l4 : AV} {st : List AV} {a b : Int} {σ : Sg} {Q : AV → Sg → Prop}  : Rn d m_X1_fewestPayments 68 [l0, l1, l2, l3, l4] (vI b :: vI a :: st) σ Q ↔ if ¬ w32 a = w32 b then Rn d m_X1_fewestPayments 87 [l0, l1, l2, l3, l4] st σ Q else Rn d m_X1_fewestPayments 71 [l0, l1, l2, l3, l4] st σ Q := q20_1 (show fnd (pgm m_X1_fewestPayments) 68 = some (71, 20, 0, 1, 87, []) from rfl)
set_option maxRecDepth 100000 in
theorem s_X1_fewestPayments_71 {d : Nat} {l0 l1 l2 l4 : AV} {st : List AV} {x : Int} {σ : Sg} {Q : AV → Sg → Prop}  : Rn d m_X1_fewestPayments 71 [l0, l1, l2, vI x, l4] st σ Q ↔ Rn d m_X1_fewestPayments 72 [l0, l1, l2, vI x, l4] (vI x :: st) σ Q := q3 (show fnd (pgm m_X1_fewestPayments) 71 = some (72, 3, 0, 3, 0, []) from rfl) rfl
set_option maxRecDepth 100000 in
theorem s_X1_fewestPayments_72 {d : Nat} {l1 l2 l3 l4 : AV} {st : List AV} {o : Nat} {σ : Sg} {Q : AV → Sg → Prop} (ho : o ≠ 0) : Rn d m_X1_fewestPayments 72 [vR o, l1, l2, l3, l4] st σ Q ↔ Rn d m_X1_fewestPayments 73 [vR o, l1, l2, l3, l4] (vR o :: st) σ Q := q5 (show fnd (pgm m_X1_fewestPayments) 72 = some (73, 5, 0, 0, 0, []) from rfl) rfl ho
set_option maxRecDepth 100000 in
theorem s_X1_fewestPayments_73 {d : Nat} {l0 l1 l2 l3 l4 : AV} {st : List AV} {o : Nat} {σ : Sg} {Q : AV → Sg → Prop} (hk : kn σ o = (0, 1)) : Rn d m_X1_fewestPayments 73 [l0, l1, l2, l3, l4] (vR o :: st) σ Q ↔ Rn d m_X1_fewestPayments 76 [l0, l1, l2, l3, l4] (vR (tp o 10) :: st) σ Q := q33 (show fnd (pgm m_X1_fewestPayments) 73 = some (76, 33, 43, 1, 10, []) from rfl) hk
set_option maxRecDepth 100000 in
theorem s_X1_fewestPayments_76 {d : Nat} {l0 l2 l3 l4 : AV} {st : List AV} {x : Int} {σ : Sg} {Q : AV → Sg → Prop}  : Rn d m_X1_fewestPayments 76 [l0, vI x, l2, l3, l4] st σ Q ↔ Rn d m_X1_fewestPayments 77 [l0, vI x, l2, l3, l4] (vI x :: st) σ Q := q3 (show fnd (pgm m_X1_fewestPayments) 76 = some (77, 3, 0, 1, 0, []) from rfl) rfl
set_option maxRecDepth 100000 in
theorem s_X1_fewestPayments_77 {d : Nat} {l0 l1 l2 l3 l4 : AV} {st : List AV} {σ : Sg} {Q : AV → Sg → Prop}  : Rn d m_X1_fewestPayments 77 [l0, l1, l2, l3, l4] st σ Q ↔ Rn d m_X1_fewestPayments 78 [l0, l1, l2, l3, l4] (vI 1 :: st) σ Q := q0 (show fnd (pgm m_X1_fewestPayments) 77 = some (78, 0, 1, 0, 0, []) from rfl)
set_option maxRecDepth 100000 in
theorem s_X1_fewestPayments_78 {d : Nat} {l0 l1 l2 l3 : AV} {st : List AV} {x : Int} {σ : Sg} {Q : AV → Sg → Prop}  : Rn d m_X1_fewestPayments 78 [l0, l1, l2, l3, vI x] st σ Q ↔ Rn d m_X1_fewestPayments 80 [l0, l1, l2, l3, vI x] (vI x :: st) σ Q := q3 (show fnd (pgm m_X1_fewestPayments) 78 = some (80, 3, 0, 4, 1, []) from rfl) rfl
set_option maxRecDepth 100000 in
theorem s_X1_fewestPayments_80 {d : Nat} {l0 l1 l2 l3 l4 : AV} {st : List AV} {a b : Int} {σ : Sg} {Q : AV → Sg → Prop}  : Rn d m_X1_fewestPayments 80 [l0, l1, l2, l3, l4] (vI b :: vI a :: st) σ Q ↔ Rn d m_X1_fewestPayments 81 [l0, l1, l2, l3, l4] (vI (shl32 a b) :: st) σ Q := q10_8 (show fnd (pgm m_X1_fewestPayments) 80 = some (81, 10, 0, 8, 0, []) from rfl)
set_option maxRecDepth 100000 in
theorem s_X1_fewestPayments_81 {d : Nat} {l0 l1 l2 l3 l4 : AV} {st : List AV} {a b : Int} {σ : Sg} {Q : AV → Sg → Prop}  : Rn d m_X1_fewestPayments 81 [l0, l1, l2, l3, l4] (vI b :: vI a :: st) σ Q ↔ Rn d m_X1_fewestPayments 82 [l0, l1, l2, l3, l4] (vI (xor32 a b) :: st) σ Q := q10_7 (show fnd (pgm m_X1_fewestPayments) 81 = some (82, 10, 0, 7, 0, []) from rfl)
set_option maxRecDepth 100000 in
theorem s_X1_fewestPayments_82 {d : Nat} {l0 l1 l2 l3 l4 : AV} {st : List AV} {i : Int} {o : Nat} {σ : Sg} {Q : AV → Sg → Prop} (hi : 0 ≤ w32 i ∧ w32 i < al σ 1 o) : Rn d m_X1_fewestPayments 82 [l0, l1, l2, l3, l4] (vI i :: vR o :: st) σ Q ↔ Rn d m_X1_fewestPayments 83 [l0, l1, l2, l3, l4] (vI (σ o (w32 i)) :: st) σ Q := q25 (show fnd (pgm m_X1_fewestPayments) 82 = some (83, 25, 0, 0, 0, []) from rfl) hi
set_option maxRecDepth 100000 in
theorem s_X1_fewestPayments_83 {d : Nat} {l0 l1 l2 l3 l4 : AV} {st : List AV} {a b : Int} {σ : Sg} {Q : AV → Sg → Prop} (h4 : st.length ≤ 4) : Rn d m_X1_fewestPayments 83 [l0, l1, l2, l3, l4] (vI b :: vI a :: st) σ Q ↔ Rn d m_X1_fewestPayments 86 [l0, l1, l2, l3, l4] (vI (if w32 a < w32 b then b else a) :: st) σ Q := q43 (show fnd (pgm m_X1_fewestPayments) 83 = some (86, 43, 65, 0, 0, []) from rfl) h4
set_option maxRecDepth 100000 in
theorem s_X1_fewestPayments_86 {d : Nat} {l0 l1 l2 l3 l4 : AV} {st : List AV} {x : Int} {σ : Sg} {Q : AV → Sg → Prop}  : Rn d m_X1_fewestPayments 86 [l0, l1, l2, l3, l4] (vI x :: st) σ Q ↔ Rn d m_X1_fewestPayments 87 [l0, l1, l2, vI x, l4] st σ Q := q6 (show fnd (pgm m_X1_fewestPayments) 86 = some (87, 6, 0, 3, 0, []) from rfl) (by decide : 3 < 5)
set_option maxRecDepth 100000 in
theorem s_X1_fewestPayments_87 {d : Nat} {l0 l1 l2 l3 : AV} {st : List AV} {x : Int} {σ : Sg} {Q : AV → Sg → Prop}  : Rn d m_X1_fewestPayments 87 [l0, l1, l2, l3, vI x] st σ Q ↔ Rn d m_X1_fewestPayments 90 [l0, l1, l2, l3, vI (x + 1)] st σ Q := q9 (show fnd (pgm m_X1_fewestPayments) 87 = some (90, 9, 1, 4, 0, []) from rfl) rfl
set_option maxRecDepth 100000 in
theorem s_X1_fewestPayments_90 {d : Nat} {l0 l1 l2 l3 l4 : AV} {st : List AV} {σ : Sg} {Q : AV → Sg → Prop}  : Rn d m_X1_fewestPayments 90 [l0, l1, l2, l3, l4] st σ Q ↔ Rn d m_X1_fewestPayments 54 [l0, l1, l2, l3, l4] st σ Q := q21 (show fnd (pgm m_X1_fewestPayments) 90 = some (93, 21, 0, 0, 54, []) from rfl)
set_option maxRecDepth 100000 in
theorem s_X1_fewestPayments_93 {d : Nat} {l1 l2 l3 l4 : AV} {st : List AV} {o : Nat} {σ : Sg} {Q : AV → Sg → Prop} (ho : o ≠ 0) : Rn d m_X1_fewestPayments 93 [vR o, l1, l2, l3, l4] st σ Q ↔ Rn d m_X1_fewestPayments 94 [vR o, l1, l2, l3, l4] (vR o :: st) σ Q := q5 (show fnd (pgm m_X1_fewestPayments) 93 = some (94, 5, 0, 0, 0, []) from rfl) rfl ho
set_option maxRecDepth 100000 in
theorem s_X1_fewestPayments_94 {d : Nat} {l0 l1 l2 l3 l4 : AV} {st : List AV} {o : Nat} {σ : Sg} {Q : AV → Sg → Prop} (hk : kn σ o = (0, 1)) : Rn d m_X1_fewestPayments 94 [l0, l1, l2, l3, l4] (vR o :: st) σ Q ↔ Rn d m_X1_fewestPayments 97 [l0, l1, l2, l3, l4] (vR (tp o 10) :: st) σ Q := q33 (show fnd (pgm m_X1_fewestPayments) 94 = some (97, 33, 43, 1, 10, []) from rfl) hk
set_option maxRecDepth 100000 in
theorem s_X1_fewestPayments_97 {d : Nat} {l0 l2 l3 l4 : AV} {st : List AV} {x : Int} {σ : Sg} {Q : AV → Sg → Prop}  : Rn d m_X1_fewestPayments 97 [l0, vI x, l2, l3, l4] st σ Q ↔ Rn d m_X1_fewestPayments 98 [l0, vI x, l2, l3, l4] (vI x :: st) σ Q := q3 (show fnd (pgm m_X1_fewestPayments) 97 = some (98, 3, 0, 1, 0, []) from rfl) rfl
set_option maxRecDepth 100000 in
theorem s_X1_fewestPayments_98 {d : Nat} {l0 l1 l2 l4 : AV} {st : List AV} {x : Int} {σ : Sg} {Q : AV → Sg → Prop}  : Rn d m_X1_fewestPayments 98 [l0, l1, l2, vI x, l4] st σ Q ↔ Rn d m_X1_fewestPayments 99 [l0, l1, l2, vI x, l4] (vI x :: st) σ Q := q3 (show fnd (pgm m_X1_fewestPayments) 98 = some (99, 3, 0, 3, 0, []) from rfl) rfl
set_option maxRecDepth 100000 in
theorem s_X1_fewestPayments_99 {d : Nat} {l1 l2 l3 l4 : AV} {st : List AV} {o : Nat} {σ : Sg} {Q : AV → Sg → Prop} (ho : o ≠ 0) : Rn d m_X1_fewestPayments 99 [vR o, l1, l2, l3, l4] st σ Q ↔ Rn d m_X1_fewestPayments 100 [vR o, l1, l2, l3, l4] (vR o :: st) σ Q := q5 (show fnd (pgm m_X1_fewestPayments) 99 = some (100, 5, 0, 0, 0, []) from rfl) rfl ho
set_option maxRecDepth 100000 in
theorem s_X1_fewestPayments_100 {d : Nat} {l0 l1 l2 l3 l4 : AV} {st : List AV} {o : Nat} {σ : Sg} {Q : AV → Sg → Prop} (hk : kn σ o = (0, 1)) : Rn d m_X1_fewestPayments 100 [l0, l1, l2, l3, l4] (vR o :: st) σ Q ↔ Rn d m_X1_fewestPayments 103 [l0, l1, l2, l3, l4] (vR (tp o 9) :: st) σ Q := q33 (show fnd (pgm m_X1_fewestPayments) 100 = some (103, 33, 40, 1, 9, []) from rfl) hk
set_option maxRecDepth 100000 in
theorem s_X1_fewestPayments_103 {d : Nat} {l0 l2 l3 l4 : AV} {st : List AV} {x : Int} {σ : Sg} {Q : AV → Sg → Prop}  : Rn d m_X1_fewestPayments 103 [l0, vI x, l2, l3, l4] st σ Q ↔ Rn d m_X1_fewestPayments 104 [l0, vI x, l2, l3, l4] (vI x :: st) σ Q := q3 (show fnd (pgm m_X1_fewestPayments) 103 = some (104, 3, 0, 1, 0, []) from rfl) rfl
set_option maxRecDepth 100000 in
theorem s_X1_fewestPayments_104 {d : Nat} {l0 l1 l2 l3 l4 : AV} {st : List AV} {i : Int} {o : Nat} {σ : Sg} {Q : AV → Sg → Prop} (hi : 0 ≤ w32 i ∧ w32 i < al σ 1 o) : Rn d m_X1_fewestPayments 104 [l0, l1, l2, l3, l4] (vI i :: vR o :: st) σ Q ↔ Rn d m_X1_fewestPayments 105 [l0, l1, l2, l3, l4] (vI (σ o (w32 i)) :: st) σ Q := q25 (show fnd (pgm m_X1_fewestPayments) 104 = some (105, 25, 0, 0, 0, []) from rfl) hi
set_option maxRecDepth 100000 in
theorem s_X1_fewestPayments_105 {d : Nat} {l0 l1 l2 l3 l4 : AV} {st : List AV} {a : Int} {σ : Sg} {Q : AV → Sg → Prop}  : Rn d m_X1_fewestPayments 105 [l0, l1, l2, l3, l4] (vI a :: st) σ Q ↔ if ¬ w32 a = 0 then Rn d m_X1_fewestPayments 112 [l0, l1, l2, l3, l4] st σ Q else Rn d m_X1_fewestPayments 108 [l0, l1, l2, l3, l4] st σ Q := q19_1 (show fnd (pgm m_X1_fewestPayments) 105 = some (108, 19, 0, 1, 112, []) from rfl)
set_option maxRecDepth 100000 in
theorem s_X1_fewestPayments_108 {d : Nat} {l0 l1 l2 l3 l4 : AV} {st : List AV} {σ : Sg} {Q : AV → Sg → Prop}  : Rn d m_X1_fewestPayments 108 [l0, l1, l2, l3, l4] st σ Q ↔ Rn d m_X1_fewestPayments 109 [l0, l1, l2, l3, l4] (vI 1 :: st) σ Q := q0 (show fnd (pgm m_X1_fewestPayments) 108 = some (109, 0, 1, 0, 0, []) from rfl)
set_option maxRecDepth 100000 in
theorem s_X1_fewestPayments_109 {d : Nat} {l0 l1 l2 l3 l4 : AV} {st : List AV} {σ : Sg} {Q : AV → Sg → Prop}  : Rn d m_X1_fewestPayments 109 [l0, l1, l2, l3, l4] st σ Q ↔ Rn d m_X1_fewestPayments 113 [l0, l1, l2, l3, l4] st σ Q := q21 (show fnd (pgm m_X1_fewestPayments) 109 = some (112, 21, 0, 0, 113, []) from rfl)
set_option maxRecDepth 100000 in
theorem s_X1_fewestPayments_112 {d : Nat} {l0 l1 l2 l3 l4 : AV} {st : List AV} {σ : Sg} {Q : AV → Sg → Prop}  : Rn d m_X1_fewestPayments 112 [l0, l1, l2, l3, l4] st σ Q ↔ Rn d m_X1_fewestPayments 113 [l0, l1, l2, l3, l4] (vI 0 :: st) σ Q := q0 (show fnd (pgm m_X1_fewestPayments) 112 = some (113, 0, 0, 0, 0, []) from rfl)
set_option maxRecDepth 100000 in
theorem s_X1_fewestPayments_113 {d : Nat} {l0 l1 l2 l3 l4 : AV} {st : List AV} {a b : Int} {σ : Sg} {Q : AV → Sg → Prop}  : Rn d m_X1_fewestPayments 113 [l0, l1, l2, l3, l4] (vI b :: vI a :: st) σ Q ↔ Rn d m_X1_fewestPayments 114 [l0, l1, l2, l3, l4] (vI (a + b) :: st) σ Q := q10_0 (show fnd (pgm m_X1_fewestPayments) 113 = some (114, 10, 0, 0, 0, []) from rfl)
set_option maxRecDepth 100000 in
theorem s_X1_fewestPayments_114 {d : Nat} {l0 l1 l2 l3 l4 : AV} {st : List AV} {i x : Int} {o : Nat} {σ : Sg} {Q : AV → Sg → Prop} (hi : 0 ≤ w32 i ∧ w32 i < al σ 1 o) : Rn d m_X1_fewestPayments 114 [l0, l1, l2, l3, l4] (vI x :: vI i :: vR o :: st) σ Q ↔ Rn d m_X1_fewestPayments 115 [l0, l1, l2, l3, l4] st (up σ o (w32 i) x) Q := q29 (show fnd (pgm m_X1_fewestPayments) 114 = some (115, 29, 0, 0, 0, []) from rfl) hi
set_option maxRecDepth 100000 in
theorem s_X1_fewestPayments_115 {d : Nat} {l0 l2 l3 l4 : AV} {st : List AV} {x : Int} {σ : Sg} {Q : AV → Sg → Prop}  : Rn d m_X1_fewestPayments 115 [l0, vI x, l2, l3, l4] st σ Q ↔ Rn d m_X1_fewestPayments 118 [l0, vI (x + 1), l2, l3, l4] st σ Q := q9 (show fnd (pgm m_X1_fewestPayments) 115 = some (118, 9, 1, 1, 0, []) from rfl) rfl
set_option maxRecDepth 100000 in
theorem s_X1_fewestPayments_118 {d : Nat} {l0 l1 l2 l3 l4 : AV} {st : List AV} {σ : Sg} {Q : AV → Sg → Prop}  : Rn d m_X1_fewestPayments 118 [l0, l1, l2, l3, l4] st σ Q ↔ Rn d m_X1_fewestPayments 16 [l0, l1, l2, l3, l4] st σ Q := q21 (show fnd (pgm m_X1_fewestPayments) 118 = some (121, 21, 0, 0, 16, []) from rfl)
set_option maxRecDepth 100000 in
theorem s_X1_fewestPayments_121 {d : Nat} {l0 l1 l2 l3 l4 : AV} {st : List AV} {σ : Sg} {Q : AV → Sg → Prop}  : Rn d m_X1_fewestPayments 121 [l0, l1, l2, l3, l4] st σ Q ↔ Rn d m_X1_fewestPayments 123 [l0, l1, l2, l3, l4] (vI 6 :: st) σ Q := q0 (show fnd (pgm m_X1_fewestPayments) 121 = some (123, 0, 6, 1, 0, []) from rfl)
set_option maxRecDepth 100000 in
theorem s_X1_fewestPayments_123 {d : Nat} {l1 l2 l3 l4 : AV} {st : List AV} {o : Nat} {σ : Sg} {Q : AV → Sg → Prop} (ho : o ≠ 0) : Rn d m_X1_fewestPayments 123 [vR o, l1, l2, l3, l4] st σ Q ↔ Rn d m_X1_fewestPayments 124 [vR o, l1, l2, l3, l4] (vR o :: st) σ Q := q5 (show fnd (pgm m_X1_fewestPayments) 123 = some (124, 5, 0, 0, 0, []) from rfl) rfl ho
set_option maxRecDepth 100000 in
theorem s_X1_fewestPayments_124 {d : Nat} {l0 l1 l2 l3 l4 : AV} {st : List AV} {o : Nat} {σ : Sg} {Q : AV → Sg → Prop} (hk : kn σ o = (0, 1)) : Rn d m_X1_fewestPayments 124 [l0, l1, l2, l3, l4] (vR o :: st) σ Q ↔ Rn d m_X1_fewestPayments 127 [l0, l1, l2, l3, l4] (vR (tp o 10) :: st) σ Q := q33 (show fnd (pgm m_X1_fewestPayments) 124 = some (127, 33, 43, 1, 10, []) from rfl) hk
set_option maxRecDepth 100000 in
theorem s_X1_fewestPayments_127 {d : Nat} {l0 l1 l2 l3 l4 : AV} {st : List AV} {σ : Sg} {Q : AV → Sg → Prop}  : Rn d m_X1_fewestPayments 127 [l0, l1, l2, l3, l4] st σ Q ↔ Rn d m_X1_fewestPayments 129 [l0, l1, l2, l3, l4] (vI 63 :: st) σ Q := q0 (show fnd (pgm m_X1_fewestPayments) 127 = some (129, 0, 63, 1, 0, []) from rfl)
set_option maxRecDepth 100000 in
theorem s_X1_fewestPayments_129 {d : Nat} {l0 l1 l2 l3 l4 : AV} {st : List AV} {i : Int} {o : Nat} {σ : Sg} {Q : AV → Sg → Prop} (hi : 0 ≤ w32 i ∧ w32 i < al σ 1 o) : Rn d m_X1_fewestPayments 129 [l0, l1, l2, l3, l4] (vI i :: vR o :: st) σ Q ↔ Rn d m_X1_fewestPayments 130 [l0, l1, l2, l3, l4] (vI (σ o (w32 i)) :: st) σ Q := q25 (show fnd (pgm m_X1_fewestPayments) 129 = some (130, 25, 0, 0, 0, []) from rfl) hi
set_option maxRecDepth 100000 in
theorem s_X1_fewestPayments_130 {d : Nat} {l0 l1 l2 l3 l4 : AV} {st : List AV} {a b : Int} {σ : Sg} {Q : AV → Sg → Prop}  : Rn d m_X1_fewestPayments 130 [l0, l1, l2, l3, l4] (vI b :: vI a :: st) σ Q ↔ Rn d m_X1_fewestPayments 131 [l0, l1, l2, l3, l4] (vI (a - b) :: st) σ Q := q10_1 (show fnd (pgm m_X1_fewestPayments) 130 = some (131, 10, 0, 1, 0, []) from rfl)
set_option maxRecDepth 100000 in
theorem s_X1_fewestPayments_131 {d : Nat} {l0 l1 l2 l3 l4 : AV} {x : Int} {σ : Sg} {Q : AV → Sg → Prop}  : Rn d m_X1_fewestPayments 131 [l0, l1, l2, l3, l4] [vI x] σ Q ↔ Q (vI x) σ := q37_1 (st := []) (show fnd (pgm m_X1_fewestPayments) 131 = some (132, 37, 0, 1, 0, []) from rfl)
set_option maxRecDepth 100000 in
theorem en_X2_tell {d : Nat} {o : Nat} {a0 : Int} {a1 : Int} {a2 : Int} {a3 : Int} {a4 : Int} {σ σ0 : Sg} {r0 : AV} (h : Rn d m_X2_tell 0 [vR o, vI a0, vI a1, vI a2, vI a3, vI a4] [] σ (fun r σ1 => r = r0 ∧ σ1 = σ0)) : Ev (d + 1) m_X2_tell [vR o, vI a0, vI a1, vI a2, vI a3, vI a4] σ r0 σ0 := Ev_is (Nat.le_of_ble_eq_true rfl) h
set_option maxRecDepth 100000 in
theorem eo_X2_tell {d : Nat} {o : Nat} {a0 : Int} {a1 : Int} {a2 : Int} {a3 : Int} {a4 : Int} {σ : Sg} {Q : AV → Sg → Prop} (h : Rn d m_X2_tell 0 [vR o, vI a0, vI a1, vI a2, vI a3, vI a4] [] σ Q) : ∃ r σ1, Ev (d + 1) m_X2_tell [vR o, vI a0, vI a1, vI a2, vI a3, vI a4] σ r σ1 ∧ Q r σ1 := Ev_of (Nat.le_of_ble_eq_true rfl) h
set_option maxRecDepth 100000 in
theorem s_X2_tell_0 {d : Nat} {l1 l2 l3 l4 l5 : AV} {st : List AV} {o : Nat} {σ : Sg} {Q : AV → Sg → Prop} (ho : o ≠ 0) : Rn d m_X2_tell 0 [vR o, l1, l2, l3, l4, l5] st σ Q ↔ Rn d m_X2_tell 1 [vR o, l1, l2, l3, l4, l5] (vR o :: st) σ Q := q5 (show fnd (pgm m_X2_tell) 0 = some (1, 5, 0, 0, 0, []) from rfl) rfl ho
set_option maxRecDepth 100000 in
theorem s_X2_tell_1 {d : Nat} {l0 l1 l2 l3 l4 l5 : AV} {st : List AV} {o : Nat} {σ : Sg} {Q : AV → Sg → Prop} (hk : kn σ o = (0, 2)) : Rn d m_X2_tell 1 [l0, l1, l2, l3, l4, l5] (vR o :: st) σ Q ↔ Rn d m_X2_tell 4 [l0, l1, l2, l3, l4, l5] (vR (tp o 0) :: st) σ Q := q33 (show fnd (pgm m_X2_tell) 1 = some (4, 33, 9, 2, 0, []) from rfl) hk
set_option maxRecDepth 100000 in
theorem s_X2_tell_4 {d : Nat} {l0 l2 l3 l4 l5 : AV} {st : List AV} {x : Int} {σ : Sg} {Q : AV → Sg → Prop}  : Rn d m_X2_tell 4 [l0, vI x, l2, l3, l4, l5] st σ Q ↔ Rn d m_X2_tell 5 [l0, vI x, l2, l3, l4, l5] (vI x :: st) σ Q := q3 (show fnd (pgm m_X2_tell) 4 = some (5, 3, 0, 1, 0, []) from rfl) rfl
set_option maxRecDepth 100000 in
theorem s_X2_tell_5 {d : Nat} {l0 l1 l3 l4 l5 : AV} {st : List AV} {x : Int} {σ : Sg} {Q : AV → Sg → Prop}  : Rn d m_X2_tell 5 [l0, l1, vI x, l3, l4, l5] st σ Q ↔ Rn d m_X2_tell 6 [l0, l1, vI x, l3, l4, l5] (vI x :: st) σ Q := q3 (show fnd (pgm m_X2_tell) 5 = some (6, 3, 0, 2, 0, []) from rfl) rfl
set_option maxRecDepth 100000 in
theorem s_X2_tell_6 {d : Nat} {l0 l1 l2 l3 l4 l5 : AV} {st : List AV} {i x : Int} {o : Nat} {σ : Sg} {Q : AV → Sg → Prop} (hi : 0 ≤ w32 i ∧ w32 i < al σ 1 o) : Rn d m_X2_tell 6 [l0, l1, l2, l3, l4, l5] (vI x :: vI i :: vR o :: st) σ Q ↔ Rn d m_X2_tell 7 [l0, l1, l2, l3, l4, l5] st (up σ o (w32 i) x) Q := q29 (show fnd (pgm m_X2_tell) 6 = some (7, 29, 0, 0, 0, []) from rfl) hi
set_option maxRecDepth 100000 in
theorem s_X2_tell_7 {d : Nat} {l1 l2 l3 l4 l5 : AV} {st : List AV} {o : Nat} {σ : Sg} {Q : AV → Sg → Prop} (ho : o ≠ 0) : Rn d m_X2_tell 7 [vR o, l1, l2, l3, l4, l5] st σ Q ↔ Rn d m_X2_tell 8 [vR o, l1, l2, l3, l4, l5] (vR o :: st) σ Q := q5 (show fnd (pgm m_X2_tell) 7 = some (8, 5, 0, 0, 0, []) from rfl) rfl ho
set_option maxRecDepth 100000 in
theorem s_X2_tell_8 {d : Nat} {l0 l1 l2 l3 l4 l5 : AV} {st : List AV} {o : Nat} {σ : Sg} {Q : AV → Sg → Prop} (hk : kn σ o = (0, 2)) : Rn d m_X2_tell 8 [l0, l1, l2, l3, l4, l5] (vR o :: st) σ Q ↔ Rn d m_X2_tell 11 [l0, l1, l2, l3, l4, l5] (vR (tp o 1) :: st) σ Q := q33 (show fnd (pgm m_X2_tell) 8 = some (11, 33, 15, 2, 1, []) from rfl) hk
set_option maxRecDepth 100000 in
theorem s_X2_tell_11 {d : Nat} {l0 l2 l3 l4 l5 : AV} {st : List AV} {x : Int} {σ : Sg} {Q : AV → Sg → Prop}  : Rn d m_X2_tell 11 [l0, vI x, l2, l3, l4, l5] st σ Q ↔ Rn d m_X2_tell 12 [l0, vI x, l2, l3, l4, l5] (vI x :: st) σ Q := q3 (show fnd (pgm m_X2_tell) 11 = some (12, 3, 0, 1, 0, []) from rfl) rfl
set_option maxRecDepth 100000 in
theorem s_X2_tell_12 {d : Nat} {l0 l1 l2 l4 l5 : AV} {st : List AV} {x : Int} {σ : Sg} {Q : AV → Sg → Prop}  : Rn d m_X2_tell 12 [l0, l1, l2, vI x, l4, l5] st σ Q ↔ Rn d m_X2_tell 13 [l0, l1, l2, vI x, l4, l5] (vI x :: st) σ Q := q3 (show fnd (pgm m_X2_tell) 12 = some (13, 3, 0, 3, 0, []) from rfl) rfl
set_option maxRecDepth 100000 in
theorem s_X2_tell_13 {d : Nat} {l0 l1 l2 l3 l4 l5 : AV} {st : List AV} {i x : Int} {o : Nat} {σ : Sg} {Q : AV → Sg → Prop} (hi : 0 ≤ w32 i ∧ w32 i < al σ 1 o) : Rn d m_X2_tell 13 [l0, l1, l2, l3, l4, l5] (vI x :: vI i :: vR o :: st) σ Q ↔ Rn d m_X2_tell 14 [l0, l1, l2, l3, l4, l5] st (up σ o (w32 i) x) Q := q29 (show fnd (pgm m_X2_tell) 13 = some (14, 29, 0, 0, 0, []) from rfl) hi
set_option maxRecDepth 100000 in
theorem s_X2_tell_14 {d : Nat} {l1 l2 l3 l4 l5 : AV} {st : List AV} {o : Nat} {σ : Sg} {Q : AV → Sg → Prop} (ho : o ≠ 0) : Rn d m_X2_tell 14 [vR o, l1, l2, l3, l4, l5] st σ Q ↔ Rn d m_X2_tell 15 [vR o, l1, l2, l3, l4, l5] (vR o :: st) σ Q := q5 (show fnd (pgm m_X2_tell) 14 = some (15, 5, 0, 0, 0, []) from rfl) rfl ho
set_option maxRecDepth 100000 in
theorem s_X2_tell_15 {d : Nat} {l0 l1 l2 l3 l4 l5 : AV} {st : List AV} {o : Nat} {σ : Sg} {Q : AV → Sg → Prop} (hk : kn σ o = (0, 2)) : Rn d m_X2_tell 15 [l0, l1, l2, l3, l4, l5] (vR o :: st) σ Q ↔ Rn d m_X2_tell 18 [l0, l1, l2, l3, l4, l5] (vR (tp o 2) :: st) σ Q := q33 (show fnd (pgm m_X2_tell) 15 = some (18, 33, 18, 2, 2, []) from rfl) hk
set_option maxRecDepth 100000 in
theorem s_X2_tell_18 {d : Nat} {l0 l2 l3 l4 l5 : AV} {st : List AV} {x : Int} {σ : Sg} {Q : AV → Sg → Prop}  : Rn d m_X2_tell 18 [l0, vI x, l2, l3, l4, l5] st σ Q ↔ Rn d m_X2_tell 19 [l0, vI x, l2, l3, l4, l5] (vI x :: st) σ Q := q3 (show fnd (pgm m_X2_tell) 18 = some (19, 3, 0, 1, 0, []) from rfl) rfl
set_option maxRecDepth 100000 in
theorem s_X2_tell_19 {d : Nat} {l0 l1 l2 l3 l5 : AV} {st : List AV} {x : Int} {σ : Sg} {Q : AV → Sg → Prop}  : Rn d m_X2_tell 19 [l0, l1, l2, l3, vI x, l5] st σ Q ↔ Rn d m_X2_tell 21 [l0, l1, l2, l3, vI x, l5] (vI x :: st) σ Q := q3 (show fnd (pgm m_X2_tell) 19 = some (21, 3, 0, 4, 1, []) from rfl) rfl
set_option maxRecDepth 100000 in
theorem s_X2_tell_21 {d : Nat} {l0 l1 l2 l3 l4 l5 : AV} {st : List AV} {i x : Int} {o : Nat} {σ : Sg} {Q : AV → Sg → Prop} (hi : 0 ≤ w32 i ∧ w32 i < al σ 1 o) : Rn d m_X2_tell 21 [l0, l1, l2, l3, l4, l5] (vI x :: vI i :: vR o :: st) σ Q ↔ Rn d m_X2_tell 22 [l0, l1, l2, l3, l4, l5] st (up σ o (w32 i) x) Q := q29 (show fnd (pgm m_X2_tell) 21 = some (22, 29, 0, 0, 0, []) from rfl) hi
set_option maxRecDepth 100000 in
theorem s_X2_tell_22 {d : Nat} {l1 l2 l3 l4 l5 : AV} {st : List AV} {o : Nat} {σ : Sg} {Q : AV → Sg → Prop} (ho : o ≠ 0) : Rn d m_X2_tell 22 [vR o, l1, l2, l3, l4, l5] st σ Q ↔ Rn d m_X2_tell 23 [vR o, l1, l2, l3, l4, l5] (vR o :: st) σ Q := q5 (show fnd (pgm m_X2_tell) 22 = some (23, 5, 0, 0, 0, []) from rfl) rfl ho
set_option maxRecDepth 100000 in
theorem s_X2_tell_23 {d : Nat} {l0 l1 l2 l3 l4 l5 : AV} {st : List AV} {o : Nat} {σ : Sg} {Q : AV → Sg → Prop} (hk : kn σ o = (0, 2)) : Rn d m_X2_tell 23 [l0, l1, l2, l3, l4, l5] (vR o :: st) σ Q ↔ Rn d m_X2_tell 26 [l0, l1, l2, l3, l4, l5] (vR (tp o 3) :: st) σ Q := q33 (show fnd (pgm m_X2_tell) 23 = some (26, 33, 21, 2, 3, []) from rfl) hk
set_option maxRecDepth 100000 in
theorem s_X2_tell_26 {d : Nat} {l0 l2 l3 l4 l5 : AV} {st : List AV} {x : Int} {σ : Sg} {Q : AV → Sg → Prop}  : Rn d m_X2_tell 26 [l0, vI x, l2, l3, l4, l5] st σ Q ↔ Rn d m_X2_tell 27 [l0, vI x, l2, l3, l4, l5] (vI x :: st) σ Q := q3 (show fnd (pgm m_X2_tell) 26 = some (27, 3, 0, 1, 0, []) from rfl) rfl
set_option maxRecDepth 100000 in
theorem s_X2_tell_27 {d : Nat} {l0 l1 l2 l3 l4 : AV} {st : List AV} {x : Int} {σ : Sg} {Q : AV → Sg → Prop}  : Rn d m_X2_tell 27 [l0, l1, l2, l3, l4, vI x] st σ Q ↔ Rn d m_X2_tell 29 [l0, l1, l2, l3, l4, vI x] (vI x :: st) σ Q := q3 (show fnd (pgm m_X2_tell) 27 = some (29, 3, 0, 5, 1, []) from rfl) rfl
set_option maxRecDepth 100000 in
theorem s_X2_tell_29 {d : Nat} {l0 l1 l2 l3 l4 l5 : AV} {st : List AV} {i x : Int} {o : Nat} {σ : Sg} {Q : AV → Sg → Prop} (hi : 0 ≤ w32 i ∧ w32 i < al σ 1 o) : Rn d m_X2_tell 29 [l0, l1, l2, l3, l4, l5] (vI x :: vI i :: vR o :: st) σ Q ↔ Rn d m_X2_tell 30 [l0, l1, l2, l3, l4, l5] st (up σ o (w32 i) x) Q := q29 (show fnd (pgm m_X2_tell) 29 = some (30, 29, 0, 0, 0, []) from rfl) hi
set_option maxRecDepth 100000 in
theorem s_X2_tell_30 {d : Nat} {l0 l1 l2 l3 l4 l5 : AV} {σ : Sg} {Q : AV → Sg → Prop}  : Rn d m_X2_tell 30 [l0, l1, l2, l3, l4, l5] [] σ Q ↔ Q none σ := q37_0 (st := []) (show fnd (pgm m_X2_tell) 30 = some (31, 37, 0, 0, 0, []) from rfl)
set_option maxRecDepth 100000 in
theorem en_X2_drawBy {d : Nat} {o : Nat} {a0 : Int} {σ σ0 : Sg} {r0 : AV} (h : Rn d m_X2_drawBy 0 [vR o, vI a0, none, none, none] [] σ (fun r σ1 => r = r0 ∧ σ1 = σ0)) : Ev (d + 1) m_X2_drawBy [vR o, vI a0] σ r0 σ0 := Ev_is (Nat.le_of_ble_eq_true rfl) h
set_option maxRecDepth 100000 in
theorem eo_X2_drawBy {d : Nat} {o : Nat} {a0 : Int} {σ : Sg} {Q : AV → Sg → Prop} (h : Rn d m_X2_drawBy 0 [vR o, vI a0, none, none, none] [] σ Q) : ∃ r σ1, Ev (d + 1) m_X2_drawBy [vR o, vI a0] σ r σ1 ∧ Q r σ1 := Ev_of (Nat.le_of_ble_eq_true rfl) h
set_option maxRecDepth 100000 in
theorem s_X2_drawBy_0 {d : Nat} {l0 l2 l3 l4 : AV} {st : List AV} {x : Int} {σ : Sg} {Q : AV → Sg → Prop}  : Rn d m_X2_drawBy 0 [l0, vI x, l2, l3, l4] st σ Q ↔ Rn d m_X2_drawBy 1 [l0, vI x, l2, l3, l4] (vI x :: st) σ Q := q3 (show fnd (pgm m_X2_drawBy) 0 = some (1, 3, 0, 1, 0, []) from rfl) rfl
set_option maxRecDepth 100000 in
theorem s_X2_drawBy_1 {d : Nat} {l0 l1 l2 l3 l4 : AV} {st : List AV} {a : Int} {σ : Sg} {Q : AV → Sg → Prop}  : Rn d m_X2_drawBy 1 [l0, l1, l2, l3, l4] (vI a :: st) σ Q ↔ Rn d m_X2_drawBy 2 [l0, l1, l2, l3, l4] (vL (w32 a) :: st) σ Q := q14 (show fnd (pgm m_X2_drawBy) 1 = some (2, 14, 0, 0, 0, []) from rfl)
set_option maxRecDepth 100000 in
theorem s_X2_drawBy_2 {d : Nat} {l0 l1 l2 l3 l4 : AV} {st : List AV} {x : Int} {σ : Sg} {Q : AV → Sg → Prop}  : Rn d m_X2_drawBy 2 [l0, l1, l2, l3, l4] (vL x :: st) σ Q ↔ Rn d m_X2_drawBy 3 [l0, l1, vL x, none, l4] st σ Q := q7 (show fnd (pgm m_X2_drawBy) 2 = some (3, 7, 0, 2, 0, []) from rfl) (by decide : 3 < 5)
set_option maxRecDepth 100000 in
theorem s_X2_drawBy_3 {d : Nat} {l0 l1 l2 l3 l4 : AV} {st : List AV} {σ : Sg} {Q : AV → Sg → Prop}  : Rn d m_X2_drawBy 3 [l0, l1, l2, l3, l4] st σ Q ↔ Rn d m_X2_drawBy 4 [l0, l1, l2, l3, l4] (vI 0 :: st) σ Q := q0 (show fnd (pgm m_X2_drawBy) 3 = some (4, 0, 0, 0, 0, []) from rfl)
set_option maxRecDepth 100000 in
theorem s_X2_drawBy_4 {d : Nat} {l0 l1 l2 l3 l4 : AV} {st : List AV} {x : Int} {σ : Sg} {Q : AV → Sg → Prop}  : Rn d m_X2_drawBy 4 [l0, l1, l2, l3, l4] (vI x :: st) σ Q ↔ Rn d m_X2_drawBy 6 [l0, l1, l2, l3, vI x] st σ Q := q6 (show fnd (pgm m_X2_drawBy) 4 = some (6, 6, 0, 4, 1, []) from rfl) (by decide : 4 < 5)
set_option maxRecDepth 100000 in
theorem s_X2_drawBy_6 {d : Nat} {l0 l1 l2 l3 : AV} {st : List AV} {x : Int} {σ : Sg} {Q : AV → Sg → Prop}  : Rn d m_X2_drawBy 6 [l0, l1, l2, l3, vI x] st σ Q ↔ Rn d m_X2_drawBy 8 [l0, l1, l2, l3, vI x] (vI x :: st) σ Q := q3 (show fnd (pgm m_X2_drawBy) 6 = some (8, 3, 0, 4, 1, []) from rfl) rfl
set_option maxRecDepth 100000 in
theorem s_X2_drawBy_8 {d : Nat} {l0 l1 l2 l3 l4 : AV} {st : List AV} {σ : Sg} {Q : AV → Sg → Prop}  : Rn d m_X2_drawBy 8 [l0, l1, l2, l3, l4] st σ Q ↔ Rn d m_X2_drawBy 10 [l0, l1, l2, l3, l4] (vI 20 :: st) σ Q := q0 (show fnd (pgm m_X2_drawBy) 8 = some (10, 0, 20, 1, 0, []) from rfl)
set_option maxRecDepth 100000 in
theorem s_X2_drawBy_10 {d : Nat} {l0 l1 l2 l3 l4 : AV} {st : List AV} {a b : Int} {σ : Sg} {Q : AV → Sg → Prop}  : Rn d m_X2_drawBy 10 [l0, l1, l2, l3, l4] (vI b :: vI a :: st) σ Q ↔ if w32 b ≤ w32 a then Rn d m_X2_drawBy 89 [l0, l1, l2, l3, l4] st σ Q else Rn d m_X2_drawBy 13 [l0, l1, l2, l3, l4] st σ Q := q20_3 (show fnd (pgm m_X2_drawBy) 10 = some (13, 20, 0, 3, 89, []) from rfl)
set_option maxRecDepth 100000 in
theorem s_X2_drawBy_13 {d : Nat} {l0 l1 l4 : AV} {st : List AV} {x : Int} {σ : Sg} {Q : AV → Sg → Prop}  : Rn d m_X2_drawBy 13 [l0, l1, vL x, none, l4] st σ Q ↔ Rn d m_X2_drawBy 14 [l0, l1, vL x, none, l4] (vL x :: st) σ Q := q4 (show fnd (pgm m_X2_drawBy) 13 = some (14, 4, 0, 2, 0, []) from rfl) rfl rfl
set_option maxRecDepth 100000 in
theorem s_X2_drawBy_14 {d : Nat} {l0 l1 l2 l3 l4 : AV} {st : List AV}  {a0 : Int} {σ : Sg} {Q : AV → Sg → Prop} (h4 : st.length ≤ 4) : Rn d m_X2_drawBy 14 [l0, l1, l2, l3, l4] (vL a0 :: st) σ Q ↔ ∃ r σ1, Ev d m_X2_drawnAfter [vL a0] σ r σ1 ∧ Rn d m_X2_drawBy 17 [l0, l1, l2, l3, l4] (psh r st) σ1 Q := q35 (show fnd (pgm m_X2_drawBy) 14 = some (17, 35, 24, 21, 1, []) from rfl) ⟨⟨by simp, by simpa using h4⟩, rfl⟩
set_option maxRecDepth 100000 in
theorem s_X2_drawBy_17 {d : Nat} {l0 l1 l2 l3 l4 : AV} {st : List AV} {x : Int} {σ : Sg} {Q : AV → Sg → Prop}  : Rn d m_X2_drawBy 17 [l0, l1, l2, l3, l4] (vL x :: st) σ Q ↔ Rn d m_X2_drawBy 18 [l0, l1, vL x, none, l4] st σ Q := q7 (show fnd (pgm m_X2_drawBy) 17 = some (18, 7, 0, 2, 0, []) from rfl) (by decide : 3 < 5)
set_option maxRecDepth 100000 in
theorem s_X2_drawBy_18 {d : Nat} {l1 l2 l3 l4 : AV} {st : List AV} {o : Nat} {σ : Sg} {Q : AV → Sg → Prop} (ho : o ≠ 0) : Rn d m_X2_drawBy 18 [vR o, l1, l2, l3, l4] st σ Q ↔ Rn d m_X2_drawBy 19 [vR o, l1, l2, l3, l4] (vR o :: st) σ Q := q5 (show fnd (pgm m_X2_drawBy) 18 = some (19, 5, 0, 0, 0, []) from rfl) rfl ho
set_option maxRecDepth 100000 in
theorem s_X2_drawBy_19 {d : Nat} {l0 l1 l2 l3 l4 : AV} {st : List AV} {o : Nat} {σ : Sg} {Q : AV → Sg → Prop} (hk : kn σ o = (0, 2)) : Rn d m_X2_drawBy 19 [l0, l1, l2, l3, l4] (vR o :: st) σ Q ↔ Rn d m_X2_drawBy 22 [l0, l1, l2, l3, l4] (vR (tp o 0) :: st) σ Q := q33 (show fnd (pgm m_X2_drawBy) 19 = some (22, 33, 9, 2, 0, []) from rfl) hk
set_option maxRecDepth 100000 in
theorem s_X2_drawBy_22 {d : Nat} {l0 l1 l2 l3 : AV} {st : List AV} {x : Int} {σ : Sg} {Q : AV → Sg → Prop}  : Rn d m_X2_drawBy 22 [l0, l1, l2, l3, vI x] st σ Q ↔ Rn d m_X2_drawBy 24 [l0, l1, l2, l3, vI x] (vI x :: st) σ Q := q3 (show fnd (pgm m_X2_drawBy) 22 = some (24, 3, 0, 4, 1, []) from rfl) rfl
set_option maxRecDepth 100000 in
theorem s_X2_drawBy_24 {d : Nat} {l0 l1 l4 : AV} {st : List AV} {x : Int} {σ : Sg} {Q : AV → Sg → Prop}  : Rn d m_X2_drawBy 24 [l0, l1, vL x, none, l4] st σ Q ↔ Rn d m_X2_drawBy 25 [l0, l1, vL x, none, l4] (vL x :: st) σ Q := q4 (show fnd (pgm m_X2_drawBy) 24 = some (25, 4, 0, 2, 0, []) from rfl) rfl rfl
set_option maxRecDepth 100000 in
theorem s_X2_drawBy_25 {d : Nat} {l0 l1 l2 l3 l4 : AV} {st : List AV} {σ : Sg} {Q : AV → Sg → Prop}  : Rn d m_X2_drawBy 25 [l0, l1, l2, l3, l4] st σ Q ↔ Rn d m_X2_drawBy 26 [l0, l1, l2, l3, l4] (vI 4 :: st) σ Q := q0 (show fnd (pgm m_X2_drawBy) 25 = some (26, 0, 4, 0, 0, []) from rfl)
set_option maxRecDepth 100000 in
theorem s_X2_drawBy_26 {d : Nat} {l0 l1 l2 l3 l4 : AV} {st : List AV}  {a0 : Int} {a1 : Int} {σ : Sg} {Q : AV → Sg → Prop} (h4 : st.length ≤ 4) : Rn d m_X2_drawBy 26 [l0, l1, l2, l3, l4] (vI a1 :: vL a0 :: st) σ Q ↔ ∃ r σ1, Ev d m_X2_figureOf [vL a0, vI a1] σ r σ1 ∧ Rn d m_X2_drawBy 29 [l0, l1, l2, l3, l4] (psh r st) σ1 Q := q35 (show fnd (pgm m_X2_drawBy) 26 = some (29, 35, 28, 22, 2, []) from rfl) ⟨⟨by simp, by simpa using h4⟩, rfl⟩
set_option maxRecDepth 100000 in
theorem s_X2_drawBy_29 {d : Nat} {l0 l1 l2 l3 l4 : AV} {st : List AV} {i x : Int} {o : Nat} {σ : Sg} {Q : AV → Sg → Prop} (hi : 0 ≤ w32 i ∧ w32 i < al σ 1 o) : Rn d m_X2_drawBy 29 [l0, l1, l2, l3, l4] (vI x :: vI i :: vR o :: st) σ Q ↔ Rn d m_X2_drawBy 30 [l0, l1, l2, l3, l4] st (up σ o (w32 i) x) Q := q29 (show fnd (pgm m_X2_drawBy) 29 = some (30, 29, 0, 0, 0, []) from rfl) hi
set_option maxRecDepth 100000 in
theorem s_X2_drawBy_30 {d : Nat} {l0 l1 l4 : AV} {st : List AV} {x : Int} {σ : Sg} {Q : AV → Sg → Prop}  : Rn d m_X2_drawBy 30 [l0, l1, vL x, none, l4] st σ Q ↔ Rn d m_X2_drawBy 31 [l0, l1, vL x, none, l4] (vL x :: st) σ Q := q4 (show fnd (pgm m_X2_drawBy) 30 = some (31, 4, 0, 2, 0, []) from rfl) rfl rfl
set_option maxRecDepth 100000 in
theorem s_X2_drawBy_31 {d : Nat} {l0 l1 l2 l3 l4 : AV} {st : List AV}  {a0 : Int} {σ : Sg} {Q : AV → Sg → Prop} (h4 : st.length ≤ 4) : Rn d m_X2_drawBy 31 [l0, l1, l2, l3, l4] (vL a0 :: st) σ Q ↔ ∃ r σ1, Ev d m_X2_drawnAfter [vL a0] σ r σ1 ∧ Rn d m_X2_drawBy 34 [l0, l1, l2, l3, l4] (psh r st) σ1 Q := q35 (show fnd (pgm m_X2_drawBy) 31 = some (34, 35, 24, 21, 1, []) from rfl) ⟨⟨by simp, by simpa using h4⟩, rfl⟩
set_option maxRecDepth 100000 in
theorem s_X2_drawBy_34 {d : Nat} {l0 l1 l2 l3 l4 : AV} {st : List AV} {x : Int} {σ : Sg} {Q : AV → Sg → Prop}  : Rn d m_X2_drawBy 34 [l0, l1, l2, l3, l4] (vL x :: st) σ Q ↔ Rn d m_X2_drawBy 35 [l0, l1, vL x, none, l4] st σ Q := q7 (show fnd (pgm m_X2_drawBy) 34 = some (35, 7, 0, 2, 0, []) from rfl) (by decide : 3 < 5)
set_option maxRecDepth 100000 in
theorem s_X2_drawBy_35 {d : Nat} {l1 l2 l3 l4 : AV} {st : List AV} {o : Nat} {σ : Sg} {Q : AV → Sg → Prop} (ho : o ≠ 0) : Rn d m_X2_drawBy 35 [vR o, l1, l2, l3, l4] st σ Q ↔ Rn d m_X2_drawBy 36 [vR o, l1, l2, l3, l4] (vR o :: st) σ Q := q5 (show fnd (pgm m_X2_drawBy) 35 = some (36, 5, 0, 0, 0, []) from rfl) rfl ho
set_option maxRecDepth 100000 in
theorem s_X2_drawBy_36 {d : Nat} {l0 l1 l2 l3 l4 : AV} {st : List AV} {o : Nat} {σ : Sg} {Q : AV → Sg → Prop} (hk : kn σ o = (0, 2)) : Rn d m_X2_drawBy 36 [l0, l1, l2, l3, l4] (vR o :: st) σ Q ↔ Rn d m_X2_drawBy 39 [l0, l1, l2, l3, l4] (vR (tp o 1) :: st) σ Q := q33 (show fnd (pgm m_X2_drawBy) 36 = some (39, 33, 15, 2, 1, []) from rfl) hk
set_option maxRecDepth 100000 in
theorem s_X2_drawBy_39 {d : Nat} {l0 l1 l2 l3 : AV} {st : List AV} {x : Int} {σ : Sg} {Q : AV → Sg → Prop}  : Rn d m_X2_drawBy 39 [l0, l1, l2, l3, vI x] st σ Q ↔ Rn d m_X2_drawBy 41 [l0, l1, l2, l3, vI x] (vI x :: st) σ Q := q3 (show fnd (pgm m_X2_drawBy) 39 = some (41, 3, 0, 4, 1, []) from rfl) rfl
set_option maxRecDepth 100000 in
theorem s_X2_drawBy_41 {d : Nat} {l0 l1 l4 : AV} {st : List AV} {x : Int} {σ : Sg} {Q : AV → Sg → Prop}  : Rn d m_X2_drawBy 41 [l0, l1, vL x, none, l4] st σ Q ↔ Rn d m_X2_drawBy 42 [l0, l1, vL x, none, l4] (vL x :: st) σ Q := q4 (show fnd (pgm m_X2_drawBy) 41 = some (42, 4, 0, 2, 0, []) from rfl) rfl rfl
set_option maxRecDepth 100000 in
theorem s_X2_drawBy_42 {d : Nat} {l0 l1 l2 l3 l4 : AV} {st : List AV} {σ : Sg} {Q : AV → Sg → Prop}  : Rn d m_X2_drawBy 42 [l0, l1, l2, l3, l4] st σ Q ↔ Rn d m_X2_drawBy 44 [l0, l1, l2, l3, l4] (vI 100 :: st) σ Q := q0 (show fnd (pgm m_X2_drawBy) 42 = some (44, 0, 100, 1, 0, []) from rfl)
set_option maxRecDepth 100000 in
theorem s_X2_drawBy_44 {d : Nat} {l0 l1 l2 l3 l4 : AV} {st : List AV}  {a0 : Int} {a1 : Int} {σ : Sg} {Q : AV → Sg → Prop} (h4 : st.length ≤ 4) : Rn d m_X2_drawBy 44 [l0, l1, l2, l3, l4] (vI a1 :: vL a0 :: st) σ Q ↔ ∃ r σ1, Ev d m_X2_figureOf [vL a0, vI a1] σ r σ1 ∧ Rn d m_X2_drawBy 47 [l0, l1, l2, l3, l4] (psh r st) σ1 Q := q35 (show fnd (pgm m_X2_drawBy) 44 = some (47, 35, 28, 22, 2, []) from rfl) ⟨⟨by simp, by simpa using h4⟩, rfl⟩
set_option maxRecDepth 100000 in
theorem s_X2_drawBy_47 {d : Nat} {l0 l1 l2 l3 l4 : AV} {st : List AV} {i x : Int} {o : Nat} {σ : Sg} {Q : AV → Sg → Prop} (hi : 0 ≤ w32 i ∧ w32 i < al σ 1 o) : Rn d m_X2_drawBy 47 [l0, l1, l2, l3, l4] (vI x :: vI i :: vR o :: st) σ Q ↔ Rn d m_X2_drawBy 48 [l0, l1, l2, l3, l4] st (up σ o (w32 i) x) Q := q29 (show fnd (pgm m_X2_drawBy) 47 = some (48, 29, 0, 0, 0, []) from rfl) hi
set_option maxRecDepth 100000 in
theorem s_X2_drawBy_48 {d : Nat} {l0 l1 l4 : AV} {st : List AV} {x : Int} {σ : Sg} {Q : AV → Sg → Prop}  : Rn d m_X2_drawBy 48 [l0, l1, vL x, none, l4] st σ Q ↔ Rn d m_X2_drawBy 49 [l0, l1, vL x, none, l4] (vL x :: st) σ Q := q4 (show fnd (pgm m_X2_drawBy) 48 = some (49, 4, 0, 2, 0, []) from rfl) rfl rfl
set_option maxRecDepth 100000 in
theorem s_X2_drawBy_49 {d : Nat} {l0 l1 l2 l3 l4 : AV} {st : List AV}  {a0 : Int} {σ : Sg} {Q : AV → Sg → Prop} (h4 : st.length ≤ 4) : Rn d m_X2_drawBy 49 [l0, l1, l2, l3, l4] (vL a0 :: st) σ Q ↔ ∃ r σ1, Ev d m_X2_drawnAfter [vL a0] σ r σ1 ∧ Rn d m_X2_drawBy 52 [l0, l1, l2, l3, l4] (psh r st) σ1 Q := q35 (show fnd (pgm m_X2_drawBy) 49 = some (52, 35, 24, 21, 1, []) from rfl) ⟨⟨by simp, by simpa using h4⟩, rfl⟩
set_option maxRecDepth 100000 in
theorem s_X2_drawBy_52 {d : Nat} {l0 l1 l2 l3 l4 : AV} {st : List AV} {x : Int} {σ : Sg} {Q : AV → Sg → Prop}  : Rn d m_X2_drawBy 52 [l0, l1, l2, l3, l4] (vL x :: st) σ Q ↔ Rn d m_X2_drawBy 53 [l0, l1, vL x, none, l4] st σ Q := q7 (show fnd (pgm m_X2_drawBy) 52 = some (53, 7, 0, 2, 0, []) from rfl) (by decide : 3 < 5)
set_option maxRecDepth 100000 in
theorem s_X2_drawBy_53 {d : Nat} {l1 l2 l3 l4 : AV} {st : List AV} {o : Nat} {σ : Sg} {Q : AV → Sg → Prop} (ho : o ≠ 0) : Rn d m_X2_drawBy 53 [vR o, l1, l2, l3, l4] st σ Q ↔ Rn d m_X2_drawBy 54 [vR o, l1, l2, l3, l4] (vR o :: st) σ Q := q5 (show fnd (pgm m_X2_drawBy) 53 = some (54, 5, 0, 0, 0, []) from rfl) rfl ho
set_option maxRecDepth 100000 in
theorem s_X2_drawBy_54 {d : Nat} {l0 l1 l2 l3 l4 : AV} {st : List AV} {o : Nat} {σ : Sg} {Q : AV → Sg → Prop} (hk : kn σ o = (0, 2)) : Rn d m_X2_drawBy 54 [l0, l1, l2, l3, l4] (vR o :: st) σ Q ↔ Rn d m_X2_drawBy 57 [l0, l1, l2, l3, l4] (vR (tp o 2) :: st) σ Q := q33 (show fnd (pgm m_X2_drawBy) 54 = some (57, 33, 18, 2, 2, []) from rfl) hk
set_option maxRecDepth 100000 in
theorem s_X2_drawBy_57 {d : Nat} {l0 l1 l2 l3 : AV} {st : List AV} {x : Int} {σ : Sg} {Q : AV → Sg → Prop}  : Rn d m_X2_drawBy 57 [l0, l1, l2, l3, vI x] st σ Q ↔ Rn d m_X2_drawBy 59 [l0, l1, l2, l3, vI x] (vI x :: st) σ Q := q3 (show fnd (pgm m_X2_drawBy) 57 = some (59, 3, 0, 4, 1, []) from rfl) rfl
set_option maxRecDepth 100000 in
theorem s_X2_drawBy_59 {d : Nat} {l0 l1 l4 : AV} {st : List AV} {x : Int} {σ : Sg} {Q : AV → Sg → Prop}  : Rn d m_X2_drawBy 59 [l0, l1, vL x, none, l4] st σ Q ↔ Rn d m_X2_drawBy 60 [l0, l1, vL x, none, l4] (vL x :: st) σ Q := q4 (show fnd (pgm m_X2_drawBy) 59 = some (60, 4, 0, 2, 0, []) from rfl) rfl rfl
set_option maxRecDepth 100000 in
theorem s_X2_drawBy_60 {d : Nat} {l0 l1 l2 l3 l4 : AV} {st : List AV} {σ : Sg} {Q : AV → Sg → Prop}  : Rn d m_X2_drawBy 60 [l0, l1, l2, l3, l4] st σ Q ↔ Rn d m_X2_drawBy 62 [l0, l1, l2, l3, l4] (vI 10 :: st) σ Q := q0 (show fnd (pgm m_X2_drawBy) 60 = some (62, 0, 10, 1, 0, []) from rfl)
set_option maxRecDepth 100000 in
theorem s_X2_drawBy_62 {d : Nat} {l0 l1 l2 l3 l4 : AV} {st : List AV}  {a0 : Int} {a1 : Int} {σ : Sg} {Q : AV → Sg → Prop} (h4 : st.length ≤ 4) : Rn d m_X2_drawBy 62 [l0, l1, l2, l3, l4] (vI a1 :: vL a0 :: st) σ Q ↔ ∃ r σ1, Ev d m_X2_figureOf [vL a0, vI a1] σ r σ1 ∧ Rn d m_X2_drawBy 65 [l0, l1, l2, l3, l4] (psh r st) σ1 Q := q35 (show fnd (pgm m_X2_drawBy) 62 = some (65, 35, 28, 22, 2, []) from rfl) ⟨⟨by simp, by simpa using h4⟩, rfl⟩
set_option maxRecDepth 100000 in
theorem s_X2_drawBy_65 {d : Nat} {l0 l1 l2 l3 l4 : AV} {st : List AV} {i x : Int} {o : Nat} {σ : Sg} {Q : AV → Sg → Prop} (hi : 0 ≤ w32 i ∧ w32 i < al σ 1 o) : Rn d m_X2_drawBy 65 [l0, l1, l2, l3, l4] (vI x :: vI i :: vR o :: st) σ Q ↔ Rn d m_X2_drawBy 66 [l0, l1, l2, l3, l4] st (up σ o (w32 i) x) Q := q29 (show fnd (pgm m_X2_drawBy) 65 = some (66, 29, 0, 0, 0, []) from rfl) hi
set_option maxRecDepth 100000 in
theorem s_X2_drawBy_66 {d : Nat} {l0 l1 l4 : AV} {st : List AV} {x : Int} {σ : Sg} {Q : AV → Sg → Prop}  : Rn d m_X2_drawBy 66 [l0, l1, vL x, none, l4] st σ Q ↔ Rn d m_X2_drawBy 67 [l0, l1, vL x, none, l4] (vL x :: st) σ Q := q4 (show fnd (pgm m_X2_drawBy) 66 = some (67, 4, 0, 2, 0, []) from rfl) rfl rfl
set_option maxRecDepth 100000 in
theorem s_X2_drawBy_67 {d : Nat} {l0 l1 l2 l3 l4 : AV} {st : List AV}  {a0 : Int} {σ : Sg} {Q : AV → Sg → Prop} (h4 : st.length ≤ 4) : Rn d m_X2_drawBy 67 [l0, l1, l2, l3, l4] (vL a0 :: st) σ Q ↔ ∃ r σ1, Ev d m_X2_drawnAfter [vL a0] σ r σ1 ∧ Rn d m_X2_drawBy 70 [l0, l1, l2, l3, l4] (psh r st) σ1 Q := q35 (show fnd (pgm m_X2_drawBy) 67 = some (70, 35, 24, 21, 1, []) from rfl) ⟨⟨by simp, by simpa using h4⟩, rfl⟩
set_option maxRecDepth 100000 in
theorem s_X2_drawBy_70 {d : Nat} {l0 l1 l2 l3 l4 : AV} {st : List AV} {x : Int} {σ : Sg} {Q : AV → Sg → Prop}  : Rn d m_X2_drawBy 70 [l0, l1, l2, l3, l4] (vL x :: st) σ Q ↔ Rn d m_X2_drawBy 71 [l0, l1, vL x, none, l4] st σ Q := q7 (show fnd (pgm m_X2_drawBy) 70 = some (71, 7, 0, 2, 0, []) from rfl) (by decide : 3 < 5)
set_option maxRecDepth 100000 in
theorem s_X2_drawBy_71 {d : Nat} {l1 l2 l3 l4 : AV} {st : List AV} {o : Nat} {σ : Sg} {Q : AV → Sg → Prop} (ho : o ≠ 0) : Rn d m_X2_drawBy 71 [vR o, l1, l2, l3, l4] st σ Q ↔ Rn d m_X2_drawBy 72 [vR o, l1, l2, l3, l4] (vR o :: st) σ Q := q5 (show fnd (pgm m_X2_drawBy) 71 = some (72, 5, 0, 0, 0, []) from rfl) rfl ho
set_option maxRecDepth 100000 in
theorem s_X2_drawBy_72 {d : Nat} {l0 l1 l2 l3 l4 : AV} {st : List AV} {o : Nat} {σ : Sg} {Q : AV → Sg → Prop} (hk : kn σ o = (0, 2)) : Rn d m_X2_drawBy 72 [l0, l1, l2, l3, l4] (vR o :: st) σ Q ↔ Rn d m_X2_drawBy 75 [l0, l1, l2, l3, l4] (vR (tp o 3) :: st) σ Q := q33 (show fnd (pgm m_X2_drawBy) 72 = some (75, 33, 21, 2, 3, []) from rfl) hk
set_option maxRecDepth 100000 in
theorem s_X2_drawBy_75 {d : Nat} {l0 l1 l2 l3 : AV} {st : List AV} {x : Int} {σ : Sg} {Q : AV → Sg → Prop}  : Rn d m_X2_drawBy 75 [l0, l1, l2, l3, vI x] st σ Q ↔ Rn d m_X2_drawBy 77 [l0, l1, l2, l3, vI x] (vI x :: st) σ Q := q3 (show fnd (pgm m_X2_drawBy) 75 = some (77, 3, 0, 4, 1, []) from rfl) rfl
set_option maxRecDepth 100000 in
theorem s_X2_drawBy_77 {d : Nat} {l0 l1 l4 : AV} {st : List AV} {x : Int} {σ : Sg} {Q : AV → Sg → Prop}  : Rn d m_X2_drawBy 77 [l0, l1, vL x, none, l4] st σ Q ↔ Rn d m_X2_drawBy 78 [l0, l1, vL x, none, l4] (vL x :: st) σ Q := q4 (show fnd (pgm m_X2_drawBy) 77 = some (78, 4, 0, 2, 0, []) from rfl) rfl rfl
set_option maxRecDepth 100000 in
theorem s_X2_drawBy_78 {d : Nat} {l0 l1 l2 l3 l4 : AV} {st : List AV} {σ : Sg} {Q : AV → Sg → Prop}  : Rn d m_X2_drawBy 78 [l0, l1, l2, l3, l4] st σ Q ↔ Rn d m_X2_drawBy 79 [l0, l1, l2, l3, l4] (vI 2 :: st) σ Q := q0 (show fnd (pgm m_X2_drawBy) 78 = some (79, 0, 2, 0, 0, []) from rfl)
set_option maxRecDepth 100000 in
theorem s_X2_drawBy_79 {d : Nat} {l0 l1 l2 l3 l4 : AV} {st : List AV}  {a0 : Int} {a1 : Int} {σ : Sg} {Q : AV → Sg → Prop} (h4 : st.length ≤ 4) : Rn d m_X2_drawBy 79 [l0, l1, l2, l3, l4] (vI a1 :: vL a0 :: st) σ Q ↔ ∃ r σ1, Ev d m_X2_figureOf [vL a0, vI a1] σ r σ1 ∧ Rn d m_X2_drawBy 82 [l0, l1, l2, l3, l4] (psh r st) σ1 Q := q35 (show fnd (pgm m_X2_drawBy) 79 = some (82, 35, 28, 22, 2, []) from rfl) ⟨⟨by simp, by simpa using h4⟩, rfl⟩
set_option maxRecDepth 100000 in
theorem s_X2_drawBy_82 {d : Nat} {l0 l1 l2 l3 l4 : AV} {st : List AV} {i x : Int} {o : Nat} {σ : Sg} {Q : AV → Sg → Prop} (hi : 0 ≤ w32 i ∧ w32 i < al σ 1 o) : Rn d m_X2_drawBy 82 [l0, l1, l2, l3, l4] (vI x :: vI i :: vR o :: st) σ Q ↔ Rn d m_X2_drawBy 83 [l0, l1, l2, l3, l4] st (up σ o (w32 i) x) Q := q29 (show fnd (pgm m_X2_drawBy) 82 = some (83, 29, 0, 0, 0, []) from rfl) hi
set_option maxRecDepth 100000 in
theorem s_X2_drawBy_83 {d : Nat} {l0 l1 l2 l3 : AV} {st : List AV} {x : Int} {σ : Sg} {Q : AV → Sg → Prop}  : Rn d m_X2_drawBy 83 [l0, l1, l2, l3, vI x] st σ Q ↔ Rn d m_X2_drawBy 86 [l0, l1, l2, l3, vI (x + 1)] st σ Q := q9 (show fnd (pgm m_X2_drawBy) 83 = some (86, 9, 1, 4, 0, []) from rfl) rfl
set_option maxRecDepth 100000 in
theorem s_X2_drawBy_86 {d : Nat} {l0 l1 l2 l3 l4 : AV} {st : List AV} {σ : Sg} {Q : AV → Sg → Prop}  : Rn d m_X2_drawBy 86 [l0, l1, l2, l3, l4] st σ Q ↔ Rn d m_X2_drawBy 6 [l0, l1, l2, l3, l4] st σ Q := q21 (show fnd (pgm m_X2_drawBy) 86 = some (89, 21, 0, 0, 6, []) from rfl)
set_option maxRecDepth 100000 in
theorem s_X2_drawBy_89 {d : Nat} {l0 l1 l2 l3 l4 : AV} {σ : Sg} {Q : AV → Sg → Prop}  : Rn d m_X2_drawBy 89 [l0, l1, l2, l3, l4] [] σ Q ↔ Q none σ := q37_0 (st := []) (show fnd (pgm m_X2_drawBy) 89 = some (90, 37, 0, 0, 0, []) from rfl)
set_option maxRecDepth 100000 in
theorem en_X2_drawnAfter {d : Nat} {a0 : Int} {σ σ0 : Sg} {r0 : AV} (h : Rn d m_X2_drawnAfter 0 [vL a0, none] [] σ (fun r σ1 => r = r0 ∧ σ1 = σ0)) : Ev (d + 1) m_X2_drawnAfter [vL a0] σ r0 σ0 := Ev_is (Nat.le_of_ble_eq_true rfl) h
set_option maxRecDepth 100000 in
theorem eo_X2_drawnAfter {d : Nat} {a0 : Int} {σ : Sg} {Q : AV → Sg → Prop} (h : Rn d m_X2_drawnAfter 0 [vL a0, none] [] σ Q) : ∃ r σ1, Ev (d + 1) m_X2_drawnAfter [vL a0] σ r σ1 ∧ Q r σ1 := Ev_of (Nat.le_of_ble_eq_true rfl) h
set_option maxRecDepth 100000 in
theorem s_X2_drawnAfter_0 {d : Nat} {st : List AV} {x : Int} {σ : Sg} {Q : AV → Sg → Prop}  : Rn d m_X2_drawnAfter 0 [vL x, none] st σ Q ↔ Rn d m_X2_drawnAfter 1 [vL x, none] (vL x :: st) σ Q := q4 (show fnd (pgm m_X2_drawnAfter) 0 = some (1, 4, 0, 0, 0, []) from rfl) rfl rfl
set_option maxRecDepth 100000 in
theorem s_X2_drawnAfter_1 {d : Nat} {l0 l1 : AV} {st : List AV} {σ : Sg} {Q : AV → Sg → Prop}  : Rn d m_X2_drawnAfter 1 [l0, l1] st σ Q ↔ Rn d m_X2_drawnAfter 4 [l0, l1] (vL 1103515245 :: st) σ Q := q1 (show fnd (pgm m_X2_drawnAfter) 1 = some (4, 1, 1103515245, 1, 32, []) from rfl)
set_option maxRecDepth 100000 in
theorem s_X2_drawnAfter_4 {d : Nat} {l0 l1 : AV} {st : List AV} {a b : Int} {σ : Sg} {Q : AV → Sg → Prop}  : Rn d m_X2_drawnAfter 4 [l0, l1] (vL b :: vL a :: st) σ Q ↔ Rn d m_X2_drawnAfter 5 [l0, l1] (vL (a * b) :: st) σ Q := q11_2 (show fnd (pgm m_X2_drawnAfter) 4 = some (5, 11, 0, 2, 0, []) from rfl)
set_option maxRecDepth 100000 in
theorem s_X2_drawnAfter_5 {d : Nat} {l0 l1 : AV} {st : List AV} {σ : Sg} {Q : AV → Sg → Prop}  : Rn d m_X2_drawnAfter 5 [l0, l1] st σ Q ↔ Rn d m_X2_drawnAfter 8 [l0, l1] (vL 12345 :: st) σ Q := q1 (show fnd (pgm m_X2_drawnAfter) 5 = some (8, 1, 12345, 1, 34, []) from rfl)
set_option maxRecDepth 100000 in
theorem s_X2_drawnAfter_8 {d : Nat} {l0 l1 : AV} {st : List AV} {a b : Int} {σ : Sg} {Q : AV → Sg → Prop}  : Rn d m_X2_drawnAfter 8 [l0, l1] (vL b :: vL a :: st) σ Q ↔ Rn d m_X2_drawnAfter 9 [l0, l1] (vL (a + b) :: st) σ Q := q11_0 (show fnd (pgm m_X2_drawnAfter) 8 = some (9, 11, 0, 0, 0, []) from rfl)
set_option maxRecDepth 100000 in
theorem s_X2_drawnAfter_9 {d : Nat} {l0 l1 : AV} {st : List AV} {σ : Sg} {Q : AV → Sg → Prop}  : Rn d m_X2_drawnAfter 9 [l0, l1] st σ Q ↔ Rn d m_X2_drawnAfter 12 [l0, l1] (vL 2147483648 :: st) σ Q := q1 (show fnd (pgm m_X2_drawnAfter) 9 = some (12, 1, 2147483648, 1, 36, []) from rfl)
set_option maxRecDepth 100000 in
theorem s_X2_drawnAfter_12 {d : Nat} {l0 l1 : AV} {st : List AV} {a b : Int} {σ : Sg} {Q : AV → Sg → Prop} (h0 : w64 b ≠ 0) : Rn d m_X2_drawnAfter 12 [l0, l1] (vL b :: vL a :: st) σ Q ↔ Rn d m_X2_drawnAfter 13 [l0, l1] (vL (rem64 a b) :: st) σ Q := q11_4 (show fnd (pgm m_X2_drawnAfter) 12 = some (13, 11, 0, 4, 0, []) from rfl) h0
set_option maxRecDepth 100000 in
theorem s_X2_drawnAfter_13 {d : Nat} {l0 l1 : AV} {x : Int} {σ : Sg} {Q : AV → Sg → Prop}  : Rn d m_X2_drawnAfter 13 [l0, l1] [vL x] σ Q ↔ Q (vL x) σ := q37_3 (st := []) (show fnd (pgm m_X2_drawnAfter) 13 = some (14, 37, 0, 3, 0, []) from rfl)
set_option maxRecDepth 100000 in
theorem en_X2_figureOf {d : Nat} {a0 : Int} {a1 : Int} {σ σ0 : Sg} {r0 : AV} (h : Rn d m_X2_figureOf 0 [vL a0, none, vI a1] [] σ (fun r σ1 => r = r0 ∧ σ1 = σ0)) : Ev (d + 1) m_X2_figureOf [vL a0, vI a1] σ r0 σ0 := Ev_is (Nat.le_of_ble_eq_true rfl) h
set_option maxRecDepth 100000 in
theorem eo_X2_figureOf {d : Nat} {a0 : Int} {a1 : Int} {σ : Sg} {Q : AV → Sg → Prop} (h : Rn d m_X2_figureOf 0 [vL a0, none, vI a1] [] σ Q) : ∃ r σ1, Ev (d + 1) m_X2_figureOf [vL a0, vI a1] σ r σ1 ∧ Q r σ1 := Ev_of (Nat.le_of_ble_eq_true rfl) h
set_option maxRecDepth 100000 in
theorem s_X2_figureOf_0 {d : Nat} {l0 l1 : AV} {st : List AV} {x : Int} {σ : Sg} {Q : AV → Sg → Prop}  : Rn d m_X2_figureOf 0 [l0, l1, vI x] st σ Q ↔ Rn d m_X2_figureOf 1 [l0, l1, vI x] (vI x :: st) σ Q := q3 (show fnd (pgm m_X2_figureOf) 0 = some (1, 3, 0, 2, 0, []) from rfl) rfl
set_option maxRecDepth 100000 in
theorem s_X2_figureOf_1 {d : Nat} {l0 l1 l2 : AV} {st : List AV} {a : Int} {σ : Sg} {Q : AV → Sg → Prop}  : Rn d m_X2_figureOf 1 [l0, l1, l2] (vI a :: st) σ Q ↔ if 0 < w32 a then Rn d m_X2_figureOf 8 [l0, l1, l2] st σ Q else Rn d m_X2_figureOf 4 [l0, l1, l2] st σ Q := q19_4 (show fnd (pgm m_X2_figureOf) 1 = some (4, 19, 0, 4, 8, []) from rfl)
set_option maxRecDepth 100000 in
theorem s_X2_figureOf_4 {d : Nat} {l0 l1 l2 : AV} {st : List AV} {σ : Sg} {Q : AV → Sg → Prop}  : Rn d m_X2_figureOf 4 [l0, l1, l2] st σ Q ↔ Rn d m_X2_figureOf 5 [l0, l1, l2] (vI 0 :: st) σ Q := q0 (show fnd (pgm m_X2_figureOf) 4 = some (5, 0, 0, 0, 0, []) from rfl)
set_option maxRecDepth 100000 in
theorem s_X2_figureOf_5 {d : Nat} {l0 l1 l2 : AV} {st : List AV} {σ : Sg} {Q : AV → Sg → Prop}  : Rn d m_X2_figureOf 5 [l0, l1, l2] st σ Q ↔ Rn d m_X2_figureOf 17 [l0, l1, l2] st σ Q := q21 (show fnd (pgm m_X2_figureOf) 5 = some (8, 21, 0, 0, 17, []) from rfl)
set_option maxRecDepth 100000 in
theorem s_X2_figureOf_8 {d : Nat} {l2 : AV} {st : List AV} {x : Int} {σ : Sg} {Q : AV → Sg → Prop}  : Rn d m_X2_figureOf 8 [vL x, none, l2] st σ Q ↔ Rn d m_X2_figureOf 9 [vL x, none, l2] (vL x :: st) σ Q := q4 (show fnd (pgm m_X2_figureOf) 8 = some (9, 4, 0, 0, 0, []) from rfl) rfl rfl
set_option maxRecDepth 100000 in
theorem s_X2_figureOf_9 {d : Nat} {l0 l1 l2 : AV} {st : List AV} {σ : Sg} {Q : AV → Sg → Prop}  : Rn d m_X2_figureOf 9 [l0, l1, l2] st σ Q ↔ Rn d m_X2_figureOf 12 [l0, l1, l2] (vL 65536 :: st) σ Q := q1 (show fnd (pgm m_X2_figureOf) 9 = some (12, 1, 65536, 1, 38, []) from rfl)
set_option maxRecDepth 100000 in
theorem s_X2_figureOf_12 {d : Nat} {l0 l1 l2 : AV} {st : List AV} {a b : Int} {σ : Sg} {Q : AV → Sg → Prop} (h0 : w64 b ≠ 0) : Rn d m_X2_figureOf 12 [l0, l1, l2] (vL b :: vL a :: st) σ Q ↔ Rn d m_X2_figureOf 13 [l0, l1, l2] (vL (div64 a b) :: st) σ Q := q11_3 (show fnd (pgm m_X2_figureOf) 12 = some (13, 11, 0, 3, 0, []) from rfl) h0
set_option maxRecDepth 100000 in
theorem s_X2_figureOf_13 {d : Nat} {l0 l1 : AV} {st : List AV} {x : Int} {σ : Sg} {Q : AV → Sg → Prop}  : Rn d m_X2_figureOf 13 [l0, l1, vI x] st σ Q ↔ Rn d m_X2_figureOf 14 [l0, l1, vI x] (vI x :: st) σ Q := q3 (show fnd (pgm m_X2_figureOf) 13 = some (14, 3, 0, 2, 0, []) from rfl) rfl
set_option maxRecDepth 100000 in
theorem s_X2_figureOf_14 {d : Nat} {l0 l1 l2 : AV} {st : List AV} {a : Int} {σ : Sg} {Q : AV → Sg → Prop}  : Rn d m_X2_figureOf 14 [l0, l1, l2] (vI a :: st) σ Q ↔ Rn d m_X2_figureOf 15 [l0, l1, l2] (vL (w32 a) :: st) σ Q := q14 (show fnd (pgm m_X2_figureOf) 14 = some (15, 14, 0, 0, 0, []) from rfl)
set_option maxRecDepth 100000 in
theorem s_X2_figureOf_15 {d : Nat} {l0 l1 l2 : AV} {st : List AV} {a b : Int} {σ : Sg} {Q : AV → Sg → Prop} (h0 : w64 b ≠ 0) : Rn d m_X2_figureOf 15 [l0, l1, l2] (vL b :: vL a :: st) σ Q ↔ Rn d m_X2_figureOf 16 [l0, l1, l2] (vL (rem64 a b) :: st) σ Q := q11_4 (show fnd (pgm m_X2_figureOf) 15 = some (16, 11, 0, 4, 0, []) from rfl) h0
set_option maxRecDepth 100000 in
theorem s_X2_figureOf_16 {d : Nat} {l0 l1 l2 : AV} {st : List AV} {a : Int} {σ : Sg} {Q : AV → Sg → Prop}  : Rn d m_X2_figureOf 16 [l0, l1, l2] (vL a :: st) σ Q ↔ Rn d m_X2_figureOf 17 [l0, l1, l2] (vI a :: st) σ Q := q15 (show fnd (pgm m_X2_figureOf) 16 = some (17, 15, 0, 0, 0, []) from rfl)
set_option maxRecDepth 100000 in
theorem s_X2_figureOf_17 {d : Nat} {l0 l1 l2 : AV} {x : Int} {σ : Sg} {Q : AV → Sg → Prop}  : Rn d m_X2_figureOf 17 [l0, l1, l2] [vI x] σ Q ↔ Q (vI x) σ := q37_1 (st := []) (show fnd (pgm m_X2_figureOf) 17 = some (18, 37, 0, 1, 0, []) from rfl)
set_option maxRecDepth 100000 in
theorem en_X2_pushOf {d : Nat} {o : Nat} {a0 : Int} {σ σ0 : Sg} {r0 : AV} (h : Rn d m_X2_pushOf 0 [vR o, vI a0] [] σ (fun r σ1 => r = r0 ∧ σ1 = σ0)) : Ev (d + 1) m_X2_pushOf [vR o, vI a0] σ r0 σ0 := Ev_is (Nat.le_of_ble_eq_true rfl) h
set_option maxRecDepth 100000 in
theorem eo_X2_pushOf {d : Nat} {o : Nat} {a0 : Int} {σ : Sg} {Q : AV → Sg → Prop} (h : Rn d m_X2_pushOf 0 [vR o, vI a0] [] σ Q) : ∃ r σ1, Ev (d + 1) m_X2_pushOf [vR o, vI a0] σ r σ1 ∧ Q r σ1 := Ev_of (Nat.le_of_ble_eq_true rfl) h
set_option maxRecDepth 100000 in
theorem s_X2_pushOf_0 {d : Nat} {l1 : AV} {st : List AV} {o : Nat} {σ : Sg} {Q : AV → Sg → Prop} (ho : o ≠ 0) : Rn d m_X2_pushOf 0 [vR o, l1] st σ Q ↔ Rn d m_X2_pushOf 1 [vR o, l1] (vR o :: st) σ Q := q5 (show fnd (pgm m_X2_pushOf) 0 = some (1, 5, 0, 0, 0, []) from rfl) rfl ho
set_option maxRecDepth 100000 in
theorem s_X2_pushOf_1 {d : Nat} {l0 l1 : AV} {st : List AV} {o : Nat} {σ : Sg} {Q : AV → Sg → Prop} (hk : kn σ o = (0, 2)) : Rn d m_X2_pushOf 1 [l0, l1] (vR o :: st) σ Q ↔ Rn d m_X2_pushOf 4 [l0, l1] (vR (tp o 1) :: st) σ Q := q33 (show fnd (pgm m_X2_pushOf) 1 = some (4, 33, 15, 2, 1, []) from rfl) hk
set_option maxRecDepth 100000 in
theorem s_X2_pushOf_4 {d : Nat} {l0 : AV} {st : List AV} {x : Int} {σ : Sg} {Q : AV → Sg → Prop}  : Rn d m_X2_pushOf 4 [l0, vI x] st σ Q ↔ Rn d m_X2_pushOf 5 [l0, vI x] (vI x :: st) σ Q := q3 (show fnd (pgm m_X2_pushOf) 4 = some (5, 3, 0, 1, 0, []) from rfl) rfl
set_option maxRecDepth 100000 in
theorem s_X2_pushOf_5 {d : Nat} {l0 l1 : AV} {st : List AV} {i : Int} {o : Nat} {σ : Sg} {Q : AV → Sg → Prop} (hi : 0 ≤ w32 i ∧ w32 i < al σ 1 o) : Rn d m_X2_pushOf 5 [l0, l1] (vI i :: vR o :: st) σ Q ↔ Rn d m_X2_pushOf 6 [l0, l1] (vI (σ o (w32 i)) :: st) σ Q := q25 (show fnd (pgm m_X2_pushOf) 5 = some (6, 25, 0, 0, 0, []) from rfl) hi
set_option maxRecDepth 100000 in
theorem s_X2_pushOf_6 {d : Nat} {l1 : AV} {st : List AV} {o : Nat} {σ : Sg} {Q : AV → Sg → Prop} (ho : o ≠ 0) : Rn d m_X2_pushOf 6 [vR o, l1] st σ Q ↔ Rn d m_X2_pushOf 7 [vR o, l1] (vR o :: st) σ Q := q5 (show fnd (pgm m_X2_pushOf) 6 = some (7, 5, 0, 0, 0, []) from rfl) rfl ho
set_option maxRecDepth 100000 in
theorem s_X2_pushOf_7 {d : Nat} {l0 l1 : AV} {st : List AV} {o : Nat} {σ : Sg} {Q : AV → Sg → Prop} (hk : kn σ o = (0, 2)) : Rn d m_X2_pushOf 7 [l0, l1] (vR o :: st) σ Q ↔ Rn d m_X2_pushOf 10 [l0, l1] (vR (tp o 2) :: st) σ Q := q33 (show fnd (pgm m_X2_pushOf) 7 = some (10, 33, 18, 2, 2, []) from rfl) hk
set_option maxRecDepth 100000 in
theorem s_X2_pushOf_10 {d : Nat} {l0 : AV} {st : List AV} {x : Int} {σ : Sg} {Q : AV → Sg → Prop}  : Rn d m_X2_pushOf 10 [l0, vI x] st σ Q ↔ Rn d m_X2_pushOf 11 [l0, vI x] (vI x :: st) σ Q := q3 (show fnd (pgm m_X2_pushOf) 10 = some (11, 3, 0, 1, 0, []) from rfl) rfl
set_option maxRecDepth 100000 in
theorem s_X2_pushOf_11 {d : Nat} {l0 l1 : AV} {st : List AV} {i : Int} {o : Nat} {σ : Sg} {Q : AV → Sg → Prop} (hi : 0 ≤ w32 i ∧ w32 i < al σ 1 o) : Rn d m_X2_pushOf 11 [l0, l1] (vI i :: vR o :: st) σ Q ↔ Rn d m_X2_pushOf 12 [l0, l1] (vI (σ o (w32 i)) :: st) σ Q := q25 (show fnd (pgm m_X2_pushOf) 11 = some (12, 25, 0, 0, 0, []) from rfl) hi
set_option maxRecDepth 100000 in
theorem s_X2_pushOf_12 {d : Nat} {l0 l1 : AV} {st : List AV} {a b : Int} {σ : Sg} {Q : AV → Sg → Prop}  : Rn d m_X2_pushOf 12 [l0, l1] (vI b :: vI a :: st) σ Q ↔ Rn d m_X2_pushOf 13 [l0, l1] (vI (a * b) :: st) σ Q := q10_2 (show fnd (pgm m_X2_pushOf) 12 = some (13, 10, 0, 2, 0, []) from rfl)
set_option maxRecDepth 100000 in
theorem s_X2_pushOf_13 {d : Nat} {l0 l1 : AV} {x : Int} {σ : Sg} {Q : AV → Sg → Prop}  : Rn d m_X2_pushOf 13 [l0, l1] [vI x] σ Q ↔ Q (vI x) σ := q37_1 (st := []) (show fnd (pgm m_X2_pushOf) 13 = some (14, 37, 0, 1, 0, []) from rfl)
set_option maxRecDepth 100000 in
theorem en_X2_copyOf {d : Nat} {o : Nat} {a0 : Nat} {σ σ0 : Sg} {r0 : AV} (h : Rn d m_X2_copyOf 0 [vR o, vR a0] [] σ (fun r σ1 => r = r0 ∧ σ1 = σ0)) : Ev (d + 1) m_X2_copyOf [vR o, vR a0] σ r0 σ0 := Ev_is (Nat.le_of_ble_eq_true rfl) h
set_option maxRecDepth 100000 in
theorem eo_X2_copyOf {d : Nat} {o : Nat} {a0 : Nat} {σ : Sg} {Q : AV → Sg → Prop} (h : Rn d m_X2_copyOf 0 [vR o, vR a0] [] σ Q) : ∃ r σ1, Ev (d + 1) m_X2_copyOf [vR o, vR a0] σ r σ1 ∧ Q r σ1 := Ev_of (Nat.le_of_ble_eq_true rfl) h
set_option maxRecDepth 100000 in
theorem s_X2_copyOf_0 {d : Nat} {l0 : AV} {st : List AV} {o : Nat} {σ : Sg} {Q : AV → Sg → Prop} (ho : o ≠ 0) : Rn d m_X2_copyOf 0 [l0, vR o] st σ Q ↔ Rn d m_X2_copyOf 1 [l0, vR o] (vR o :: st) σ Q := q5 (show fnd (pgm m_X2_copyOf) 0 = some (1, 5, 0, 1, 0, []) from rfl) rfl ho
set_option maxRecDepth 100000 in
theorem s_X2_copyOf_1 {d : Nat} {l0 l1 : AV} {st : List AV} {o : Nat} {σ : Sg} {Q : AV → Sg → Prop} (hk : kn σ o = (0, 2)) : Rn d m_X2_copyOf 1 [l0, l1] (vR o :: st) σ Q ↔ Rn d m_X2_copyOf 4 [l0, l1] (vR (tp o 0) :: st) σ Q := q33 (show fnd (pgm m_X2_copyOf) 1 = some (4, 33, 9, 2, 0, []) from rfl) hk
set_option maxRecDepth 100000 in
theorem s_X2_copyOf_4 {d : Nat} {l0 l1 : AV} {st : List AV} {σ : Sg} {Q : AV → Sg → Prop}  : Rn d m_X2_copyOf 4 [l0, l1] st σ Q ↔ Rn d m_X2_copyOf 5 [l0, l1] (vI 0 :: st) σ Q := q0 (show fnd (pgm m_X2_copyOf) 4 = some (5, 0, 0, 0, 0, []) from rfl)
set_option maxRecDepth 100000 in
theorem s_X2_copyOf_5 {d : Nat} {l1 : AV} {st : List AV} {o : Nat} {σ : Sg} {Q : AV → Sg → Prop} (ho : o ≠ 0) : Rn d m_X2_copyOf 5 [vR o, l1] st σ Q ↔ Rn d m_X2_copyOf 6 [vR o, l1] (vR o :: st) σ Q := q5 (show fnd (pgm m_X2_copyOf) 5 = some (6, 5, 0, 0, 0, []) from rfl) rfl ho
set_option maxRecDepth 100000 in
theorem s_X2_copyOf_6 {d : Nat} {l0 l1 : AV} {st : List AV} {o : Nat} {σ : Sg} {Q : AV → Sg → Prop} (hk : kn σ o = (0, 2)) : Rn d m_X2_copyOf 6 [l0, l1] (vR o :: st) σ Q ↔ Rn d m_X2_copyOf 9 [l0, l1] (vR (tp o 0) :: st) σ Q := q33 (show fnd (pgm m_X2_copyOf) 6 = some (9, 33, 9, 2, 0, []) from rfl) hk
set_option maxRecDepth 100000 in
theorem s_X2_copyOf_9 {d : Nat} {l0 l1 : AV} {st : List AV} {σ : Sg} {Q : AV → Sg → Prop}  : Rn d m_X2_copyOf 9 [l0, l1] st σ Q ↔ Rn d m_X2_copyOf 10 [l0, l1] (vI 0 :: st) σ Q := q0 (show fnd (pgm m_X2_copyOf) 9 = some (10, 0, 0, 0, 0, []) from rfl)
set_option maxRecDepth 100000 in
theorem s_X2_copyOf_10 {d : Nat} {l0 l1 : AV} {st : List AV} {σ : Sg} {Q : AV → Sg → Prop}  : Rn d m_X2_copyOf 10 [l0, l1] st σ Q ↔ Rn d m_X2_copyOf 12 [l0, l1] (vI 20 :: st) σ Q := q0 (show fnd (pgm m_X2_copyOf) 10 = some (12, 0, 20, 1, 0, []) from rfl)
set_option maxRecDepth 100000 in
theorem s_X2_copyOf_12 {d : Nat} {l0 l1 : AV} {st : List AV} {n dp sp : Int} {a b : Nat} {σ : Sg} {Q : AV → Sg → Prop} (hc : 0 ≤ w32 sp ∧ 0 ≤ w32 dp ∧ 0 ≤ w32 n ∧ w32 sp + w32 n ≤ al σ 1 a ∧ w32 dp + w32 n ≤ al σ 1 b ∧ a ≠ b ∧ st.length ≤ 4 ∧ 0 < al σ 1 a ∧ 0 < al σ 1 b) : Rn d m_X2_copyOf 12 [l0, l1] (vI n :: vI dp :: vR b :: vI sp :: vR a :: st) σ Q ↔ Rn d m_X2_copyOf 15 [l0, l1] st (cpy σ a (w32 sp) b (w32 dp) (w32 n)) Q := q36 (show fnd (pgm m_X2_copyOf) 12 = some (15, 36, 40, 1, 0, []) from rfl) ⟨by decide, hc⟩
set_option maxRecDepth 100000 in
theorem s_X2_copyOf_15 {d : Nat} {l0 : AV} {st : List AV} {o : Nat} {σ : Sg} {Q : AV → Sg → Prop} (ho : o ≠ 0) : Rn d m_X2_copyOf 15 [l0, vR o] st σ Q ↔ Rn d m_X2_copyOf 16 [l0, vR o] (vR o :: st) σ Q := q5 (show fnd (pgm m_X2_copyOf) 15 = some (16, 5, 0, 1, 0, []) from rfl) rfl ho
set_option maxRecDepth 100000 in
theorem s_X2_copyOf_16 {d : Nat} {l0 l1 : AV} {st : List AV} {o : Nat} {σ : Sg} {Q : AV → Sg → Prop} (hk : kn σ o = (0, 2)) : Rn d m_X2_copyOf 16 [l0, l1] (vR o :: st) σ Q ↔ Rn d m_X2_copyOf 19 [l0, l1] (vR (tp o 1) :: st) σ Q := q33 (show fnd (pgm m_X2_copyOf) 16 = some (19, 33, 15, 2, 1, []) from rfl) hk
set_option maxRecDepth 100000 in
theorem s_X2_copyOf_19 {d : Nat} {l0 l1 : AV} {st : List AV} {σ : Sg} {Q : AV → Sg → Prop}  : Rn d m_X2_copyOf 19 [l0, l1] st σ Q ↔ Rn d m_X2_copyOf 20 [l0, l1] (vI 0 :: st) σ Q := q0 (show fnd (pgm m_X2_copyOf) 19 = some (20, 0, 0, 0, 0, []) from rfl)
set_option maxRecDepth 100000 in
theorem s_X2_copyOf_20 {d : Nat} {l1 : AV} {st : List AV} {o : Nat} {σ : Sg} {Q : AV → Sg → Prop} (ho : o ≠ 0) : Rn d m_X2_copyOf 20 [vR o, l1] st σ Q ↔ Rn d m_X2_copyOf 21 [vR o, l1] (vR o :: st) σ Q := q5 (show fnd (pgm m_X2_copyOf) 20 = some (21, 5, 0, 0, 0, []) from rfl) rfl ho
set_option maxRecDepth 100000 in
theorem s_X2_copyOf_21 {d : Nat} {l0 l1 : AV} {st : List AV} {o : Nat} {σ : Sg} {Q : AV → Sg → Prop} (hk : kn σ o = (0, 2)) : Rn d m_X2_copyOf 21 [l0, l1] (vR o :: st) σ Q ↔ Rn d m_X2_copyOf 24 [l0, l1] (vR (tp o 1) :: st) σ Q := q33 (show fnd (pgm m_X2_copyOf) 21 = some (24, 33, 15, 2, 1, []) from rfl) hk
set_option maxRecDepth 100000 in
theorem s_X2_copyOf_24 {d : Nat} {l0 l1 : AV} {st : List AV} {σ : Sg} {Q : AV → Sg → Prop}  : Rn d m_X2_copyOf 24 [l0, l1] st σ Q ↔ Rn d m_X2_copyOf 25 [l0, l1] (vI 0 :: st) σ Q := q0 (show fnd (pgm m_X2_copyOf) 24 = some (25, 0, 0, 0, 0, []) from rfl)
set_option maxRecDepth 100000 in
theorem s_X2_copyOf_25 {d : Nat} {l0 l1 : AV} {st : List AV} {σ : Sg} {Q : AV → Sg → Prop}  : Rn d m_X2_copyOf 25 [l0, l1] st σ Q ↔ Rn d m_X2_copyOf 27 [l0, l1] (vI 20 :: st) σ Q := q0 (show fnd (pgm m_X2_copyOf) 25 = some (27, 0, 20, 1, 0, []) from rfl)
set_option maxRecDepth 100000 in
theorem s_X2_copyOf_27 {d : Nat} {l0 l1 : AV} {st : List AV} {n dp sp : Int} {a b : Nat} {σ : Sg} {Q : AV → Sg → Prop} (hc : 0 ≤ w32 sp ∧ 0 ≤ w32 dp ∧ 0 ≤ w32 n ∧ w32 sp + w32 n ≤ al σ 1 a ∧ w32 dp + w32 n ≤ al σ 1 b ∧ a ≠ b ∧ st.length ≤ 4 ∧ 0 < al σ 1 a ∧ 0 < al σ 1 b) : Rn d m_X2_copyOf 27 [l0, l1] (vI n :: vI dp :: vR b :: vI sp :: vR a :: st) σ Q ↔ Rn d m_X2_copyOf 30 [l0, l1] st (cpy σ a (w32 sp) b (w32 dp) (w32 n)) Q := q36 (show fnd (pgm m_X2_copyOf) 27 = some (30, 36, 40, 1, 0, []) from rfl) ⟨by decide, hc⟩
set_option maxRecDepth 100000 in
theorem s_X2_copyOf_30 {d : Nat} {l0 : AV} {st : List AV} {o : Nat} {σ : Sg} {Q : AV → Sg → Prop} (ho : o ≠ 0) : Rn d m_X2_copyOf 30 [l0, vR o] st σ Q ↔ Rn d m_X2_copyOf 31 [l0, vR o] (vR o :: st) σ Q := q5 (show fnd (pgm m_X2_copyOf) 30 = some (31, 5, 0, 1, 0, []) from rfl) rfl ho
set_option maxRecDepth 100000 in
theorem s_X2_copyOf_31 {d : Nat} {l0 l1 : AV} {st : List AV} {o : Nat} {σ : Sg} {Q : AV → Sg → Prop} (hk : kn σ o = (0, 2)) : Rn d m_X2_copyOf 31 [l0, l1] (vR o :: st) σ Q ↔ Rn d m_X2_copyOf 34 [l0, l1] (vR (tp o 2) :: st) σ Q := q33 (show fnd (pgm m_X2_copyOf) 31 = some (34, 33, 18, 2, 2, []) from rfl) hk
set_option maxRecDepth 100000 in
theorem s_X2_copyOf_34 {d : Nat} {l0 l1 : AV} {st : List AV} {σ : Sg} {Q : AV → Sg → Prop}  : Rn d m_X2_copyOf 34 [l0, l1] st σ Q ↔ Rn d m_X2_copyOf 35 [l0, l1] (vI 0 :: st) σ Q := q0 (show fnd (pgm m_X2_copyOf) 34 = some (35, 0, 0, 0, 0, []) from rfl)
set_option maxRecDepth 100000 in
theorem s_X2_copyOf_35 {d : Nat} {l1 : AV} {st : List AV} {o : Nat} {σ : Sg} {Q : AV → Sg → Prop} (ho : o ≠ 0) : Rn d m_X2_copyOf 35 [vR o, l1] st σ Q ↔ Rn d m_X2_copyOf 36 [vR o, l1] (vR o :: st) σ Q := q5 (show fnd (pgm m_X2_copyOf) 35 = some (36, 5, 0, 0, 0, []) from rfl) rfl ho
set_option maxRecDepth 100000 in
theorem s_X2_copyOf_36 {d : Nat} {l0 l1 : AV} {st : List AV} {o : Nat} {σ : Sg} {Q : AV → Sg → Prop} (hk : kn σ o = (0, 2)) : Rn d m_X2_copyOf 36 [l0, l1] (vR o :: st) σ Q ↔ Rn d m_X2_copyOf 39 [l0, l1] (vR (tp o 2) :: st) σ Q := q33 (show fnd (pgm m_X2_copyOf) 36 = some (39, 33, 18, 2, 2, []) from rfl) hk
set_option maxRecDepth 100000 in
theorem s_X2_copyOf_39 {d : Nat} {l0 l1 : AV} {st : List AV} {σ : Sg} {Q : AV → Sg → Prop}  : Rn d m_X2_copyOf 39 [l0, l1] st σ Q ↔ Rn d m_X2_copyOf 40 [l0, l1] (vI 0 :: st) σ Q := q0 (show fnd (pgm m_X2_copyOf) 39 = some (40, 0, 0, 0, 0, []) from rfl)
set_option maxRecDepth 100000 in
theorem s_X2_copyOf_40 {d : Nat} {l0 l1 : AV} {st : List AV} {σ : Sg} {Q : AV → Sg → Prop}  : Rn d m_X2_copyOf 40 [l0, l1] st σ Q ↔ Rn d m_X2_copyOf 42 [l0, l1] (vI 20 :: st) σ Q := q0 (show fnd (pgm m_X2_copyOf) 40 = some (42, 0, 20, 1, 0, []) from rfl)
set_option maxRecDepth 100000 in
theorem s_X2_copyOf_42 {d : Nat} {l0 l1 : AV} {st : List AV} {n dp sp : Int} {a b : Nat} {σ : Sg} {Q : AV → Sg → Prop} (hc : 0 ≤ w32 sp ∧ 0 ≤ w32 dp ∧ 0 ≤ w32 n ∧ w32 sp + w32 n ≤ al σ 1 a ∧ w32 dp + w32 n ≤ al σ 1 b ∧ a ≠ b ∧ st.length ≤ 4 ∧ 0 < al σ 1 a ∧ 0 < al σ 1 b) : Rn d m_X2_copyOf 42 [l0, l1] (vI n :: vI dp :: vR b :: vI sp :: vR a :: st) σ Q ↔ Rn d m_X2_copyOf 45 [l0, l1] st (cpy σ a (w32 sp) b (w32 dp) (w32 n)) Q := q36 (show fnd (pgm m_X2_copyOf) 42 = some (45, 36, 40, 1, 0, []) from rfl) ⟨by decide, hc⟩
set_option maxRecDepth 100000 in
theorem s_X2_copyOf_45 {d : Nat} {l0 : AV} {st : List AV} {o : Nat} {σ : Sg} {Q : AV → Sg → Prop} (ho : o ≠ 0) : Rn d m_X2_copyOf 45 [l0, vR o] st σ Q ↔ Rn d m_X2_copyOf 46 [l0, vR o] (vR o :: st) σ Q := q5 (show fnd (pgm m_X2_copyOf) 45 = some (46, 5, 0, 1, 0, []) from rfl) rfl ho
set_option maxRecDepth 100000 in
theorem s_X2_copyOf_46 {d : Nat} {l0 l1 : AV} {st : List AV} {o : Nat} {σ : Sg} {Q : AV → Sg → Prop} (hk : kn σ o = (0, 2)) : Rn d m_X2_copyOf 46 [l0, l1] (vR o :: st) σ Q ↔ Rn d m_X2_copyOf 49 [l0, l1] (vR (tp o 3) :: st) σ Q := q33 (show fnd (pgm m_X2_copyOf) 46 = some (49, 33, 21, 2, 3, []) from rfl) hk
set_option maxRecDepth 100000 in
theorem s_X2_copyOf_49 {d : Nat} {l0 l1 : AV} {st : List AV} {σ : Sg} {Q : AV → Sg → Prop}  : Rn d m_X2_copyOf 49 [l0, l1] st σ Q ↔ Rn d m_X2_copyOf 50 [l0, l1] (vI 0 :: st) σ Q := q0 (show fnd (pgm m_X2_copyOf) 49 = some (50, 0, 0, 0, 0, []) from rfl)
set_option maxRecDepth 100000 in
theorem s_X2_copyOf_50 {d : Nat} {l1 : AV} {st : List AV} {o : Nat} {σ : Sg} {Q : AV → Sg → Prop} (ho : o ≠ 0) : Rn d m_X2_copyOf 50 [vR o, l1] st σ Q ↔ Rn d m_X2_copyOf 51 [vR o, l1] (vR o :: st) σ Q := q5 (show fnd (pgm m_X2_copyOf) 50 = some (51, 5, 0, 0, 0, []) from rfl) rfl ho
set_option maxRecDepth 100000 in
theorem s_X2_copyOf_51 {d : Nat} {l0 l1 : AV} {st : List AV} {o : Nat} {σ : Sg} {Q : AV → Sg → Prop} (hk : kn σ o = (0, 2)) : Rn d m_X2_copyOf 51 [l0, l1] (vR o :: st) σ Q ↔ Rn d m_X2_copyOf 54 [l0, l1] (vR (tp o 3) :: st) σ Q := q33 (show fnd (pgm m_X2_copyOf) 51 = some (54, 33, 21, 2, 3, []) from rfl) hk
set_option maxRecDepth 100000 in
theorem s_X2_copyOf_54 {d : Nat} {l0 l1 : AV} {st : List AV} {σ : Sg} {Q : AV → Sg → Prop}  : Rn d m_X2_copyOf 54 [l0, l1] st σ Q ↔ Rn d m_X2_copyOf 55 [l0, l1] (vI 0 :: st) σ Q := q0 (show fnd (pgm m_X2_copyOf) 54 = some (55, 0, 0, 0, 0, []) from rfl)
set_option maxRecDepth 100000 in
theorem s_X2_copyOf_55 {d : Nat} {l0 l1 : AV} {st : List AV} {σ : Sg} {Q : AV → Sg → Prop}  : Rn d m_X2_copyOf 55 [l0, l1] st σ Q ↔ Rn d m_X2_copyOf 57 [l0, l1] (vI 20 :: st) σ Q := q0 (show fnd (pgm m_X2_copyOf) 55 = some (57, 0, 20, 1, 0, []) from rfl)
set_option maxRecDepth 100000 in
theorem s_X2_copyOf_57 {d : Nat} {l0 l1 : AV} {st : List AV} {n dp sp : Int} {a b : Nat} {σ : Sg} {Q : AV → Sg → Prop} (hc : 0 ≤ w32 sp ∧ 0 ≤ w32 dp ∧ 0 ≤ w32 n ∧ w32 sp + w32 n ≤ al σ 1 a ∧ w32 dp + w32 n ≤ al σ 1 b ∧ a ≠ b ∧ st.length ≤ 4 ∧ 0 < al σ 1 a ∧ 0 < al σ 1 b) : Rn d m_X2_copyOf 57 [l0, l1] (vI n :: vI dp :: vR b :: vI sp :: vR a :: st) σ Q ↔ Rn d m_X2_copyOf 60 [l0, l1] st (cpy σ a (w32 sp) b (w32 dp) (w32 n)) Q := q36 (show fnd (pgm m_X2_copyOf) 57 = some (60, 36, 40, 1, 0, []) from rfl) ⟨by decide, hc⟩
set_option maxRecDepth 100000 in
theorem s_X2_copyOf_60 {d : Nat} {l0 l1 : AV} {σ : Sg} {Q : AV → Sg → Prop}  : Rn d m_X2_copyOf 60 [l0, l1] [] σ Q ↔ Q none σ := q37_0 (st := []) (show fnd (pgm m_X2_copyOf) 60 = some (61, 37, 0, 0, 0, []) from rfl)
set_option maxRecDepth 100000 in
theorem en_X3_read {d : Nat} {o : Nat} {a0 : Nat} {a1 : Nat} {σ σ0 : Sg} {r0 : AV} (h : Rn d m_X3_read 0 [vR o, vR a0, vR a1, none, none, none] [] σ (fun r σ1 => r = r0 ∧ σ1 = σ0)) : Ev (d + 1) m_X3_read [vR o, vR a0, vR a1] σ r0 σ0 := Ev_is (Nat.le_of_ble_eq_true rfl) h
set_option maxRecDepth 100000 in
theorem eo_X3_read {d : Nat} {o : Nat} {a0 : Nat} {a1 : Nat} {σ : Sg} {Q : AV → Sg → Prop} (h : Rn d m_X3_read 0 [vR o, vR a0, vR a1, none, none, none] [] σ Q) : ∃ r σ1, Ev (d + 1) m_X3_read [vR o, vR a0, vR a1] σ r σ1 ∧ Q r σ1 := Ev_of (Nat.le_of_ble_eq_true rfl) h
set_option maxRecDepth 100000 in
theorem s_X3_read_0 {d : Nat} {l1 l2 l3 l4 l5 : AV} {st : List AV} {o : Nat} {σ : Sg} {Q : AV → Sg → Prop} (ho : o ≠ 0) : Rn d m_X3_read 0 [vR o, l1, l2, l3, l4, l5] st σ Q ↔ Rn d m_X3_read 1 [vR o, l1, l2, l3, l4, l5] (vR o :: st) σ Q := q5 (show fnd (pgm m_X3_read) 0 = some (1, 5, 0, 0, 0, []) from rfl) rfl ho
set_option maxRecDepth 100000 in
theorem s_X3_read_1 {d : Nat} {l0 l2 l3 l4 l5 : AV} {st : List AV} {o : Nat} {σ : Sg} {Q : AV → Sg → Prop} (ho : o ≠ 0) : Rn d m_X3_read 1 [l0, vR o, l2, l3, l4, l5] st σ Q ↔ Rn d m_X3_read 2 [l0, vR o, l2, l3, l4, l5] (vR o :: st) σ Q := q5 (show fnd (pgm m_X3_read) 1 = some (2, 5, 0, 1, 0, []) from rfl) rfl ho
set_option maxRecDepth 100000 in
theorem s_X3_read_2 {d : Nat} {l0 l1 l2 l3 l4 l5 : AV} {st : List AV} {o : Nat} {x : Nat} {σ : Sg} {Q : AV → Sg → Prop} (hk : kn σ o = (0, 3)) : Rn d m_X3_read 2 [l0, l1, l2, l3, l4, l5] (vR x :: vR o :: st) σ Q ↔ Rn d m_X3_read 5 [l0, l1, l2, l3, l4, l5] st (up σ o 1 x) Q := q34r (show fnd (pgm m_X3_read) 2 = some (5, 34, 15, 3, 1, []) from rfl) hk rfl
set_option maxRecDepth 100000 in
theorem s_X3_read_5 {d : Nat} {l1 l2 l3 l4 l5 : AV} {st : List AV} {o : Nat} {σ : Sg} {Q : AV → Sg → Prop} (ho : o ≠ 0) : Rn d m_X3_read 5 [vR o, l1, l2, l3, l4, l5] st σ Q ↔ Rn d m_X3_read 6 [vR o, l1, l2, l3, l4, l5] (vR o :: st) σ Q := q5 (show fnd (pgm m_X3_read) 5 = some (6, 5, 0, 0, 0, []) from rfl) rfl ho
set_option maxRecDepth 100000 in
theorem s_X3_read_6 {d : Nat} {l0 l1 l2 l3 l4 l5 : AV} {st : List AV} {σ : Sg} {Q : AV → Sg → Prop}  : Rn d m_X3_read 6 [l0, l1, l2, l3, l4, l5] st σ Q ↔ Rn d m_X3_read 7 [l0, l1, l2, l3, l4, l5] (vI 0 :: st) σ Q := q0 (show fnd (pgm m_X3_read) 6 = some (7, 0, 0, 0, 0, []) from rfl)
set_option maxRecDepth 100000 in
theorem s_X3_read_7 {d : Nat} {l0 l1 l2 l3 l4 l5 : AV} {st : List AV} {o : Nat} {x : Int} {σ : Sg} {Q : AV → Sg → Prop} (hk : kn σ o = (0, 3)) : Rn d m_X3_read 7 [l0, l1, l2, l3, l4, l5] (vI x :: vR o :: st) σ Q ↔ Rn d m_X3_read 10 [l0, l1, l2, l3, l4, l5] st (up σ o 2 x) Q := q34i (show fnd (pgm m_X3_read) 7 = some (10, 34, 19, 3, 2, []) from rfl) hk rfl
set_option maxRecDepth 100000 in
theorem s_X3_read_10 {d : Nat} {l0 l1 l3 l4 l5 : AV} {st : List AV} {o : Nat} {σ : Sg} {Q : AV → Sg → Prop} (ho : o ≠ 0) : Rn d m_X3_read 10 [l0, l1, vR o, l3, l4, l5] st σ Q ↔ Rn d m_X3_read 11 [l0, l1, vR o, l3, l4, l5] (vR o :: st) σ Q := q5 (show fnd (pgm m_X3_read) 10 = some (11, 5, 0, 2, 0, []) from rfl) rfl ho
set_option maxRecDepth 100000 in
theorem s_X3_read_11 {d : Nat} {l0 l1 l2 l3 l4 l5 : AV} {st : List AV} {o : Nat} {σ : Sg} {Q : AV → Sg → Prop} (h4 : st.length ≤ 4) (hk : kn σ o = (0, 1)) : Rn d m_X3_read 11 [l0, l1, l2, l3, l4, l5] (vR o :: st) σ Q ↔ ∃ r σ1, Ev d m_X1_begin [vR o] σ r σ1 ∧ Rn d m_X3_read 14 [l0, l1, l2, l3, l4, l5] (psh r st) σ1 Q := q35 (show fnd (pgm m_X3_read) 11 = some (14, 35, 29, 12, 1, []) from rfl) ⟨⟨by simp, by simpa using h4⟩, (by simp only [List.take, List.reverse, List.reverseAux, rcv]; rw [if_neg (by decide +kernel)]; exact decide_eq_true hk)⟩
set_option maxRecDepth 100000 in
theorem s_X3_read_14 {d : Nat} {l0 l1 l2 l3 l4 l5 : AV} {st : List AV} {σ : Sg} {Q : AV → Sg → Prop}  : Rn d m_X3_read 14 [l0, l1, l2, l3, l4, l5] st σ Q ↔ Rn d m_X3_read 15 [l0, l1, l2, l3, l4, l5] (vI 0 :: st) σ Q := q0 (show fnd (pgm m_X3_read) 14 = some (15, 0, 0, 0, 0, []) from rfl)
set_option maxRecDepth 100000 in
theorem s_X3_read_15 {d : Nat} {l0 l1 l2 l3 l4 l5 : AV} {st : List AV} {x : Int} {σ : Sg} {Q : AV → Sg → Prop}  : Rn d m_X3_read 15 [l0, l1, l2, l3, l4, l5] (vI x :: st) σ Q ↔ Rn d m_X3_read 16 [l0, l1, l2, vI x, l4, l5] st σ Q := q6 (show fnd (pgm m_X3_read) 15 = some (16, 6, 0, 3, 0, []) from rfl) (by decide : 3 < 6)
set_option maxRecDepth 100000 in
theorem s_X3_read_16 {d : Nat} {l0 l1 l2 l4 l5 : AV} {st : List AV} {x : Int} {σ : Sg} {Q : AV → Sg → Prop}  : Rn d m_X3_read 16 [l0, l1, l2, vI x, l4, l5] st σ Q ↔ Rn d m_X3_read 17 [l0, l1, l2, vI x, l4, l5] (vI x :: st) σ Q := q3 (show fnd (pgm m_X3_read) 16 = some (17, 3, 0, 3, 0, []) from rfl) rfl
set_option maxRecDepth 100000 in
theorem s_X3_read_17 {d : Nat} {l0 l1 l2 l3 l4 l5 : AV} {st : List AV} {σ : Sg} {Q : AV → Sg → Prop}  : Rn d m_X3_read 17 [l0, l1, l2, l3, l4, l5] st σ Q ↔ Rn d m_X3_read 20 [l0, l1, l2, l3, l4, l5] (vI 200 :: st) σ Q := q0 (show fnd (pgm m_X3_read) 17 = some (20, 0, 200, 2, 0, []) from rfl)
set_option maxRecDepth 100000 in
theorem s_X3_read_20 {d : Nat} {l0 l1 l2 l3 l4 l5 : AV} {st : List AV} {a b : Int} {σ : Sg} {Q : AV → Sg → Prop}  : Rn d m_X3_read 20 [l0, l1, l2, l3, l4, l5] (vI b :: vI a :: st) σ Q ↔ if w32 b < w32 a then Rn d m_X3_read 115 [l0, l1, l2, l3, l4, l5] st σ Q else Rn d m_X3_read 23 [l0, l1, l2, l3, l4, l5] st σ Q := q20_4 (show fnd (pgm m_X3_read) 20 = some (23, 20, 0, 4, 115, []) from rfl)
set_option maxRecDepth 100000 in
theorem s_X3_read_23 {d : Nat} {l1 l2 l3 l4 l5 : AV} {st : List AV} {o : Nat} {σ : Sg} {Q : AV → Sg → Prop} (ho : o ≠ 0) : Rn d m_X3_read 23 [vR o, l1, l2, l3, l4, l5] st σ Q ↔ Rn d m_X3_read 24 [vR o, l1, l2, l3, l4, l5] (vR o :: st) σ Q := q5 (show fnd (pgm m_X3_read) 23 = some (24, 5, 0, 0, 0, []) from rfl) rfl ho
set_option maxRecDepth 100000 in
theorem s_X3_read_24 {d : Nat} {l0 l1 l2 l3 l4 l5 : AV} {st : List AV} {o : Nat} {σ : Sg} {Q : AV → Sg → Prop} (h4 : st.length ≤ 4) (hk : kn σ o = (0, 3)) : Rn d m_X3_read 24 [l0, l1, l2, l3, l4, l5] (vR o :: st) σ Q ↔ ∃ r σ1, Ev d m_X3_nextToken [vR o] σ r σ1 ∧ Rn d m_X3_read 27 [l0, l1, l2, l3, l4, l5] (psh r st) σ1 Q := q35 (show fnd (pgm m_X3_read) 24 = some (27, 35, 34, 28, 1, []) from rfl) ⟨⟨by simp, by simpa using h4⟩, (by simp only [List.take, List.reverse, List.reverseAux, rcv]; rw [if_neg (by decide +kernel)]; exact decide_eq_true hk)⟩
set_option maxRecDepth 100000 in
theorem s_X3_read_27 {d : Nat} {l0 l1 l2 l3 l4 l5 : AV} {st : List AV} {x : Int} {σ : Sg} {Q : AV → Sg → Prop}  : Rn d m_X3_read 27 [l0, l1, l2, l3, l4, l5] (vI x :: st) σ Q ↔ Rn d m_X3_read 29 [l0, l1, l2, l3, vI x, l5] st σ Q := q6 (show fnd (pgm m_X3_read) 27 = some (29, 6, 0, 4, 1, []) from rfl) (by decide : 4 < 6)
set_option maxRecDepth 100000 in
theorem s_X3_read_29 {d : Nat} {l0 l1 l2 l3 l5 : AV} {st : List AV} {x : Int} {σ : Sg} {Q : AV → Sg → Prop}  : Rn d m_X3_read 29 [l0, l1, l2, l3, vI x, l5] st σ Q ↔ Rn d m_X3_read 31 [l0, l1, l2, l3, vI x, l5] (vI x :: st) σ Q := q3 (show fnd (pgm m_X3_read) 29 = some (31, 3, 0, 4, 1, []) from rfl) rfl
set_option maxRecDepth 100000 in
theorem s_X3_read_31 {d : Nat} {l0 l1 l2 l3 l4 l5 : AV} {st : List AV} {a : Int} {σ : Sg} {Q : AV → Sg → Prop}  : Rn d m_X3_read 31 [l0, l1, l2, l3, l4, l5] (vI a :: st) σ Q ↔ if ¬ w32 a = 0 then Rn d m_X3_read 36 [l0, l1, l2, l3, l4, l5] st σ Q else Rn d m_X3_read 34 [l0, l1, l2, l3, l4, l5] st σ Q := q19_1 (show fnd (pgm m_X3_read) 31 = some (34, 19, 0, 1, 36, []) from rfl)
set_option maxRecDepth 100000 in
theorem s_X3_read_34 {d : Nat} {l0 l1 l2 l3 l4 l5 : AV} {st : List AV} {σ : Sg} {Q : AV → Sg → Prop}  : Rn d m_X3_read 34 [l0, l1, l2, l3, l4, l5] st σ Q ↔ Rn d m_X3_read 35 [l0, l1, l2, l3, l4, l5] (vI (-1) :: st) σ Q := q0 (show fnd (pgm m_X3_read) 34 = some (35, 0, (-1), 0, 0, []) from rfl)
set_option maxRecDepth 100000 in
theorem s_X3_read_35 {d : Nat} {l0 l1 l2 l3 l4 l5 : AV} {x : Int} {σ : Sg} {Q : AV → Sg → Prop}  : Rn d m_X3_read 35 [l0, l1, l2, l3, l4, l5] [vI x] σ Q ↔ Q (vI x) σ := q37_1 (st := []) (show fnd (pgm m_X3_read) 35 = some (36, 37, 0, 1, 0, []) from rfl)
set_option maxRecDepth 100000 in
theorem s_X3_read_36 {d : Nat} {l0 l1 l2 l3 l5 : AV} {st : List AV} {x : Int} {σ : Sg} {Q : AV → Sg → Prop}  : Rn d m_X3_read 36 [l0, l1, l2, l3, vI x, l5] st σ Q ↔ Rn d m_X3_read 38 [l0, l1, l2, l3, vI x, l5] (vI x :: st) σ Q := q3 (show fnd (pgm m_X3_read) 36 = some (38, 3, 0, 4, 1, []) from rfl) rfl
set_option maxRecDepth 100000 in
theorem s_X3_read_38 {d : Nat} {l0 l1 l2 l3 l4 l5 : AV} {st : List AV} {σ : Sg} {Q : AV → Sg → Prop}  : Rn d m_X3_read 38 [l0, l1, l2, l3, l4, l5] st σ Q ↔ Rn d m_X3_read 39 [l0, l1, l2, l3, l4, l5] (vI 1 :: st) σ Q := q0 (show fnd (pgm m_X3_read) 38 = some (39, 0, 1, 0, 0, []) from rfl)
set_option maxRecDepth 100000 in
theorem s_X3_read_39 {d : Nat} {l0 l1 l2 l3 l4 l5 : AV} {st : List AV} {a b : Int} {σ : Sg} {Q : AV → Sg → Prop}  : Rn d m_X3_read 39 [l0, l1, l2, l3, l4, l5] (vI b :: vI a :: st) σ Q ↔ if w32 a = w32 b then Rn d m_X3_read 53 [l0, l1, l2, l3, l4, l5] st σ Q else Rn d m_X3_read 42 [l0, l1, l2, l3, l4, l5] st σ Q := q20_0 (show fnd (pgm m_X3_read) 39 = some (42, 20, 0, 0, 53, []) from rfl)
set_option maxRecDepth 100000 in
theorem s_X3_read_42 {d : Nat} {l0 l1 l2 l3 l5 : AV} {st : List AV} {x : Int} {σ : Sg} {Q : AV → Sg → Prop}  : Rn d m_X3_read 42 [l0, l1, l2, l3, vI x, l5] st σ Q ↔ Rn d m_X3_read 44 [l0, l1, l2, l3, vI x, l5] (vI x :: st) σ Q := q3 (show fnd (pgm m_X3_read) 42 = some (44, 3, 0, 4, 1, []) from rfl) rfl
set_option maxRecDepth 100000 in
theorem s_X3_read_44 {d : Nat} {l0 l1 l2 l3 l4 l5 : AV} {st : List AV} {σ : Sg} {Q : AV → Sg → Prop}  : Rn d m_X3_read 44 [l0, l1, l2, l3, l4, l5] st σ Q ↔ Rn d m_X3_read 45 [l0, l1, l2, l3, l4, l5] (vI 2 :: st) σ Q := q0 (show fnd (pgm m_X3_read) 44 = some (45, 0, 2, 0, 0, []) from rfl)
set_option maxRecDepth 100000 in
theorem s_X3_read_45 {d : Nat} {l0 l1 l2 l3 l4 l5 : AV} {st : List AV} {a b : Int} {σ : Sg} {Q : AV → Sg → Prop}  : Rn d m_X3_read 45 [l0, l1, l2, l3, l4, l5] (vI b :: vI a :: st) σ Q ↔ if w32 a = w32 b then Rn d m_X3_read 53 [l0, l1, l2, l3, l4, l5] st σ Q else Rn d m_X3_read 48 [l0, l1, l2, l3, l4, l5] st σ Q := q20_0 (show fnd (pgm m_X3_read) 45 = some (48, 20, 0, 0, 53, []) from rfl)
set_option maxRecDepth 100000 in
theorem s_X3_read_48 {d : Nat} {l1 l2 l3 l4 l5 : AV} {st : List AV} {o : Nat} {σ : Sg} {Q : AV → Sg → Prop} (ho : o ≠ 0) : Rn d m_X3_read 48 [vR o, l1, l2, l3, l4, l5] st σ Q ↔ Rn d m_X3_read 49 [vR o, l1, l2, l3, l4, l5] (vR o :: st) σ Q := q5 (show fnd (pgm m_X3_read) 48 = some (49, 5, 0, 0, 0, []) from rfl) rfl ho
set_option maxRecDepth 100000 in
theorem s_X3_read_49 {d : Nat} {l0 l1 l2 l3 l4 l5 : AV} {st : List AV} {o : Nat} {σ : Sg} {Q : AV → Sg → Prop} (hk : kn σ o = (0, 3)) : Rn d m_X3_read 49 [l0, l1, l2, l3, l4, l5] (vR o :: st) σ Q ↔ Rn d m_X3_read 52 [l0, l1, l2, l3, l4, l5] (vI (σ o 3) :: st) σ Q := q33 (show fnd (pgm m_X3_read) 49 = some (52, 33, 23, 3, 3, []) from rfl) hk
set_option maxRecDepth 100000 in
theorem s_X3_read_52 {d : Nat} {l0 l1 l2 l3 l4 l5 : AV} {x : Int} {σ : Sg} {Q : AV → Sg → Prop}  : Rn d m_X3_read 52 [l0, l1, l2, l3, l4, l5] [vI x] σ Q ↔ Q (vI x) σ := q37_1 (st := []) (show fnd (pgm m_X3_read) 52 = some (53, 37, 0, 1, 0, []) from rfl)
set_option maxRecDepth 100000 in
theorem s_X3_read_53 {d : Nat} {l1 l2 l3 l4 l5 : AV} {st : List AV} {o : Nat} {σ : Sg} {Q : AV → Sg → Prop} (ho : o ≠ 0) : Rn d m_X3_read 53 [vR o, l1, l2, l3, l4, l5] st σ Q ↔ Rn d m_X3_read 54 [vR o, l1, l2, l3, l4, l5] (vR o :: st) σ Q := q5 (show fnd (pgm m_X3_read) 53 = some (54, 5, 0, 0, 0, []) from rfl) rfl ho
set_option maxRecDepth 100000 in
theorem s_X3_read_54 {d : Nat} {l0 l1 l2 l3 l5 : AV} {st : List AV} {x : Int} {σ : Sg} {Q : AV → Sg → Prop}  : Rn d m_X3_read 54 [l0, l1, l2, l3, vI x, l5] st σ Q ↔ Rn d m_X3_read 56 [l0, l1, l2, l3, vI x, l5] (vI x :: st) σ Q := q3 (show fnd (pgm m_X3_read) 54 = some (56, 3, 0, 4, 1, []) from rfl) rfl
set_option maxRecDepth 100000 in
theorem s_X3_read_56 {d : Nat} {l0 l1 l2 l3 l4 l5 : AV} {st : List AV} {o : Nat} {a0 : Int} {σ : Sg} {Q : AV → Sg → Prop} (h4 : st.length ≤ 4) (hk : kn σ o = (0, 3)) : Rn d m_X3_read 56 [l0, l1, l2, l3, l4, l5] (vI a0 :: vR o :: st) σ Q ↔ ∃ r σ1, Ev d m_X3_readItem [vR o, vI a0] σ r σ1 ∧ Rn d m_X3_read 59 [l0, l1, l2, l3, l4, l5] (psh r st) σ1 Q := q35 (show fnd (pgm m_X3_read) 56 = some (59, 35, 38, 26, 2, []) from rfl) ⟨⟨by simp, by simpa using h4⟩, (by simp only [List.take, List.reverse, List.reverseAux, rcv]; rw [if_neg (by decide +kernel)]; exact decide_eq_true hk)⟩
set_option maxRecDepth 100000 in
theorem s_X3_read_59 {d : Nat} {l0 l1 l2 l3 l4 l5 : AV} {st : List AV} {x : Int} {σ : Sg} {Q : AV → Sg → Prop}  : Rn d m_X3_read 59 [l0, l1, l2, l3, l4, l5] (vI x :: st) σ Q ↔ Rn d m_X3_read 61 [l0, l1, l2, l3, l4, vI x] st σ Q := q6 (show fnd (pgm m_X3_read) 59 = some (61, 6, 0, 5, 1, []) from rfl) (by decide : 5 < 6)
set_option maxRecDepth 100000 in
theorem s_X3_read_61 {d : Nat} {l0 l1 l2 l3 l4 : AV} {st : List AV} {x : Int} {σ : Sg} {Q : AV → Sg → Prop}  : Rn d m_X3_read 61 [l0, l1, l2, l3, l4, vI x] st σ Q ↔ Rn d m_X3_read 63 [l0, l1, l2, l3, l4, vI x] (vI x :: st) σ Q := q3 (show fnd (pgm m_X3_read) 61 = some (63, 3, 0, 5, 1, []) from rfl) rfl
set_option maxRecDepth 100000 in
theorem s_X3_read_63 {d : Nat} {l0 l1 l2 l3 l4 l5 : AV} {st : List AV} {σ : Sg} {Q : AV → Sg → Prop}  : Rn d m_X3_read 63 [l0, l1, l2, l3, l4, l5] st σ Q ↔ Rn d m_X3_read 64 [l0, l1, l2, l3, l4, l5] (vI (-1) :: st) σ Q := q0 (show fnd (pgm m_X3_read) 63 = some (64, 0, (-1), 0, 0, []) from rfl)
set_option maxRecDepth 100000 in
theorem s_X3_read_64 {d : Nat} {l0 l1 l2 l3 l4 l5 : AV} {st : List AV} {a b : Int} {σ : Sg} {Q : AV → Sg → Prop}  : Rn d m_X3_read 64 [l0, l1, l2, l3, l4, l5] (vI b :: vI a :: st) σ Q ↔ if w32 a = w32 b then Rn d m_X3_read 70 [l0, l1, l2, l3, l4, l5] st σ Q else Rn d m_X3_read 67 [l0, l1, l2, l3, l4, l5] st σ Q := q20_0 (show fnd (pgm m_X3_read) 64 = some (67, 20, 0, 0, 70, []) from rfl)
set_option maxRecDepth 100000 in
theorem s_X3_read_67 {d : Nat} {l0 l1 l2 l3 l4 : AV} {st : List AV} {x : Int} {σ : Sg} {Q : AV → Sg → Prop}  : Rn d m_X3_read 67 [l0, l1, l2, l3, l4, vI x] st σ Q ↔ Rn d m_X3_read 69 [l0, l1, l2, l3, l4, vI x] (vI x :: st) σ Q := q3 (show fnd (pgm m_X3_read) 67 = some (69, 3, 0, 5, 1, []) from rfl) rfl
set_option maxRecDepth 100000 in
theorem s_X3_read_69 {d : Nat} {l0 l1 l2 l3 l4 l5 : AV} {x : Int} {σ : Sg} {Q : AV → Sg → Prop}  : Rn d m_X3_read 69 [l0, l1, l2, l3, l4, l5] [vI x] σ Q ↔ Q (vI x) σ := q37_1 (st := []) (show fnd (pgm m_X3_read) 69 = some (70, 37, 0, 1, 0, []) from rfl)
set_option maxRecDepth 100000 in
theorem s_X3_read_70 {d : Nat} {l0 l1 l2 l3 l5 : AV} {st : List AV} {x : Int} {σ : Sg} {Q : AV → Sg → Prop}  : Rn d m_X3_read 70 [l0, l1, l2, l3, vI x, l5] st σ Q ↔ Rn d m_X3_read 72 [l0, l1, l2, l3, vI x, l5] (vI x :: st) σ Q := q3 (show fnd (pgm m_X3_read) 70 = some (72, 3, 0, 4, 1, []) from rfl) rfl
set_option maxRecDepth 100000 in
theorem s_X3_read_72 {d : Nat} {l0 l1 l2 l3 l4 l5 : AV} {st : List AV} {σ : Sg} {Q : AV → Sg → Prop}  : Rn d m_X3_read 72 [l0, l1, l2, l3, l4, l5] st σ Q ↔ Rn d m_X3_read 73 [l0, l1, l2, l3, l4, l5] (vI 1 :: st) σ Q := q0 (show fnd (pgm m_X3_read) 72 = some (73, 0, 1, 0, 0, []) from rfl)
set_option maxRecDepth 100000 in
theorem s_X3_read_73 {d : Nat} {l0 l1 l2 l3 l4 l5 : AV} {st : List AV} {a b : Int} {σ : Sg} {Q : AV → Sg → Prop}  : Rn d m_X3_read 73 [l0, l1, l2, l3, l4, l5] (vI b :: vI a :: st) σ Q ↔ if ¬ w32 a = w32 b then Rn d m_X3_read 87 [l0, l1, l2, l3, l4, l5] st σ Q else Rn d m_X3_read 76 [l0, l1, l2, l3, l4, l5] st σ Q := q20_1 (show fnd (pgm m_X3_read) 73 = some (76, 20, 0, 1, 87, []) from rfl)
set_option maxRecDepth 100000 in
theorem s_X3_read_76 {d : Nat} {l0 l1 l3 l4 l5 : AV} {st : List AV} {o : Nat} {σ : Sg} {Q : AV → Sg → Prop} (ho : o ≠ 0) : Rn d m_X3_read 76 [l0, l1, vR o, l3, l4, l5] st σ Q ↔ Rn d m_X3_read 77 [l0, l1, vR o, l3, l4, l5] (vR o :: st) σ Q := q5 (show fnd (pgm m_X3_read) 76 = some (77, 5, 0, 2, 0, []) from rfl) rfl ho
set_option maxRecDepth 100000 in
theorem s_X3_read_77 {d : Nat} {l1 l2 l3 l4 l5 : AV} {st : List AV} {o : Nat} {σ : Sg} {Q : AV → Sg → Prop} (ho : o ≠ 0) : Rn d m_X3_read 77 [vR o, l1, l2, l3, l4, l5] st σ Q ↔ Rn d m_X3_read 78 [vR o, l1, l2, l3, l4, l5] (vR o :: st) σ Q := q5 (show fnd (pgm m_X3_read) 77 = some (78, 5, 0, 0, 0, []) from rfl) rfl ho
set_option maxRecDepth 100000 in
theorem s_X3_read_78 {d : Nat} {l0 l1 l2 l3 l4 l5 : AV} {st : List AV} {o : Nat} {σ : Sg} {Q : AV → Sg → Prop} (hk : kn σ o = (0, 3)) : Rn d m_X3_read 78 [l0, l1, l2, l3, l4, l5] (vR o :: st) σ Q ↔ Rn d m_X3_read 81 [l0, l1, l2, l3, l4, l5] (vR (tp o 0) :: st) σ Q := q33 (show fnd (pgm m_X3_read) 78 = some (81, 33, 11, 3, 0, []) from rfl) hk
set_option maxRecDepth 100000 in
theorem s_X3_read_81 {d : Nat} {l0 l1 l2 l3 l4 l5 : AV} {st : List AV} {o : Nat} {a0 : Nat} {σ : Sg} {Q : AV → Sg → Prop} (h4 : st.length ≤ 4) (hk : kn σ o = (0, 1)) : Rn d m_X3_read 81 [l0, l1, l2, l3, l4, l5] (vR a0 :: vR o :: st) σ Q ↔ ∃ r σ1, Ev d m_X1_addClaim [vR o, vR a0] σ r σ1 ∧ Rn d m_X3_read 84 [l0, l1, l2, l3, l4, l5] (psh r st) σ1 Q := q35 (show fnd (pgm m_X3_read) 81 = some (84, 35, 42, 13, 2, []) from rfl) ⟨⟨by simp, by simpa using h4⟩, (by simp only [List.take, List.reverse, List.reverseAux, rcv]; rw [if_neg (by decide +kernel)]; exact decide_eq_true hk)⟩
set_option maxRecDepth 100000 in
theorem s_X3_read_84 {d : Nat} {l0 l1 l2 l3 l4 l5 : AV} {st : List AV} {σ : Sg} {Q : AV → Sg → Prop}  : Rn d m_X3_read 84 [l0, l1, l2, l3, l4, l5] st σ Q ↔ Rn d m_X3_read 109 [l0, l1, l2, l3, l4, l5] st σ Q := q21 (show fnd (pgm m_X3_read) 84 = some (87, 21, 0, 0, 109, []) from rfl)
set_option maxRecDepth 100000 in
theorem s_X3_read_87 {d : Nat} {l0 l1 l3 l4 l5 : AV} {st : List AV} {o : Nat} {σ : Sg} {Q : AV → Sg → Prop} (ho : o ≠ 0) : Rn d m_X3_read 87 [l0, l1, vR o, l3, l4, l5] st σ Q ↔ Rn d m_X3_read 88 [l0, l1, vR o, l3, l4, l5] (vR o :: st) σ Q := q5 (show fnd (pgm m_X3_read) 87 = some (88, 5, 0, 2, 0, []) from rfl) rfl ho
set_option maxRecDepth 100000 in
theorem s_X3_read_88 {d : Nat} {l1 l2 l3 l4 l5 : AV} {st : List AV} {o : Nat} {σ : Sg} {Q : AV → Sg → Prop} (ho : o ≠ 0) : Rn d m_X3_read 88 [vR o, l1, l2, l3, l4, l5] st σ Q ↔ Rn d m_X3_read 89 [vR o, l1, l2, l3, l4, l5] (vR o :: st) σ Q := q5 (show fnd (pgm m_X3_read) 88 = some (89, 5, 0, 0, 0, []) from rfl) rfl ho
set_option maxRecDepth 100000 in
theorem s_X3_read_89 {d : Nat} {l0 l1 l2 l3 l4 l5 : AV} {st : List AV} {o : Nat} {σ : Sg} {Q : AV → Sg → Prop} (hk : kn σ o = (0, 3)) : Rn d m_X3_read 89 [l0, l1, l2, l3, l4, l5] (vR o :: st) σ Q ↔ Rn d m_X3_read 92 [l0, l1, l2, l3, l4, l5] (vR (tp o 0) :: st) σ Q := q33 (show fnd (pgm m_X3_read) 89 = some (92, 33, 11, 3, 0, []) from rfl) hk
set_option maxRecDepth 100000 in
theorem s_X3_read_92 {d : Nat} {l0 l1 l2 l3 l4 l5 : AV} {st : List AV} {σ : Sg} {Q : AV → Sg → Prop}  : Rn d m_X3_read 92 [l0, l1, l2, l3, l4, l5] st σ Q ↔ Rn d m_X3_read 93 [l0, l1, l2, l3, l4, l5] (vI 0 :: st) σ Q := q0 (show fnd (pgm m_X3_read) 92 = some (93, 0, 0, 0, 0, []) from rfl)
set_option maxRecDepth 100000 in
theorem s_X3_read_93 {d : Nat} {l0 l1 l2 l3 l4 l5 : AV} {st : List AV} {i : Int} {o : Nat} {σ : Sg} {Q : AV → Sg → Prop} (hi : 0 ≤ w32 i ∧ w32 i < al σ 1 o) : Rn d m_X3_read 93 [l0, l1, l2, l3, l4, l5] (vI i :: vR o :: st) σ Q ↔ Rn d m_X3_read 94 [l0, l1, l2, l3, l4, l5] (vI (σ o (w32 i)) :: st) σ Q := q25 (show fnd (pgm m_X3_read) 93 = some (94, 25, 0, 0, 0, []) from rfl) hi
set_option maxRecDepth 100000 in
theorem s_X3_read_94 {d : Nat} {l1 l2 l3 l4 l5 : AV} {st : List AV} {o : Nat} {σ : Sg} {Q : AV → Sg → Prop} (ho : o ≠ 0) : Rn d m_X3_read 94 [vR o, l1, l2, l3, l4, l5] st σ Q ↔ Rn d m_X3_read 95 [vR o, l1, l2, l3, l4, l5] (vR o :: st) σ Q := q5 (show fnd (pgm m_X3_read) 94 = some (95, 5, 0, 0, 0, []) from rfl) rfl ho
set_option maxRecDepth 100000 in
theorem s_X3_read_95 {d : Nat} {l0 l1 l2 l3 l4 l5 : AV} {st : List AV} {o : Nat} {σ : Sg} {Q : AV → Sg → Prop} (hk : kn σ o = (0, 3)) : Rn d m_X3_read 95 [l0, l1, l2, l3, l4, l5] (vR o :: st) σ Q ↔ Rn d m_X3_read 98 [l0, l1, l2, l3, l4, l5] (vR (tp o 0) :: st) σ Q := q33 (show fnd (pgm m_X3_read) 95 = some (98, 33, 11, 3, 0, []) from rfl) hk
set_option maxRecDepth 100000 in
theorem s_X3_read_98 {d : Nat} {l0 l1 l2 l3 l4 l5 : AV} {st : List AV} {σ : Sg} {Q : AV → Sg → Prop}  : Rn d m_X3_read 98 [l0, l1, l2, l3, l4, l5] st σ Q ↔ Rn d m_X3_read 99 [l0, l1, l2, l3, l4, l5] (vI 1 :: st) σ Q := q0 (show fnd (pgm m_X3_read) 98 = some (99, 0, 1, 0, 0, []) from rfl)
set_option maxRecDepth 100000 in
theorem s_X3_read_99 {d : Nat} {l0 l1 l2 l3 l4 l5 : AV} {st : List AV} {i : Int} {o : Nat} {σ : Sg} {Q : AV → Sg → Prop} (hi : 0 ≤ w32 i ∧ w32 i < al σ 1 o) : Rn d m_X3_read 99 [l0, l1, l2, l3, l4, l5] (vI i :: vR o :: st) σ Q ↔ Rn d m_X3_read 100 [l0, l1, l2, l3, l4, l5] (vI (σ o (w32 i)) :: st) σ Q := q25 (show fnd (pgm m_X3_read) 99 = some (100, 25, 0, 0, 0, []) from rfl) hi
set_option maxRecDepth 100000 in
theorem s_X3_read_100 {d : Nat} {l1 l2 l3 l4 l5 : AV} {st : List AV} {o : Nat} {σ : Sg} {Q : AV → Sg → Prop} (ho : o ≠ 0) : Rn d m_X3_read 100 [vR o, l1, l2, l3, l4, l5] st σ Q ↔ Rn d m_X3_read 101 [vR o, l1, l2, l3, l4, l5] (vR o :: st) σ Q := q5 (show fnd (pgm m_X3_read) 100 = some (101, 5, 0, 0, 0, []) from rfl) rfl ho
set_option maxRecDepth 100000 in
theorem s_X3_read_101 {d : Nat} {l0 l1 l2 l3 l4 l5 : AV} {st : List AV} {o : Nat} {σ : Sg} {Q : AV → Sg → Prop} (hk : kn σ o = (0, 3)) : Rn d m_X3_read 101 [l0, l1, l2, l3, l4, l5] (vR o :: st) σ Q ↔ Rn d m_X3_read 104 [l0, l1, l2, l3, l4, l5] (vR (tp o 0) :: st) σ Q := q33 (show fnd (pgm m_X3_read) 101 = some (104, 33, 11, 3, 0, []) from rfl) hk
set_option maxRecDepth 100000 in
theorem s_X3_read_104 {d : Nat} {l0 l1 l2 l3 l4 l5 : AV} {st : List AV} {σ : Sg} {Q : AV → Sg → Prop}  : Rn d m_X3_read 104 [l0, l1, l2, l3, l4, l5] st σ Q ↔ Rn d m_X3_read 105 [l0, l1, l2, l3, l4, l5] (vI 2 :: st) σ Q := q0 (show fnd (pgm m_X3_read) 104 = some (105, 0, 2, 0, 0, []) from rfl)
set_option maxRecDepth 100000 in
theorem s_X3_read_105 {d : Nat} {l0 l1 l2 l3 l4 l5 : AV} {st : List AV} {i : Int} {o : Nat} {σ : Sg} {Q : AV → Sg → Prop} (hi : 0 ≤ w32 i ∧ w32 i < al σ 1 o) : Rn d m_X3_read 105 [l0, l1, l2, l3, l4, l5] (vI i :: vR o :: st) σ Q ↔ Rn d m_X3_read 106 [l0, l1, l2, l3, l4, l5] (vI (σ o (w32 i)) :: st) σ Q := q25 (show fnd (pgm m_X3_read) 105 = some (106, 25, 0, 0, 0, []) from rfl) hi
set_option maxRecDepth 100000 in
theorem s_X3_read_106 {d : Nat} {l0 l1 l2 l3 l4 l5 : AV} {st : List AV} {o : Nat} {a0 : Int} {a1 : Int} {a2 : Int} {σ : Sg} {Q : AV → Sg → Prop} (h4 : st.length ≤ 4) (hk : kn σ o = (0, 1)) : Rn d m_X3_read 106 [l0, l1, l2, l3, l4, l5] (vI a2 :: vI a1 :: vI a0 :: vR o :: st) σ Q ↔ ∃ r σ1, Ev d m_X1_giveBack [vR o, vI a0, vI a1, vI a2] σ r σ1 ∧ Rn d m_X3_read 109 [l0, l1, l2, l3, l4, l5] (psh r st) σ1 Q := q35 (show fnd (pgm m_X3_read) 106 = some (109, 35, 46, 14, 4, []) from rfl) ⟨⟨by simp, by simpa using h4⟩, (by simp only [List.take, List.reverse, List.reverseAux, rcv]; rw [if_neg (by decide +kernel)]; exact decide_eq_true hk)⟩
set_option maxRecDepth 100000 in
theorem s_X3_read_109 {d : Nat} {l0 l1 l2 l4 l5 : AV} {st : List AV} {x : Int} {σ : Sg} {Q : AV → Sg → Prop}  : Rn d m_X3_read 109 [l0, l1, l2, vI x, l4, l5] st σ Q ↔ Rn d m_X3_read 112 [l0, l1, l2, vI (x + 1), l4, l5] st σ Q := q9 (show fnd (pgm m_X3_read) 109 = some (112, 9, 1, 3, 0, []) from rfl) rfl
set_option maxRecDepth 100000 in
theorem s_X3_read_112 {d : Nat} {l0 l1 l2 l3 l4 l5 : AV} {st : List AV} {σ : Sg} {Q : AV → Sg → Prop}  : Rn d m_X3_read 112 [l0, l1, l2, l3, l4, l5] st σ Q ↔ Rn d m_X3_read 16 [l0, l1, l2, l3, l4, l5] st σ Q := q21 (show fnd (pgm m_X3_read) 112 = some (115, 21, 0, 0, 16, []) from rfl)
set_option maxRecDepth 100000 in
theorem s_X3_read_115 {d : Nat} {l0 l1 l2 l3 l4 l5 : AV} {st : List AV} {σ : Sg} {Q : AV → Sg → Prop}  : Rn d m_X3_read 115 [l0, l1, l2, l3, l4, l5] st σ Q ↔ Rn d m_X3_read 116 [l0, l1, l2, l3, l4, l5] (vI (-1) :: st) σ Q := q0 (show fnd (pgm m_X3_read) 115 = some (116, 0, (-1), 0, 0, []) from rfl)
set_option maxRecDepth 100000 in
theorem s_X3_read_116 {d : Nat} {l0 l1 l2 l3 l4 l5 : AV} {x : Int} {σ : Sg} {Q : AV → Sg → Prop}  : Rn d m_X3_read 116 [l0, l1, l2, l3, l4, l5] [vI x] σ Q ↔ Q (vI x) σ := q37_1 (st := []) (show fnd (pgm m_X3_read) 116 = some (117, 37, 0, 1, 0, []) from rfl)
set_option maxRecDepth 100000 in
theorem en_X3_readItem {d : Nat} {o : Nat} {a0 : Int} {σ σ0 : Sg} {r0 : AV} (h : Rn d m_X3_readItem 0 [vR o, vI a0, none, none] [] σ (fun r σ1 => r = r0 ∧ σ1 = σ0)) : Ev (d + 1) m_X3_readItem [vR o, vI a0] σ r0 σ0 := Ev_is (Nat.le_of_ble_eq_true rfl) h
set_option maxRecDepth 100000 in
theorem eo_X3_readItem {d : Nat} {o : Nat} {a0 : Int} {σ : Sg} {Q : AV → Sg → Prop} (h : Rn d m_X3_readItem 0 [vR o, vI a0, none, none] [] σ Q) : ∃ r σ1, Ev (d + 1) m_X3_readItem [vR o, vI a0] σ r σ1 ∧ Q r σ1 := Ev_of (Nat.le_of_ble_eq_true rfl) h
set_option maxRecDepth 100000 in
theorem s_X3_readItem_0 {d : Nat} {l0 l2 l3 : AV} {st : List AV} {x : Int} {σ : Sg} {Q : AV → Sg → Prop}  : Rn d m_X3_readItem 0 [l0, vI x, l2, l3] st σ Q ↔ Rn d m_X3_readItem 1 [l0, vI x, l2, l3] (vI x :: st) σ Q := q3 (show fnd (pgm m_X3_readItem) 0 = some (1, 3, 0, 1, 0, []) from rfl) rfl
set_option maxRecDepth 100000 in
theorem s_X3_readItem_1 {d : Nat} {l0 l1 l2 l3 : AV} {st : List AV} {σ : Sg} {Q : AV → Sg → Prop}  : Rn d m_X3_readItem 1 [l0, l1, l2, l3] st σ Q ↔ Rn d m_X3_readItem 2 [l0, l1, l2, l3] (vI 1 :: st) σ Q := q0 (show fnd (pgm m_X3_readItem) 1 = some (2, 0, 1, 0, 0, []) from rfl)
set_option maxRecDepth 100000 in
theorem s_X3_readItem_2 {d : Nat} {l0 l1 l2 l3 : AV} {st : List AV} {a b : Int} {σ : Sg} {Q : AV → Sg → Prop}  : Rn d m_X3_readItem 2 [l0, l1, l2, l3] (vI b :: vI a :: st) σ Q ↔ if ¬ w32 a = w32 b then Rn d m_X3_readItem 9 [l0, l1, l2, l3] st σ Q else Rn d m_X3_readItem 5 [l0, l1, l2, l3] st σ Q := q20_1 (show fnd (pgm m_X3_readItem) 2 = some (5, 20, 0, 1, 9, []) from rfl)
set_option maxRecDepth 100000 in
theorem s_X3_readItem_5 {d : Nat} {l0 l1 l2 l3 : AV} {st : List AV} {σ : Sg} {Q : AV → Sg → Prop}  : Rn d m_X3_readItem 5 [l0, l1, l2, l3] st σ Q ↔ Rn d m_X3_readItem 6 [l0, l1, l2, l3] (vI 5 :: st) σ Q := q0 (show fnd (pgm m_X3_readItem) 5 = some (6, 0, 5, 0, 0, []) from rfl)
set_option maxRecDepth 100000 in
theorem s_X3_readItem_6 {d : Nat} {l0 l1 l2 l3 : AV} {st : List AV} {σ : Sg} {Q : AV → Sg → Prop}  : Rn d m_X3_readItem 6 [l0, l1, l2, l3] st σ Q ↔ Rn d m_X3_readItem 10 [l0, l1, l2, l3] st σ Q := q21 (show fnd (pgm m_X3_readItem) 6 = some (9, 21, 0, 0, 10, []) from rfl)
set_option maxRecDepth 100000 in
theorem s_X3_readItem_9 {d : Nat} {l0 l1 l2 l3 : AV} {st : List AV} {σ : Sg} {Q : AV → Sg → Prop}  : Rn d m_X3_readItem 9 [l0, l1, l2, l3] st σ Q ↔ Rn d m_X3_readItem 10 [l0, l1, l2, l3] (vI 3 :: st) σ Q := q0 (show fnd (pgm m_X3_readItem) 9 = some (10, 0, 3, 0, 0, []) from rfl)
set_option maxRecDepth 100000 in
theorem s_X3_readItem_10 {d : Nat} {l0 l1 l2 l3 : AV} {st : List AV} {x : Int} {σ : Sg} {Q : AV → Sg → Prop}  : Rn d m_X3_readItem 10 [l0, l1, l2, l3] (vI x :: st) σ Q ↔ Rn d m_X3_readItem 11 [l0, l1, vI x, l3] st σ Q := q6 (show fnd (pgm m_X3_readItem) 10 = some (11, 6, 0, 2, 0, []) from rfl) (by decide : 2 < 4)
set_option maxRecDepth 100000 in
theorem s_X3_readItem_11 {d : Nat} {l0 l1 l2 l3 : AV} {st : List AV} {σ : Sg} {Q : AV → Sg → Prop}  : Rn d m_X3_readItem 11 [l0, l1, l2, l3] st σ Q ↔ Rn d m_X3_readItem 12 [l0, l1, l2, l3] (vI 0 :: st) σ Q := q0 (show fnd (pgm m_X3_readItem) 11 = some (12, 0, 0, 0, 0, []) from rfl)
set_option maxRecDepth 100000 in
theorem s_X3_readItem_12 {d : Nat} {l0 l1 l2 l3 : AV} {st : List AV} {x : Int} {σ : Sg} {Q : AV → Sg → Prop}  : Rn d m_X3_readItem 12 [l0, l1, l2, l3] (vI x :: st) σ Q ↔ Rn d m_X3_readItem 13 [l0, l1, l2, vI x] st σ Q := q6 (show fnd (pgm m_X3_readItem) 12 = some (13, 6, 0, 3, 0, []) from rfl) (by decide : 3 < 4)
set_option maxRecDepth 100000 in
theorem s_X3_readItem_13 {d : Nat} {l0 l1 l2 : AV} {st : List AV} {x : Int} {σ : Sg} {Q : AV → Sg → Prop}  : Rn d m_X3_readItem 13 [l0, l1, l2, vI x] st σ Q ↔ Rn d m_X3_readItem 14 [l0, l1, l2, vI x] (vI x :: st) σ Q := q3 (show fnd (pgm m_X3_readItem) 13 = some (14, 3, 0, 3, 0, []) from rfl) rfl
set_option maxRecDepth 100000 in
theorem s_X3_readItem_14 {d : Nat} {l0 l1 l3 : AV} {st : List AV} {x : Int} {σ : Sg} {Q : AV → Sg → Prop}  : Rn d m_X3_readItem 14 [l0, l1, vI x, l3] st σ Q ↔ Rn d m_X3_readItem 15 [l0, l1, vI x, l3] (vI x :: st) σ Q := q3 (show fnd (pgm m_X3_readItem) 14 = some (15, 3, 0, 2, 0, []) from rfl) rfl
set_option maxRecDepth 100000 in
theorem s_X3_readItem_15 {d : Nat} {l0 l1 l2 l3 : AV} {st : List AV} {a b : Int} {σ : Sg} {Q : AV → Sg → Prop}  : Rn d m_X3_readItem 15 [l0, l1, l2, l3] (vI b :: vI a :: st) σ Q ↔ if w32 b ≤ w32 a then Rn d m_X3_readItem 56 [l0, l1, l2, l3] st σ Q else Rn d m_X3_readItem 18 [l0, l1, l2, l3] st σ Q := q20_3 (show fnd (pgm m_X3_readItem) 15 = some (18, 20, 0, 3, 56, []) from rfl)
set_option maxRecDepth 100000 in
theorem s_X3_readItem_18 {d : Nat} {l1 l2 l3 : AV} {st : List AV} {o : Nat} {σ : Sg} {Q : AV → Sg → Prop} (ho : o ≠ 0) : Rn d m_X3_readItem 18 [vR o, l1, l2, l3] st σ Q ↔ Rn d m_X3_readItem 19 [vR o, l1, l2, l3] (vR o :: st) σ Q := q5 (show fnd (pgm m_X3_readItem) 18 = some (19, 5, 0, 0, 0, []) from rfl) rfl ho
set_option maxRecDepth 100000 in
theorem s_X3_readItem_19 {d : Nat} {l0 l1 l2 l3 : AV} {st : List AV} {o : Nat} {σ : Sg} {Q : AV → Sg → Prop} (h4 : st.length ≤ 4) (hk : kn σ o = (0, 3)) : Rn d m_X3_readItem 19 [l0, l1, l2, l3] (vR o :: st) σ Q ↔ ∃ r σ1, Ev d m_X3_nextToken [vR o] σ r σ1 ∧ Rn d m_X3_readItem 22 [l0, l1, l2, l3] (psh r st) σ1 Q := q35 (show fnd (pgm m_X3_readItem) 19 = some (22, 35, 34, 28, 1, []) from rfl) ⟨⟨by simp, by simpa using h4⟩, (by simp only [List.take, List.reverse, List.reverseAux, rcv]; rw [if_neg (by decide +kernel)]; exact decide_eq_true hk)⟩
set_option maxRecDepth 100000 in
theorem s_X3_readItem_22 {d : Nat} {l0 l1 l2 l3 : AV} {st : List AV} {σ : Sg} {Q : AV → Sg → Prop}  : Rn d m_X3_readItem 22 [l0, l1, l2, l3] st σ Q ↔ Rn d m_X3_readItem 23 [l0, l1, l2, l3] (vI 3 :: st) σ Q := q0 (show fnd (pgm m_X3_readItem) 22 = some (23, 0, 3, 0, 0, []) from rfl)
set_option maxRecDepth 100000 in
theorem s_X3_readItem_23 {d : Nat} {l0 l1 l2 l3 : AV} {st : List AV} {a b : Int} {σ : Sg} {Q : AV → Sg → Prop}  : Rn d m_X3_readItem 23 [l0, l1, l2, l3] (vI b :: vI a :: st) σ Q ↔ if ¬ w32 a = w32 b then Rn d m_X3_readItem 35 [l0, l1, l2, l3] st σ Q else Rn d m_X3_readItem 26 [l0, l1, l2, l3] st σ Q := q20_1 (show fnd (pgm m_X3_readItem) 23 = some (26, 20, 0, 1, 35, []) from rfl)
set_option maxRecDepth 100000 in
theorem s_X3_readItem_26 {d : Nat} {l1 l2 l3 : AV} {st : List AV} {o : Nat} {σ : Sg} {Q : AV → Sg → Prop} (ho : o ≠ 0) : Rn d m_X3_readItem 26 [vR o, l1, l2, l3] st σ Q ↔ Rn d m_X3_readItem 27 [vR o, l1, l2, l3] (vR o :: st) σ Q := q5 (show fnd (pgm m_X3_readItem) 26 = some (27, 5, 0, 0, 0, []) from rfl) rfl ho
set_option maxRecDepth 100000 in
theorem s_X3_readItem_27 {d : Nat} {l0 l2 l3 : AV} {st : List AV} {x : Int} {σ : Sg} {Q : AV → Sg → Prop}  : Rn d m_X3_readItem 27 [l0, vI x, l2, l3] st σ Q ↔ Rn d m_X3_readItem 28 [l0, vI x, l2, l3] (vI x :: st) σ Q := q3 (show fnd (pgm m_X3_readItem) 27 = some (28, 3, 0, 1, 0, []) from rfl) rfl
set_option maxRecDepth 100000 in
theorem s_X3_readItem_28 {d : Nat} {l0 l1 l2 : AV} {st : List AV} {x : Int} {σ : Sg} {Q : AV → Sg → Prop}  : Rn d m_X3_readItem 28 [l0, l1, l2, vI x] st σ Q ↔ Rn d m_X3_readItem 29 [l0, l1, l2, vI x] (vI x :: st) σ Q := q3 (show fnd (pgm m_X3_readItem) 28 = some (29, 3, 0, 3, 0, []) from rfl) rfl
set_option maxRecDepth 100000 in
theorem s_X3_readItem_29 {d : Nat} {l0 l1 l2 l3 : AV} {st : List AV} {o : Nat} {a0 : Int} {a1 : Int} {σ : Sg} {Q : AV → Sg → Prop} (h4 : st.length ≤ 4) (hk : kn σ o = (0, 3)) : Rn d m_X3_readItem 29 [l0, l1, l2, l3] (vI a1 :: vI a0 :: vR o :: st) σ Q ↔ ∃ r σ1, Ev d m_X3_numberFits [vR o, vI a0, vI a1] σ r σ1 ∧ Rn d m_X3_readItem 32 [l0, l1, l2, l3] (psh r st) σ1 Q := q35 (show fnd (pgm m_X3_readItem) 29 = some (32, 35, 50, 27, 3, []) from rfl) ⟨⟨by simp, by simpa using h4⟩, (by simp only [List.take, List.reverse, List.reverseAux, rcv]; rw [if_neg (by decide +kernel)]; exact decide_eq_true hk)⟩
set_option maxRecDepth 100000 in
theorem s_X3_readItem_32 {d : Nat} {l0 l1 l2 l3 : AV} {st : List AV} {a : Int} {σ : Sg} {Q : AV → Sg → Prop}  : Rn d m_X3_readItem 32 [l0, l1, l2, l3] (vI a :: st) σ Q ↔ if ¬ w32 a = 0 then Rn d m_X3_readItem 40 [l0, l1, l2, l3] st σ Q else Rn d m_X3_readItem 35 [l0, l1, l2, l3] st σ Q := q19_1 (show fnd (pgm m_X3_readItem) 32 = some (35, 19, 0, 1, 40, []) from rfl)
set_option maxRecDepth 100000 in
theorem s_X3_readItem_35 {d : Nat} {l1 l2 l3 : AV} {st : List AV} {o : Nat} {σ : Sg} {Q : AV → Sg → Prop} (ho : o ≠ 0) : Rn d m_X3_readItem 35 [vR o, l1, l2, l3] st σ Q ↔ Rn d m_X3_readItem 36 [vR o, l1, l2, l3] (vR o :: st) σ Q := q5 (show fnd (pgm m_X3_readItem) 35 = some (36, 5, 0, 0, 0, []) from rfl) rfl ho
set_option maxRecDepth 100000 in
theorem s_X3_readItem_36 {d : Nat} {l0 l1 l2 l3 : AV} {st : List AV} {o : Nat} {σ : Sg} {Q : AV → Sg → Prop} (hk : kn σ o = (0, 3)) : Rn d m_X3_readItem 36 [l0, l1, l2, l3] (vR o :: st) σ Q ↔ Rn d m_X3_readItem 39 [l0, l1, l2, l3] (vI (σ o 3) :: st) σ Q := q33 (show fnd (pgm m_X3_readItem) 36 = some (39, 33, 23, 3, 3, []) from rfl) hk
set_option maxRecDepth 100000 in
theorem s_X3_readItem_39 {d : Nat} {l0 l1 l2 l3 : AV} {x : Int} {σ : Sg} {Q : AV → Sg → Prop}  : Rn d m_X3_readItem 39 [l0, l1, l2, l3] [vI x] σ Q ↔ Q (vI x) σ := q37_1 (st := []) (show fnd (pgm m_X3_readItem) 39 = some (40, 37, 0, 1, 0, []) from rfl)
set_option maxRecDepth 100000 in
theorem s_X3_readItem_40 {d : Nat} {l1 l2 l3 : AV} {st : List AV} {o : Nat} {σ : Sg} {Q : AV → Sg → Prop} (ho : o ≠ 0) : Rn d m_X3_readItem 40 [vR o, l1, l2, l3] st σ Q ↔ Rn d m_X3_readItem 41 [vR o, l1, l2, l3] (vR o :: st) σ Q := q5 (show fnd (pgm m_X3_readItem) 40 = some (41, 5, 0, 0, 0, []) from rfl) rfl ho
set_option maxRecDepth 100000 in
theorem s_X3_readItem_41 {d : Nat} {l0 l1 l2 l3 : AV} {st : List AV} {o : Nat} {σ : Sg} {Q : AV → Sg → Prop} (hk : kn σ o = (0, 3)) : Rn d m_X3_readItem 41 [l0, l1, l2, l3] (vR o :: st) σ Q ↔ Rn d m_X3_readItem 44 [l0, l1, l2, l3] (vR (tp o 0) :: st) σ Q := q33 (show fnd (pgm m_X3_readItem) 41 = some (44, 33, 11, 3, 0, []) from rfl) hk
set_option maxRecDepth 100000 in
theorem s_X3_readItem_44 {d : Nat} {l0 l1 l2 : AV} {st : List AV} {x : Int} {σ : Sg} {Q : AV → Sg → Prop}  : Rn d m_X3_readItem 44 [l0, l1, l2, vI x] st σ Q ↔ Rn d m_X3_readItem 45 [l0, l1, l2, vI x] (vI x :: st) σ Q := q3 (show fnd (pgm m_X3_readItem) 44 = some (45, 3, 0, 3, 0, []) from rfl) rfl
set_option maxRecDepth 100000 in
theorem s_X3_readItem_45 {d : Nat} {l1 l2 l3 : AV} {st : List AV} {o : Nat} {σ : Sg} {Q : AV → Sg → Prop} (ho : o ≠ 0) : Rn d m_X3_readItem 45 [vR o, l1, l2, l3] st σ Q ↔ Rn d m_X3_readItem 46 [vR o, l1, l2, l3] (vR o :: st) σ Q := q5 (show fnd (pgm m_X3_readItem) 45 = some (46, 5, 0, 0, 0, []) from rfl) rfl ho
set_option maxRecDepth 100000 in
theorem s_X3_readItem_46 {d : Nat} {l0 l1 l2 l3 : AV} {st : List AV} {o : Nat} {σ : Sg} {Q : AV → Sg → Prop} (hk : kn σ o = (0, 3)) : Rn d m_X3_readItem 46 [l0, l1, l2, l3] (vR o :: st) σ Q ↔ Rn d m_X3_readItem 49 [l0, l1, l2, l3] (vI (σ o 4) :: st) σ Q := q33 (show fnd (pgm m_X3_readItem) 46 = some (49, 33, 26, 3, 4, []) from rfl) hk
set_option maxRecDepth 100000 in
theorem s_X3_readItem_49 {d : Nat} {l0 l1 l2 l3 : AV} {st : List AV} {i x : Int} {o : Nat} {σ : Sg} {Q : AV → Sg → Prop} (hi : 0 ≤ w32 i ∧ w32 i < al σ 1 o) : Rn d m_X3_readItem 49 [l0, l1, l2, l3] (vI x :: vI i :: vR o :: st) σ Q ↔ Rn d m_X3_readItem 50 [l0, l1, l2, l3] st (up σ o (w32 i) x) Q := q29 (show fnd (pgm m_X3_readItem) 49 = some (50, 29, 0, 0, 0, []) from rfl) hi
set_option maxRecDepth 100000 in
theorem s_X3_readItem_50 {d : Nat} {l0 l1 l2 : AV} {st : List AV} {x : Int} {σ : Sg} {Q : AV → Sg → Prop}  : Rn d m_X3_readItem 50 [l0, l1, l2, vI x] st σ Q ↔ Rn d m_X3_readItem 53 [l0, l1, l2, vI (x + 1)] st σ Q := q9 (show fnd (pgm m_X3_readItem) 50 = some (53, 9, 1, 3, 0, []) from rfl) rfl
set_option maxRecDepth 100000 in
theorem s_X3_readItem_53 {d : Nat} {l0 l1 l2 l3 : AV} {st : List AV} {σ : Sg} {Q : AV → Sg → Prop}  : Rn d m_X3_readItem 53 [l0, l1, l2, l3] st σ Q ↔ Rn d m_X3_readItem 13 [l0, l1, l2, l3] st σ Q := q21 (show fnd (pgm m_X3_readItem) 53 = some (56, 21, 0, 0, 13, []) from rfl)
set_option maxRecDepth 100000 in
theorem s_X3_readItem_56 {d : Nat} {l1 l2 l3 : AV} {st : List AV} {o : Nat} {σ : Sg} {Q : AV → Sg → Prop} (ho : o ≠ 0) : Rn d m_X3_readItem 56 [vR o, l1, l2, l3] st σ Q ↔ Rn d m_X3_readItem 57 [vR o, l1, l2, l3] (vR o :: st) σ Q := q5 (show fnd (pgm m_X3_readItem) 56 = some (57, 5, 0, 0, 0, []) from rfl) rfl ho
set_option maxRecDepth 100000 in
theorem s_X3_readItem_57 {d : Nat} {l0 l1 l2 l3 : AV} {st : List AV} {o : Nat} {σ : Sg} {Q : AV → Sg → Prop} (h4 : st.length ≤ 4) (hk : kn σ o = (0, 3)) : Rn d m_X3_readItem 57 [l0, l1, l2, l3] (vR o :: st) σ Q ↔ ∃ r σ1, Ev d m_X3_nextToken [vR o] σ r σ1 ∧ Rn d m_X3_readItem 60 [l0, l1, l2, l3] (psh r st) σ1 Q := q35 (show fnd (pgm m_X3_readItem) 57 = some (60, 35, 34, 28, 1, []) from rfl) ⟨⟨by simp, by simpa using h4⟩, (by simp only [List.take, List.reverse, List.reverseAux, rcv]; rw [if_neg (by decide +kernel)]; exact decide_eq_true hk)⟩
set_option maxRecDepth 100000 in
theorem s_X3_readItem_60 {d : Nat} {l0 l1 l2 l3 : AV} {st : List AV} {σ : Sg} {Q : AV → Sg → Prop}  : Rn d m_X3_readItem 60 [l0, l1, l2, l3] st σ Q ↔ Rn d m_X3_readItem 61 [l0, l1, l2, l3] (vI 4 :: st) σ Q := q0 (show fnd (pgm m_X3_readItem) 60 = some (61, 0, 4, 0, 0, []) from rfl)
set_option maxRecDepth 100000 in
theorem s_X3_readItem_61 {d : Nat} {l0 l1 l2 l3 : AV} {st : List AV} {a b : Int} {σ : Sg} {Q : AV → Sg → Prop}  : Rn d m_X3_readItem 61 [l0, l1, l2, l3] (vI b :: vI a :: st) σ Q ↔ if ¬ w32 a = w32 b then Rn d m_X3_readItem 68 [l0, l1, l2, l3] st σ Q else Rn d m_X3_readItem 64 [l0, l1, l2, l3] st σ Q := q20_1 (show fnd (pgm m_X3_readItem) 61 = some (64, 20, 0, 1, 68, []) from rfl)
set_option maxRecDepth 100000 in
theorem s_X3_readItem_64 {d : Nat} {l0 l1 l2 l3 : AV} {st : List AV} {σ : Sg} {Q : AV → Sg → Prop}  : Rn d m_X3_readItem 64 [l0, l1, l2, l3] st σ Q ↔ Rn d m_X3_readItem 65 [l0, l1, l2, l3] (vI (-1) :: st) σ Q := q0 (show fnd (pgm m_X3_readItem) 64 = some (65, 0, (-1), 0, 0, []) from rfl)
set_option maxRecDepth 100000 in
theorem s_X3_readItem_65 {d : Nat} {l0 l1 l2 l3 : AV} {st : List AV} {σ : Sg} {Q : AV → Sg → Prop}  : Rn d m_X3_readItem 65 [l0, l1, l2, l3] st σ Q ↔ Rn d m_X3_readItem 72 [l0, l1, l2, l3] st σ Q := q21 (show fnd (pgm m_X3_readItem) 65 = some (68, 21, 0, 0, 72, []) from rfl)
set_option maxRecDepth 100000 in
theorem s_X3_readItem_68 {d : Nat} {l1 l2 l3 : AV} {st : List AV} {o : Nat} {σ : Sg} {Q : AV → Sg → Prop} (ho : o ≠ 0) : Rn d m_X3_readItem 68 [vR o, l1, l2, l3] st σ Q ↔ Rn d m_X3_readItem 69 [vR o, l1, l2, l3] (vR o :: st) σ Q := q5 (show fnd (pgm m_X3_readItem) 68 = some (69, 5, 0, 0, 0, []) from rfl) rfl ho
set_option maxRecDepth 100000 in
theorem s_X3_readItem_69 {d : Nat} {l0 l1 l2 l3 : AV} {st : List AV} {o : Nat} {σ : Sg} {Q : AV → Sg → Prop} (hk : kn σ o = (0, 3)) : Rn d m_X3_readItem 69 [l0, l1, l2, l3] (vR o :: st) σ Q ↔ Rn d m_X3_readItem 72 [l0, l1, l2, l3] (vI (σ o 3) :: st) σ Q := q33 (show fnd (pgm m_X3_readItem) 69 = some (72, 33, 23, 3, 3, []) from rfl) hk
set_option maxRecDepth 100000 in
theorem s_X3_readItem_72 {d : Nat} {l0 l1 l2 l3 : AV} {x : Int} {σ : Sg} {Q : AV → Sg → Prop}  : Rn d m_X3_readItem 72 [l0, l1, l2, l3] [vI x] σ Q ↔ Q (vI x) σ := q37_1 (st := []) (show fnd (pgm m_X3_readItem) 72 = some (73, 37, 0, 1, 0, []) from rfl)
set_option maxRecDepth 100000 in
theorem en_X3_numberFits {d : Nat} {o : Nat} {a0 : Int} {a1 : Int} {σ σ0 : Sg} {r0 : AV} (h : Rn d m_X3_numberFits 0 [vR o, vI a0, vI a1] [] σ (fun r σ1 => r = r0 ∧ σ1 = σ0)) : Ev (d + 1) m_X3_numberFits [vR o, vI a0, vI a1] σ r0 σ0 := Ev_is (Nat.le_of_ble_eq_true rfl) h
set_option maxRecDepth 100000 in
theorem eo_X3_numberFits {d : Nat} {o : Nat} {a0 : Int} {a1 : Int} {σ : Sg} {Q : AV → Sg → Prop} (h : Rn d m_X3_numberFits 0 [vR o, vI a0, vI a1] [] σ Q) : ∃ r σ1, Ev (d + 1) m_X3_numberFits [vR o, vI a0, vI a1] σ r σ1 ∧ Q r σ1 := Ev_of (Nat.le_of_ble_eq_true rfl) h
set_option maxRecDepth 100000 in
theorem s_X3_numberFits_0 {d : Nat} {l0 l1 : AV} {st : List AV} {x : Int} {σ : Sg} {Q : AV → Sg → Prop}  : Rn d m_X3_numberFits 0 [l0, l1, vI x] st σ Q ↔ Rn d m_X3_numberFits 1 [l0, l1, vI x] (vI x :: st) σ Q := q3 (show fnd (pgm m_X3_numberFits) 0 = some (1, 3, 0, 2, 0, []) from rfl) rfl
set_option maxRecDepth 100000 in
theorem s_X3_numberFits_1 {d : Nat} {l0 l1 l2 : AV} {st : List AV} {a : Int} {σ : Sg} {Q : AV → Sg → Prop}  : Rn d m_X3_numberFits 1 [l0, l1, l2] (vI a :: st) σ Q ↔ Rn d m_X3_numberFits (swt [(0, 32), (1, 47), (2, 75), (3, 95)] 122 (w32 a)) [l0, l1, l2] st σ Q := q24 (show fnd (pgm m_X3_numberFits) 1 = some (32, 24, 0, 0, 122, [(0, 32), (1, 47), (2, 75), (3, 95)]) from rfl)
set_option maxRecDepth 100000 in
theorem s_X3_numberFits_32 {d : Nat} {l1 l2 : AV} {st : List AV} {o : Nat} {σ : Sg} {Q : AV → Sg → Prop} (ho : o ≠ 0) : Rn d m_X3_numberFits 32 [vR o, l1, l2] st σ Q ↔ Rn d m_X3_numberFits 33 [vR o, l1, l2] (vR o :: st) σ Q := q5 (show fnd (pgm m_X3_numberFits) 32 = some (33, 5, 0, 0, 0, []) from rfl) rfl ho
set_option maxRecDepth 100000 in
theorem s_X3_numberFits_33 {d : Nat} {l0 l1 l2 : AV} {st : List AV} {o : Nat} {σ : Sg} {Q : AV → Sg → Prop} (hk : kn σ o = (0, 3)) : Rn d m_X3_numberFits 33 [l0, l1, l2] (vR o :: st) σ Q ↔ Rn d m_X3_numberFits 36 [l0, l1, l2] (vI (σ o 4) :: st) σ Q := q33 (show fnd (pgm m_X3_numberFits) 33 = some (36, 33, 26, 3, 4, []) from rfl) hk
set_option maxRecDepth 100000 in
theorem s_X3_numberFits_36 {d : Nat} {l0 l1 l2 : AV} {st : List AV} {σ : Sg} {Q : AV → Sg → Prop}  : Rn d m_X3_numberFits 36 [l0, l1, l2] st σ Q ↔ Rn d m_X3_numberFits 38 [l0, l1, l2] (vI 6 :: st) σ Q := q0 (show fnd (pgm m_X3_numberFits) 36 = some (38, 0, 6, 1, 0, []) from rfl)
set_option maxRecDepth 100000 in
theorem s_X3_numberFits_38 {d : Nat} {l0 l1 l2 : AV} {st : List AV} {a b : Int} {σ : Sg} {Q : AV → Sg → Prop}  : Rn d m_X3_numberFits 38 [l0, l1, l2] (vI b :: vI a :: st) σ Q ↔ if w32 b ≤ w32 a then Rn d m_X3_numberFits 45 [l0, l1, l2] st σ Q else Rn d m_X3_numberFits 41 [l0, l1, l2] st σ Q := q20_3 (show fnd (pgm m_X3_numberFits) 38 = some (41, 20, 0, 3, 45, []) from rfl)
set_option maxRecDepth 100000 in
theorem s_X3_numberFits_41 {d : Nat} {l0 l1 l2 : AV} {st : List AV} {σ : Sg} {Q : AV → Sg → Prop}  : Rn d m_X3_numberFits 41 [l0, l1, l2] st σ Q ↔ Rn d m_X3_numberFits 42 [l0, l1, l2] (vI 1 :: st) σ Q := q0 (show fnd (pgm m_X3_numberFits) 41 = some (42, 0, 1, 0, 0, []) from rfl)
set_option maxRecDepth 100000 in
theorem s_X3_numberFits_42 {d : Nat} {l0 l1 l2 : AV} {st : List AV} {σ : Sg} {Q : AV → Sg → Prop}  : Rn d m_X3_numberFits 42 [l0, l1, l2] st σ Q ↔ Rn d m_X3_numberFits 46 [l0, l1, l2] st σ Q := q21 (show fnd (pgm m_X3_numberFits) 42 = some (45, 21, 0, 0, 46, []) from rfl)
set_option maxRecDepth 100000 in
theorem s_X3_numberFits_45 {d : Nat} {l0 l1 l2 : AV} {st : List AV} {σ : Sg} {Q : AV → Sg → Prop}  : Rn d m_X3_numberFits 45 [l0, l1, l2] st σ Q ↔ Rn d m_X3_numberFits 46 [l0, l1, l2] (vI 0 :: st) σ Q := q0 (show fnd (pgm m_X3_numberFits) 45 = some (46, 0, 0, 0, 0, []) from rfl)
set_option maxRecDepth 100000 in
theorem s_X3_numberFits_46 {d : Nat} {l0 l1 l2 : AV} {x : Int} {σ : Sg} {Q : AV → Sg → Prop} (hx : x = 0 ∨ x = 1) : Rn d m_X3_numberFits 46 [l0, l1, l2] [vI x] σ Q ↔ Q (vI x) σ := q37_2 (st := []) (show fnd (pgm m_X3_numberFits) 46 = some (47, 37, 0, 2, 0, []) from rfl) hx
set_option maxRecDepth 100000 in
theorem s_X3_numberFits_47 {d : Nat} {l1 l2 : AV} {st : List AV} {o : Nat} {σ : Sg} {Q : AV → Sg → Prop} (ho : o ≠ 0) : Rn d m_X3_numberFits 47 [vR o, l1, l2] st σ Q ↔ Rn d m_X3_numberFits 48 [vR o, l1, l2] (vR o :: st) σ Q := q5 (show fnd (pgm m_X3_numberFits) 47 = some (48, 5, 0, 0, 0, []) from rfl) rfl ho
set_option maxRecDepth 100000 in
theorem s_X3_numberFits_48 {d : Nat} {l0 l1 l2 : AV} {st : List AV} {o : Nat} {σ : Sg} {Q : AV → Sg → Prop} (hk : kn σ o = (0, 3)) : Rn d m_X3_numberFits 48 [l0, l1, l2] (vR o :: st) σ Q ↔ Rn d m_X3_numberFits 51 [l0, l1, l2] (vI (σ o 4) :: st) σ Q := q33 (show fnd (pgm m_X3_numberFits) 48 = some (51, 33, 26, 3, 4, []) from rfl) hk
set_option maxRecDepth 100000 in
theorem s_X3_numberFits_51 {d : Nat} {l0 l1 l2 : AV} {st : List AV} {σ : Sg} {Q : AV → Sg → Prop}  : Rn d m_X3_numberFits 51 [l0, l1, l2] st σ Q ↔ Rn d m_X3_numberFits 53 [l0, l1, l2] (vI 6 :: st) σ Q := q0 (show fnd (pgm m_X3_numberFits) 51 = some (53, 0, 6, 1, 0, []) from rfl)
set_option maxRecDepth 100000 in
theorem s_X3_numberFits_53 {d : Nat} {l0 l1 l2 : AV} {st : List AV} {a b : Int} {σ : Sg} {Q : AV → Sg → Prop}  : Rn d m_X3_numberFits 53 [l0, l1, l2] (vI b :: vI a :: st) σ Q ↔ if w32 b ≤ w32 a then Rn d m_X3_numberFits 73 [l0, l1, l2] st σ Q else Rn d m_X3_numberFits 56 [l0, l1, l2] st σ Q := q20_3 (show fnd (pgm m_X3_numberFits) 53 = some (56, 20, 0, 3, 73, []) from rfl)
set_option maxRecDepth 100000 in
theorem s_X3_numberFits_56 {d : Nat} {l1 l2 : AV} {st : List AV} {o : Nat} {σ : Sg} {Q : AV → Sg → Prop} (ho : o ≠ 0) : Rn d m_X3_numberFits 56 [vR o, l1, l2] st σ Q ↔ Rn d m_X3_numberFits 57 [vR o, l1, l2] (vR o :: st) σ Q := q5 (show fnd (pgm m_X3_numberFits) 56 = some (57, 5, 0, 0, 0, []) from rfl) rfl ho
set_option maxRecDepth 100000 in
theorem s_X3_numberFits_57 {d : Nat} {l0 l1 l2 : AV} {st : List AV} {o : Nat} {σ : Sg} {Q : AV → Sg → Prop} (hk : kn σ o = (0, 3)) : Rn d m_X3_numberFits 57 [l0, l1, l2] (vR o :: st) σ Q ↔ Rn d m_X3_numberFits 60 [l0, l1, l2] (vI (σ o 4) :: st) σ Q := q33 (show fnd (pgm m_X3_numberFits) 57 = some (60, 33, 26, 3, 4, []) from rfl) hk
set_option maxRecDepth 100000 in
theorem s_X3_numberFits_60 {d : Nat} {l1 l2 : AV} {st : List AV} {o : Nat} {σ : Sg} {Q : AV → Sg → Prop} (ho : o ≠ 0) : Rn d m_X3_numberFits 60 [vR o, l1, l2] st σ Q ↔ Rn d m_X3_numberFits 61 [vR o, l1, l2] (vR o :: st) σ Q := q5 (show fnd (pgm m_X3_numberFits) 60 = some (61, 5, 0, 0, 0, []) from rfl) rfl ho
set_option maxRecDepth 100000 in
theorem s_X3_numberFits_61 {d : Nat} {l0 l1 l2 : AV} {st : List AV} {o : Nat} {σ : Sg} {Q : AV → Sg → Prop} (hk : kn σ o = (0, 3)) : Rn d m_X3_numberFits 61 [l0, l1, l2] (vR o :: st) σ Q ↔ Rn d m_X3_numberFits 64 [l0, l1, l2] (vR (tp o 0) :: st) σ Q := q33 (show fnd (pgm m_X3_numberFits) 61 = some (64, 33, 11, 3, 0, []) from rfl) hk
set_option maxRecDepth 100000 in
theorem s_X3_numberFits_64 {d : Nat} {l0 l1 l2 : AV} {st : List AV} {σ : Sg} {Q : AV → Sg → Prop}  : Rn d m_X3_numberFits 64 [l0, l1, l2] st σ Q ↔ Rn d m_X3_numberFits 65 [l0, l1, l2] (vI 0 :: st) σ Q := q0 (show fnd (pgm m_X3_numberFits) 64 = some (65, 0, 0, 0, 0, []) from rfl)
set_option maxRecDepth 100000 in
theorem s_X3_numberFits_65 {d : Nat} {l0 l1 l2 : AV} {st : List AV} {i : Int} {o : Nat} {σ : Sg} {Q : AV → Sg → Prop} (hi : 0 ≤ w32 i ∧ w32 i < al σ 1 o) : Rn d m_X3_numberFits 65 [l0, l1, l2] (vI i :: vR o :: st) σ Q ↔ Rn d m_X3_numberFits 66 [l0, l1, l2] (vI (σ o (w32 i)) :: st) σ Q := q25 (show fnd (pgm m_X3_numberFits) 65 = some (66, 25, 0, 0, 0, []) from rfl) hi
set_option maxRecDepth 100000 in
theorem s_X3_numberFits_66 {d : Nat} {l0 l1 l2 : AV} {st : List AV} {a b : Int} {σ : Sg} {Q : AV → Sg → Prop}  : Rn d m_X3_numberFits 66 [l0, l1, l2] (vI b :: vI a :: st) σ Q ↔ if w32 a = w32 b then Rn d m_X3_numberFits 73 [l0, l1, l2] st σ Q else Rn d m_X3_numberFits 69 [l0, l1, l2] st σ Q := q20_0 (show fnd (pgm m_X3_numberFits) 66 = some (69, 20, 0, 0, 73, []) from rfl)
set_option maxRecDepth 100000 in
theorem s_X3_numberFits_69 {d : Nat} {l0 l1 l2 : AV} {st : List AV} {σ : Sg} {Q : AV → Sg → Prop}  : Rn d m_X3_numberFits 69 [l0, l1, l2] st σ Q ↔ Rn d m_X3_numberFits 70 [l0, l1, l2] (vI 1 :: st) σ Q := q0 (show fnd (pgm m_X3_numberFits) 69 = some (70, 0, 1, 0, 0, []) from rfl)
set_option maxRecDepth 100000 in
theorem s_X3_numberFits_70 {d : Nat} {l0 l1 l2 : AV} {st : List AV} {σ : Sg} {Q : AV → Sg → Prop}  : Rn d m_X3_numberFits 70 [l0, l1, l2] st σ Q ↔ Rn d m_X3_numberFits 74 [l0, l1, l2] st σ Q := q21 (show fnd (pgm m_X3_numberFits) 70 = some (73, 21, 0, 0, 74, []) from rfl)
set_option maxRecDepth 100000 in
theorem s_X3_numberFits_73 {d : Nat} {l0 l1 l2 : AV} {st : List AV} {σ : Sg} {Q : AV → Sg → Prop}  : Rn d m_X3_numberFits 73 [l0, l1, l2] st σ Q ↔ Rn d m_X3_numberFits 74 [l0, l1, l2] (vI 0 :: st) σ Q := q0 (show fnd (pgm m_X3_numberFits) 73 = some (74, 0, 0, 0, 0, []) from rfl)
set_option maxRecDepth 100000 in
theorem s_X3_numberFits_74 {d : Nat} {l0 l1 l2 : AV} {x : Int} {σ : Sg} {Q : AV → Sg → Prop} (hx : x = 0 ∨ x = 1) : Rn d m_X3_numberFits 74 [l0, l1, l2] [vI x] σ Q ↔ Q (vI x) σ := q37_2 (st := []) (show fnd (pgm m_X3_numberFits) 74 = some (75, 37, 0, 2, 0, []) from rfl) hx
set_option maxRecDepth 100000 in
theorem s_X3_numberFits_75 {d : Nat} {l0 l2 : AV} {st : List AV} {x : Int} {σ : Sg} {Q : AV → Sg → Prop}  : Rn d m_X3_numberFits 75 [l0, vI x, l2] st σ Q ↔ Rn d m_X3_numberFits 76 [l0, vI x, l2] (vI x :: st) σ Q := q3 (show fnd (pgm m_X3_numberFits) 75 = some (76, 3, 0, 1, 0, []) from rfl) rfl
set_option maxRecDepth 100000 in
theorem s_X3_numberFits_76 {d : Nat} {l0 l1 l2 : AV} {st : List AV} {σ : Sg} {Q : AV → Sg → Prop}  : Rn d m_X3_numberFits 76 [l0, l1, l2] st σ Q ↔ Rn d m_X3_numberFits 77 [l0, l1, l2] (vI 2 :: st) σ Q := q0 (show fnd (pgm m_X3_numberFits) 76 = some (77, 0, 2, 0, 0, []) from rfl)
set_option maxRecDepth 100000 in
theorem s_X3_numberFits_77 {d : Nat} {l0 l1 l2 : AV} {st : List AV} {a b : Int} {σ : Sg} {Q : AV → Sg → Prop}  : Rn d m_X3_numberFits 77 [l0, l1, l2] (vI b :: vI a :: st) σ Q ↔ if w32 a = w32 b then Rn d m_X3_numberFits 89 [l0, l1, l2] st σ Q else Rn d m_X3_numberFits 80 [l0, l1, l2] st σ Q := q20_0 (show fnd (pgm m_X3_numberFits) 77 = some (80, 20, 0, 0, 89, []) from rfl)
set_option maxRecDepth 100000 in
theorem s_X3_numberFits_80 {d : Nat} {l1 l2 : AV} {st : List AV} {o : Nat} {σ : Sg} {Q : AV → Sg → Prop} (ho : o ≠ 0) : Rn d m_X3_numberFits 80 [vR o, l1, l2] st σ Q ↔ Rn d m_X3_numberFits 81 [vR o, l1, l2] (vR o :: st) σ Q := q5 (show fnd (pgm m_X3_numberFits) 80 = some (81, 5, 0, 0, 0, []) from rfl) rfl ho
set_option maxRecDepth 100000 in
theorem s_X3_numberFits_81 {d : Nat} {l0 l1 l2 : AV} {st : List AV} {o : Nat} {σ : Sg} {Q : AV → Sg → Prop} (hk : kn σ o = (0, 3)) : Rn d m_X3_numberFits 81 [l0, l1, l2] (vR o :: st) σ Q ↔ Rn d m_X3_numberFits 84 [l0, l1, l2] (vI (σ o 4) :: st) σ Q := q33 (show fnd (pgm m_X3_numberFits) 81 = some (84, 33, 26, 3, 4, []) from rfl) hk
set_option maxRecDepth 100000 in
theorem s_X3_numberFits_84 {d : Nat} {l0 l1 l2 : AV} {st : List AV} {σ : Sg} {Q : AV → Sg → Prop}  : Rn d m_X3_numberFits 84 [l0, l1, l2] st σ Q ↔ Rn d m_X3_numberFits 86 [l0, l1, l2] (vI 20 :: st) σ Q := q0 (show fnd (pgm m_X3_numberFits) 84 = some (86, 0, 20, 1, 0, []) from rfl)
set_option maxRecDepth 100000 in
theorem s_X3_numberFits_86 {d : Nat} {l0 l1 l2 : AV} {st : List AV} {a b : Int} {σ : Sg} {Q : AV → Sg → Prop}  : Rn d m_X3_numberFits 86 [l0, l1, l2] (vI b :: vI a :: st) σ Q ↔ if w32 b ≤ w32 a then Rn d m_X3_numberFits 93 [l0, l1, l2] st σ Q else Rn d m_X3_numberFits 89 [l0, l1, l2] st σ Q := q20_3 (show fnd (pgm m_X3_numberFits) 86 = some (89, 20, 0, 3, 93, []) from rfl)
set_option maxRecDepth 100000 in
theorem s_X3_numberFits_89 {d : Nat} {l0 l1 l2 : AV} {st : List AV} {σ : Sg} {Q : AV → Sg → Prop}  : Rn d m_X3_numberFits 89 [l0, l1, l2] st σ Q ↔ Rn d m_X3_numberFits 90 [l0, l1, l2] (vI 1 :: st) σ Q := q0 (show fnd (pgm m_X3_numberFits) 89 = some (90, 0, 1, 0, 0, []) from rfl)
set_option maxRecDepth 100000 in
theorem s_X3_numberFits_90 {d : Nat} {l0 l1 l2 : AV} {st : List AV} {σ : Sg} {Q : AV → Sg → Prop}  : Rn d m_X3_numberFits 90 [l0, l1, l2] st σ Q ↔ Rn d m_X3_numberFits 94 [l0, l1, l2] st σ Q := q21 (show fnd (pgm m_X3_numberFits) 90 = some (93, 21, 0, 0, 94, []) from rfl)
set_option maxRecDepth 100000 in
theorem s_X3_numberFits_93 {d : Nat} {l0 l1 l2 : AV} {st : List AV} {σ : Sg} {Q : AV → Sg → Prop}  : Rn d m_X3_numberFits 93 [l0, l1, l2] st σ Q ↔ Rn d m_X3_numberFits 94 [l0, l1, l2] (vI 0 :: st) σ Q := q0 (show fnd (pgm m_X3_numberFits) 93 = some (94, 0, 0, 0, 0, []) from rfl)
set_option maxRecDepth 100000 in
theorem s_X3_numberFits_94 {d : Nat} {l0 l1 l2 : AV} {x : Int} {σ : Sg} {Q : AV → Sg → Prop} (hx : x = 0 ∨ x = 1) : Rn d m_X3_numberFits 94 [l0, l1, l2] [vI x] σ Q ↔ Q (vI x) σ := q37_2 (st := []) (show fnd (pgm m_X3_numberFits) 94 = some (95, 37, 0, 2, 0, []) from rfl) hx
set_option maxRecDepth 100000 in
theorem s_X3_numberFits_95 {d : Nat} {l1 l2 : AV} {st : List AV} {o : Nat} {σ : Sg} {Q : AV → Sg → Prop} (ho : o ≠ 0) : Rn d m_X3_numberFits 95 [vR o, l1, l2] st σ Q ↔ Rn d m_X3_numberFits 96 [vR o, l1, l2] (vR o :: st) σ Q := q5 (show fnd (pgm m_X3_numberFits) 95 = some (96, 5, 0, 0, 0, []) from rfl) rfl ho
set_option maxRecDepth 100000 in
theorem s_X3_numberFits_96 {d : Nat} {l0 l1 l2 : AV} {st : List AV} {o : Nat} {σ : Sg} {Q : AV → Sg → Prop} (hk : kn σ o = (0, 3)) : Rn d m_X3_numberFits 96 [l0, l1, l2] (vR o :: st) σ Q ↔ Rn d m_X3_numberFits 99 [l0, l1, l2] (vR (σ o 1).toNat :: st) σ Q := q33 (show fnd (pgm m_X3_numberFits) 96 = some (99, 33, 15, 3, 1, []) from rfl) hk
set_option maxRecDepth 100000 in
theorem s_X3_numberFits_99 {d : Nat} {l0 l1 l2 : AV} {st : List AV} {o : Nat} {σ : Sg} {Q : AV → Sg → Prop}  : Rn d m_X3_numberFits 99 [l0, l1, l2] (vR o :: st) σ Q ↔ if o = 0 then Rn d m_X3_numberFits 120 [l0, l1, l2] st σ Q else Rn d m_X3_numberFits 102 [l0, l1, l2] st σ Q := q22 (show fnd (pgm m_X3_numberFits) 99 = some (102, 22, 0, 0, 120, []) from rfl)
set_option maxRecDepth 100000 in
theorem s_X3_numberFits_102 {d : Nat} {l1 l2 : AV} {st : List AV} {o : Nat} {σ : Sg} {Q : AV → Sg → Prop} (ho : o ≠ 0) : Rn d m_X3_numberFits 102 [vR o, l1, l2] st σ Q ↔ Rn d m_X3_numberFits 103 [vR o, l1, l2] (vR o :: st) σ Q := q5 (show fnd (pgm m_X3_numberFits) 102 = some (103, 5, 0, 0, 0, []) from rfl) rfl ho
set_option maxRecDepth 100000 in
theorem s_X3_numberFits_103 {d : Nat} {l0 l1 l2 : AV} {st : List AV} {o : Nat} {σ : Sg} {Q : AV → Sg → Prop} (hk : kn σ o = (0, 3)) : Rn d m_X3_numberFits 103 [l0, l1, l2] (vR o :: st) σ Q ↔ Rn d m_X3_numberFits 106 [l0, l1, l2] (vI (σ o 4) :: st) σ Q := q33 (show fnd (pgm m_X3_numberFits) 103 = some (106, 33, 26, 3, 4, []) from rfl) hk
set_option maxRecDepth 100000 in
theorem s_X3_numberFits_106 {d : Nat} {l1 l2 : AV} {st : List AV} {o : Nat} {σ : Sg} {Q : AV → Sg → Prop} (ho : o ≠ 0) : Rn d m_X3_numberFits 106 [vR o, l1, l2] st σ Q ↔ Rn d m_X3_numberFits 107 [vR o, l1, l2] (vR o :: st) σ Q := q5 (show fnd (pgm m_X3_numberFits) 106 = some (107, 5, 0, 0, 0, []) from rfl) rfl ho
set_option maxRecDepth 100000 in
theorem s_X3_numberFits_107 {d : Nat} {l0 l1 l2 : AV} {st : List AV} {o : Nat} {σ : Sg} {Q : AV → Sg → Prop} (hk : kn σ o = (0, 3)) : Rn d m_X3_numberFits 107 [l0, l1, l2] (vR o :: st) σ Q ↔ Rn d m_X3_numberFits 110 [l0, l1, l2] (vR (σ o 1).toNat :: st) σ Q := q33 (show fnd (pgm m_X3_numberFits) 107 = some (110, 33, 15, 3, 1, []) from rfl) hk
set_option maxRecDepth 100000 in
theorem s_X3_numberFits_110 {d : Nat} {l0 l1 l2 : AV} {st : List AV} {o : Nat} {σ : Sg} {Q : AV → Sg → Prop} (hk : kn σ o = (0, 0)) : Rn d m_X3_numberFits 110 [l0, l1, l2] (vR o :: st) σ Q ↔ Rn d m_X3_numberFits 113 [l0, l1, l2] (vI (σ o 0) :: st) σ Q := q33 (show fnd (pgm m_X3_numberFits) 110 = some (113, 33, 54, 0, 0, []) from rfl) hk
set_option maxRecDepth 100000 in
theorem s_X3_numberFits_113 {d : Nat} {l0 l1 l2 : AV} {st : List AV} {a b : Int} {σ : Sg} {Q : AV → Sg → Prop}  : Rn d m_X3_numberFits 113 [l0, l1, l2] (vI b :: vI a :: st) σ Q ↔ if w32 b ≤ w32 a then Rn d m_X3_numberFits 120 [l0, l1, l2] st σ Q else Rn d m_X3_numberFits 116 [l0, l1, l2] st σ Q := q20_3 (show fnd (pgm m_X3_numberFits) 113 = some (116, 20, 0, 3, 120, []) from rfl)
set_option maxRecDepth 100000 in
theorem s_X3_numberFits_116 {d : Nat} {l0 l1 l2 : AV} {st : List AV} {σ : Sg} {Q : AV → Sg → Prop}  : Rn d m_X3_numberFits 116 [l0, l1, l2] st σ Q ↔ Rn d m_X3_numberFits 117 [l0, l1, l2] (vI 1 :: st) σ Q := q0 (show fnd (pgm m_X3_numberFits) 116 = some (117, 0, 1, 0, 0, []) from rfl)
set_option maxRecDepth 100000 in
theorem s_X3_numberFits_117 {d : Nat} {l0 l1 l2 : AV} {st : List AV} {σ : Sg} {Q : AV → Sg → Prop}  : Rn d m_X3_numberFits 117 [l0, l1, l2] st σ Q ↔ Rn d m_X3_numberFits 121 [l0, l1, l2] st σ Q := q21 (show fnd (pgm m_X3_numberFits) 117 = some (120, 21, 0, 0, 121, []) from rfl)
set_option maxRecDepth 100000 in
theorem s_X3_numberFits_120 {d : Nat} {l0 l1 l2 : AV} {st : List AV} {σ : Sg} {Q : AV → Sg → Prop}  : Rn d m_X3_numberFits 120 [l0, l1, l2] st σ Q ↔ Rn d m_X3_numberFits 121 [l0, l1, l2] (vI 0 :: st) σ Q := q0 (show fnd (pgm m_X3_numberFits) 120 = some (121, 0, 0, 0, 0, []) from rfl)
set_option maxRecDepth 100000 in
theorem s_X3_numberFits_121 {d : Nat} {l0 l1 l2 : AV} {x : Int} {σ : Sg} {Q : AV → Sg → Prop} (hx : x = 0 ∨ x = 1) : Rn d m_X3_numberFits 121 [l0, l1, l2] [vI x] σ Q ↔ Q (vI x) σ := q37_2 (st := []) (show fnd (pgm m_X3_numberFits) 121 = some (122, 37, 0, 2, 0, []) from rfl) hx
set_option maxRecDepth 100000 in
theorem s_X3_numberFits_122 {d : Nat} {l0 l1 l2 : AV} {st : List AV} {σ : Sg} {Q : AV → Sg → Prop}  : Rn d m_X3_numberFits 122 [l0, l1, l2] st σ Q ↔ Rn d m_X3_numberFits 123 [l0, l1, l2] (vI 1 :: st) σ Q := q0 (show fnd (pgm m_X3_numberFits) 122 = some (123, 0, 1, 0, 0, []) from rfl)
set_option maxRecDepth 100000 in
theorem s_X3_numberFits_123 {d : Nat} {l0 l1 l2 : AV} {x : Int} {σ : Sg} {Q : AV → Sg → Prop} (hx : x = 0 ∨ x = 1) : Rn d m_X3_numberFits 123 [l0, l1, l2] [vI x] σ Q ↔ Q (vI x) σ := q37_2 (st := []) (show fnd (pgm m_X3_numberFits) 123 = some (124, 37, 0, 2, 0, []) from rfl) hx
set_option maxRecDepth 100000 in
theorem en_X3_nextToken {d : Nat} {o : Nat} {σ σ0 : Sg} {r0 : AV} (h : Rn d m_X3_nextToken 0 [vR o, none] [] σ (fun r σ1 => r = r0 ∧ σ1 = σ0)) : Ev (d + 1) m_X3_nextToken [vR o] σ r0 σ0 := Ev_is (Nat.le_of_ble_eq_true rfl) h
set_option maxRecDepth 100000 in
theorem eo_X3_nextToken {d : Nat} {o : Nat} {σ : Sg} {Q : AV → Sg → Prop} (h : Rn d m_X3_nextToken 0 [vR o, none] [] σ Q) : ∃ r σ1, Ev (d + 1) m_X3_nextToken [vR o] σ r σ1 ∧ Q r σ1 := Ev_of (Nat.le_of_ble_eq_true rfl) h
set_option maxRecDepth 100000 in
theorem s_X3_nextToken_0 {d : Nat} {l1 : AV} {st : List AV} {o : Nat} {σ : Sg} {Q : AV → Sg → Prop} (ho : o ≠ 0) : Rn d m_X3_nextToken 0 [vR o, l1] st σ Q ↔ Rn d m_X3_nextToken 1 [vR o, l1] (vR o :: st) σ Q := q5 (show fnd (pgm m_X3_nextToken) 0 = some (1, 5, 0, 0, 0, []) from rfl) rfl ho
set_option maxRecDepth 100000 in
theorem s_X3_nextToken_1 {d : Nat} {l0 l1 : AV} {st : List AV} {σ : Sg} {Q : AV → Sg → Prop}  : Rn d m_X3_nextToken 1 [l0, l1] st σ Q ↔ Rn d m_X3_nextToken 3 [l0, l1] (vI 32 :: st) σ Q := q0 (show fnd (pgm m_X3_nextToken) 1 = some (3, 0, 32, 1, 0, []) from rfl)
set_option maxRecDepth 100000 in
theorem s_X3_nextToken_3 {d : Nat} {l0 l1 : AV} {st : List AV} {σ : Sg} {Q : AV → Sg → Prop}  : Rn d m_X3_nextToken 3 [l0, l1] st σ Q ↔ Rn d m_X3_nextToken 5 [l0, l1] (vI 32 :: st) σ Q := q0 (show fnd (pgm m_X3_nextToken) 3 = some (5, 0, 32, 1, 0, []) from rfl)
set_option maxRecDepth 100000 in
theorem s_X3_nextToken_5 {d : Nat} {l0 l1 : AV} {st : List AV} {o : Nat} {a0 : Int} {a1 : Int} {σ : Sg} {Q : AV → Sg → Prop} (h4 : st.length ≤ 4) (hk : kn σ o = (0, 3)) : Rn d m_X3_nextToken 5 [l0, l1] (vI a1 :: vI a0 :: vR o :: st) σ Q ↔ ∃ r σ1, Ev d m_X3_skip [vR o, vI a0, vI a1] σ r σ1 ∧ Rn d m_X3_nextToken 8 [l0, l1] (psh r st) σ1 Q := q35 (show fnd (pgm m_X3_nextToken) 5 = some (8, 35, 59, 30, 3, []) from rfl) ⟨⟨by simp, by simpa using h4⟩, (by simp only [List.take, List.reverse, List.reverseAux, rcv]; rw [if_neg (by decide +kernel)]; exact decide_eq_true hk)⟩
set_option maxRecDepth 100000 in
theorem s_X3_nextToken_8 {d : Nat} {l1 : AV} {st : List AV} {o : Nat} {σ : Sg} {Q : AV → Sg → Prop} (ho : o ≠ 0) : Rn d m_X3_nextToken 8 [vR o, l1] st σ Q ↔ Rn d m_X3_nextToken 9 [vR o, l1] (vR o :: st) σ Q := q5 (show fnd (pgm m_X3_nextToken) 8 = some (9, 5, 0, 0, 0, []) from rfl) rfl ho
set_option maxRecDepth 100000 in
theorem s_X3_nextToken_9 {d : Nat} {l1 : AV} {st : List AV} {o : Nat} {σ : Sg} {Q : AV → Sg → Prop} (ho : o ≠ 0) : Rn d m_X3_nextToken 9 [vR o, l1] st σ Q ↔ Rn d m_X3_nextToken 10 [vR o, l1] (vR o :: st) σ Q := q5 (show fnd (pgm m_X3_nextToken) 9 = some (10, 5, 0, 0, 0, []) from rfl) rfl ho
set_option maxRecDepth 100000 in
theorem s_X3_nextToken_10 {d : Nat} {l0 l1 : AV} {st : List AV} {o : Nat} {σ : Sg} {Q : AV → Sg → Prop} (hk : kn σ o = (0, 3)) : Rn d m_X3_nextToken 10 [l0, l1] (vR o :: st) σ Q ↔ Rn d m_X3_nextToken 13 [l0, l1] (vI (σ o 2) :: st) σ Q := q33 (show fnd (pgm m_X3_nextToken) 10 = some (13, 33, 19, 3, 2, []) from rfl) hk
set_option maxRecDepth 100000 in
theorem s_X3_nextToken_13 {d : Nat} {l0 l1 : AV} {st : List AV} {o : Nat} {x : Int} {σ : Sg} {Q : AV → Sg → Prop} (hk : kn σ o = (0, 3)) : Rn d m_X3_nextToken 13 [l0, l1] (vI x :: vR o :: st) σ Q ↔ Rn d m_X3_nextToken 16 [l0, l1] st (up σ o 3 x) Q := q34i (show fnd (pgm m_X3_nextToken) 13 = some (16, 34, 23, 3, 3, []) from rfl) hk rfl
set_option maxRecDepth 100000 in
theorem s_X3_nextToken_16 {d : Nat} {l1 : AV} {st : List AV} {o : Nat} {σ : Sg} {Q : AV → Sg → Prop} (ho : o ≠ 0) : Rn d m_X3_nextToken 16 [vR o, l1] st σ Q ↔ Rn d m_X3_nextToken 17 [vR o, l1] (vR o :: st) σ Q := q5 (show fnd (pgm m_X3_nextToken) 16 = some (17, 5, 0, 0, 0, []) from rfl) rfl ho
set_option maxRecDepth 100000 in
theorem s_X3_nextToken_17 {d : Nat} {l0 l1 : AV} {st : List AV} {σ : Sg} {Q : AV → Sg → Prop}  : Rn d m_X3_nextToken 17 [l0, l1] st σ Q ↔ Rn d m_X3_nextToken 18 [l0, l1] (vI 0 :: st) σ Q := q0 (show fnd (pgm m_X3_nextToken) 17 = some (18, 0, 0, 0, 0, []) from rfl)
set_option maxRecDepth 100000 in
theorem s_X3_nextToken_18 {d : Nat} {l0 l1 : AV} {st : List AV} {σ : Sg} {Q : AV → Sg → Prop}  : Rn d m_X3_nextToken 18 [l0, l1] st σ Q ↔ Rn d m_X3_nextToken 21 [l0, l1] (vI 255 :: st) σ Q := q0 (show fnd (pgm m_X3_nextToken) 18 = some (21, 0, 255, 2, 0, []) from rfl)
set_option maxRecDepth 100000 in
theorem s_X3_nextToken_21 {d : Nat} {l0 l1 : AV} {st : List AV} {o : Nat} {a0 : Int} {a1 : Int} {σ : Sg} {Q : AV → Sg → Prop} (h4 : st.length ≤ 4) (hk : kn σ o = (0, 3)) : Rn d m_X3_nextToken 21 [l0, l1] (vI a1 :: vI a0 :: vR o :: st) σ Q ↔ ∃ r σ1, Ev d m_X3_stands [vR o, vI a0, vI a1] σ r σ1 ∧ Rn d m_X3_nextToken 24 [l0, l1] (psh r st) σ1 Q := q35 (show fnd (pgm m_X3_nextToken) 21 = some (24, 35, 63, 29, 3, []) from rfl) ⟨⟨by simp, by simpa using h4⟩, (by simp only [List.take, List.reverse, List.reverseAux, rcv]; rw [if_neg (by decide +kernel)]; exact decide_eq_true hk)⟩
set_option maxRecDepth 100000 in
theorem s_X3_nextToken_24 {d : Nat} {l0 l1 : AV} {st : List AV} {a : Int} {σ : Sg} {Q : AV → Sg → Prop}  : Rn d m_X3_nextToken 24 [l0, l1] (vI a :: st) σ Q ↔ if ¬ w32 a = 0 then Rn d m_X3_nextToken 29 [l0, l1] st σ Q else Rn d m_X3_nextToken 27 [l0, l1] st σ Q := q19_1 (show fnd (pgm m_X3_nextToken) 24 = some (27, 19, 0, 1, 29, []) from rfl)
set_option maxRecDepth 100000 in
theorem s_X3_nextToken_27 {d : Nat} {l0 l1 : AV} {st : List AV} {σ : Sg} {Q : AV → Sg → Prop}  : Rn d m_X3_nextToken 27 [l0, l1] st σ Q ↔ Rn d m_X3_nextToken 28 [l0, l1] (vI 0 :: st) σ Q := q0 (show fnd (pgm m_X3_nextToken) 27 = some (28, 0, 0, 0, 0, []) from rfl)
set_option maxRecDepth 100000 in
theorem s_X3_nextToken_28 {d : Nat} {l0 l1 : AV} {x : Int} {σ : Sg} {Q : AV → Sg → Prop}  : Rn d m_X3_nextToken 28 [l0, l1] [vI x] σ Q ↔ Q (vI x) σ := q37_1 (st := []) (show fnd (pgm m_X3_nextToken) 28 = some (29, 37, 0, 1, 0, []) from rfl)
set_option maxRecDepth 100000 in
theorem s_X3_nextToken_29 {d : Nat} {l1 : AV} {st : List AV} {o : Nat} {σ : Sg} {Q : AV → Sg → Prop} (ho : o ≠ 0) : Rn d m_X3_nextToken 29 [vR o, l1] st σ Q ↔ Rn d m_X3_nextToken 30 [vR o, l1] (vR o :: st) σ Q := q5 (show fnd (pgm m_X3_nextToken) 29 = some (30, 5, 0, 0, 0, []) from rfl) rfl ho
set_option maxRecDepth 100000 in
theorem s_X3_nextToken_30 {d : Nat} {l0 l1 : AV} {st : List AV} {σ : Sg} {Q : AV → Sg → Prop}  : Rn d m_X3_nextToken 30 [l0, l1] st σ Q ↔ Rn d m_X3_nextToken 32 [l0, l1] (vI 97 :: st) σ Q := q0 (show fnd (pgm m_X3_nextToken) 30 = some (32, 0, 97, 1, 0, []) from rfl)
set_option maxRecDepth 100000 in
theorem s_X3_nextToken_32 {d : Nat} {l0 l1 : AV} {st : List AV} {σ : Sg} {Q : AV → Sg → Prop}  : Rn d m_X3_nextToken 32 [l0, l1] st σ Q ↔ Rn d m_X3_nextToken 34 [l0, l1] (vI 122 :: st) σ Q := q0 (show fnd (pgm m_X3_nextToken) 32 = some (34, 0, 122, 1, 0, []) from rfl)
set_option maxRecDepth 100000 in
theorem s_X3_nextToken_34 {d : Nat} {l0 l1 : AV} {st : List AV} {o : Nat} {a0 : Int} {a1 : Int} {σ : Sg} {Q : AV → Sg → Prop} (h4 : st.length ≤ 4) (hk : kn σ o = (0, 3)) : Rn d m_X3_nextToken 34 [l0, l1] (vI a1 :: vI a0 :: vR o :: st) σ Q ↔ ∃ r σ1, Ev d m_X3_stands [vR o, vI a0, vI a1] σ r σ1 ∧ Rn d m_X3_nextToken 37 [l0, l1] (psh r st) σ1 Q := q35 (show fnd (pgm m_X3_nextToken) 34 = some (37, 35, 63, 29, 3, []) from rfl) ⟨⟨by simp, by simpa using h4⟩, (by simp only [List.take, List.reverse, List.reverseAux, rcv]; rw [if_neg (by decide +kernel)]; exact decide_eq_true hk)⟩
set_option maxRecDepth 100000 in
theorem s_X3_nextToken_37 {d : Nat} {l0 l1 : AV} {st : List AV} {a : Int} {σ : Sg} {Q : AV → Sg → Prop}  : Rn d m_X3_nextToken 37 [l0, l1] (vI a :: st) σ Q ↔ if w32 a = 0 then Rn d m_X3_nextToken 53 [l0, l1] st σ Q else Rn d m_X3_nextToken 40 [l0, l1] st σ Q := q19_0 (show fnd (pgm m_X3_nextToken) 37 = some (40, 19, 0, 0, 53, []) from rfl)
set_option maxRecDepth 100000 in
theorem s_X3_nextToken_40 {d : Nat} {l1 : AV} {st : List AV} {o : Nat} {σ : Sg} {Q : AV → Sg → Prop} (ho : o ≠ 0) : Rn d m_X3_nextToken 40 [vR o, l1] st σ Q ↔ Rn d m_X3_nextToken 41 [vR o, l1] (vR o :: st) σ Q := q5 (show fnd (pgm m_X3_nextToken) 40 = some (41, 5, 0, 0, 0, []) from rfl) rfl ho
set_option maxRecDepth 100000 in
theorem s_X3_nextToken_41 {d : Nat} {l0 l1 : AV} {st : List AV} {σ : Sg} {Q : AV → Sg → Prop}  : Rn d m_X3_nextToken 41 [l0, l1] st σ Q ↔ Rn d m_X3_nextToken 43 [l0, l1] (vI 97 :: st) σ Q := q0 (show fnd (pgm m_X3_nextToken) 41 = some (43, 0, 97, 1, 0, []) from rfl)
set_option maxRecDepth 100000 in
theorem s_X3_nextToken_43 {d : Nat} {l0 l1 : AV} {st : List AV} {σ : Sg} {Q : AV → Sg → Prop}  : Rn d m_X3_nextToken 43 [l0, l1] st σ Q ↔ Rn d m_X3_nextToken 45 [l0, l1] (vI 122 :: st) σ Q := q0 (show fnd (pgm m_X3_nextToken) 43 = some (45, 0, 122, 1, 0, []) from rfl)
set_option maxRecDepth 100000 in
theorem s_X3_nextToken_45 {d : Nat} {l0 l1 : AV} {st : List AV} {o : Nat} {a0 : Int} {a1 : Int} {σ : Sg} {Q : AV → Sg → Prop} (h4 : st.length ≤ 4) (hk : kn σ o = (0, 3)) : Rn d m_X3_nextToken 45 [l0, l1] (vI a1 :: vI a0 :: vR o :: st) σ Q ↔ ∃ r σ1, Ev d m_X3_skip [vR o, vI a0, vI a1] σ r σ1 ∧ Rn d m_X3_nextToken 48 [l0, l1] (psh r st) σ1 Q := q35 (show fnd (pgm m_X3_nextToken) 45 = some (48, 35, 59, 30, 3, []) from rfl) ⟨⟨by simp, by simpa using h4⟩, (by simp only [List.take, List.reverse, List.reverseAux, rcv]; rw [if_neg (by decide +kernel)]; exact decide_eq_true hk)⟩
set_option maxRecDepth 100000 in
theorem s_X3_nextToken_48 {d : Nat} {l1 : AV} {st : List AV} {o : Nat} {σ : Sg} {Q : AV → Sg → Prop} (ho : o ≠ 0) : Rn d m_X3_nextToken 48 [vR o, l1] st σ Q ↔ Rn d m_X3_nextToken 49 [vR o, l1] (vR o :: st) σ Q := q5 (show fnd (pgm m_X3_nextToken) 48 = some (49, 5, 0, 0, 0, []) from rfl) rfl ho
set_option maxRecDepth 100000 in
theorem s_X3_nextToken_49 {d : Nat} {l0 l1 : AV} {st : List AV} {o : Nat} {σ : Sg} {Q : AV → Sg → Prop} (h4 : st.length ≤ 4) (hk : kn σ o = (0, 3)) : Rn d m_X3_nextToken 49 [l0, l1] (vR o :: st) σ Q ↔ ∃ r σ1, Ev d m_X3_wordsKind [vR o] σ r σ1 ∧ Rn d m_X3_nextToken 52 [l0, l1] (psh r st) σ1 Q := q35 (show fnd (pgm m_X3_nextToken) 49 = some (52, 35, 66, 31, 1, []) from rfl) ⟨⟨by simp, by simpa using h4⟩, (by simp only [List.take, List.reverse, List.reverseAux, rcv]; rw [if_neg (by decide +kernel)]; exact decide_eq_true hk)⟩
set_option maxRecDepth 100000 in
theorem s_X3_nextToken_52 {d : Nat} {l0 l1 : AV} {x : Int} {σ : Sg} {Q : AV → Sg → Prop}  : Rn d m_X3_nextToken 52 [l0, l1] [vI x] σ Q ↔ Q (vI x) σ := q37_1 (st := []) (show fnd (pgm m_X3_nextToken) 52 = some (53, 37, 0, 1, 0, []) from rfl)
set_option maxRecDepth 100000 in
theorem s_X3_nextToken_53 {d : Nat} {l1 : AV} {st : List AV} {o : Nat} {σ : Sg} {Q : AV → Sg → Prop} (ho : o ≠ 0) : Rn d m_X3_nextToken 53 [vR o, l1] st σ Q ↔ Rn d m_X3_nextToken 54 [vR o, l1] (vR o :: st) σ Q := q5 (show fnd (pgm m_X3_nextToken) 53 = some (54, 5, 0, 0, 0, []) from rfl) rfl ho
set_option maxRecDepth 100000 in
theorem s_X3_nextToken_54 {d : Nat} {l0 l1 : AV} {st : List AV} {σ : Sg} {Q : AV → Sg → Prop}  : Rn d m_X3_nextToken 54 [l0, l1] st σ Q ↔ Rn d m_X3_nextToken 56 [l0, l1] (vI 48 :: st) σ Q := q0 (show fnd (pgm m_X3_nextToken) 54 = some (56, 0, 48, 1, 0, []) from rfl)
set_option maxRecDepth 100000 in
theorem s_X3_nextToken_56 {d : Nat} {l0 l1 : AV} {st : List AV} {σ : Sg} {Q : AV → Sg → Prop}  : Rn d m_X3_nextToken 56 [l0, l1] st σ Q ↔ Rn d m_X3_nextToken 58 [l0, l1] (vI 57 :: st) σ Q := q0 (show fnd (pgm m_X3_nextToken) 56 = some (58, 0, 57, 1, 0, []) from rfl)
set_option maxRecDepth 100000 in
theorem s_X3_nextToken_58 {d : Nat} {l0 l1 : AV} {st : List AV} {o : Nat} {a0 : Int} {a1 : Int} {σ : Sg} {Q : AV → Sg → Prop} (h4 : st.length ≤ 4) (hk : kn σ o = (0, 3)) : Rn d m_X3_nextToken 58 [l0, l1] (vI a1 :: vI a0 :: vR o :: st) σ Q ↔ ∃ r σ1, Ev d m_X3_stands [vR o, vI a0, vI a1] σ r σ1 ∧ Rn d m_X3_nextToken 61 [l0, l1] (psh r st) σ1 Q := q35 (show fnd (pgm m_X3_nextToken) 58 = some (61, 35, 63, 29, 3, []) from rfl) ⟨⟨by simp, by simpa using h4⟩, (by simp only [List.take, List.reverse, List.reverseAux, rcv]; rw [if_neg (by decide +kernel)]; exact decide_eq_true hk)⟩
set_option maxRecDepth 100000 in
theorem s_X3_nextToken_61 {d : Nat} {l0 l1 : AV} {st : List AV} {a : Int} {σ : Sg} {Q : AV → Sg → Prop}  : Rn d m_X3_nextToken 61 [l0, l1] (vI a :: st) σ Q ↔ if w32 a = 0 then Rn d m_X3_nextToken 77 [l0, l1] st σ Q else Rn d m_X3_nextToken 64 [l0, l1] st σ Q := q19_0 (show fnd (pgm m_X3_nextToken) 61 = some (64, 19, 0, 0, 77, []) from rfl)
set_option maxRecDepth 100000 in
theorem s_X3_nextToken_64 {d : Nat} {l1 : AV} {st : List AV} {o : Nat} {σ : Sg} {Q : AV → Sg → Prop} (ho : o ≠ 0) : Rn d m_X3_nextToken 64 [vR o, l1] st σ Q ↔ Rn d m_X3_nextToken 65 [vR o, l1] (vR o :: st) σ Q := q5 (show fnd (pgm m_X3_nextToken) 64 = some (65, 5, 0, 0, 0, []) from rfl) rfl ho
set_option maxRecDepth 100000 in
theorem s_X3_nextToken_65 {d : Nat} {l0 l1 : AV} {st : List AV} {σ : Sg} {Q : AV → Sg → Prop}  : Rn d m_X3_nextToken 65 [l0, l1] st σ Q ↔ Rn d m_X3_nextToken 67 [l0, l1] (vI 48 :: st) σ Q := q0 (show fnd (pgm m_X3_nextToken) 65 = some (67, 0, 48, 1, 0, []) from rfl)
set_option maxRecDepth 100000 in
theorem s_X3_nextToken_67 {d : Nat} {l0 l1 : AV} {st : List AV} {σ : Sg} {Q : AV → Sg → Prop}  : Rn d m_X3_nextToken 67 [l0, l1] st σ Q ↔ Rn d m_X3_nextToken 69 [l0, l1] (vI 57 :: st) σ Q := q0 (show fnd (pgm m_X3_nextToken) 67 = some (69, 0, 57, 1, 0, []) from rfl)
set_option maxRecDepth 100000 in
theorem s_X3_nextToken_69 {d : Nat} {l0 l1 : AV} {st : List AV} {o : Nat} {a0 : Int} {a1 : Int} {σ : Sg} {Q : AV → Sg → Prop} (h4 : st.length ≤ 4) (hk : kn σ o = (0, 3)) : Rn d m_X3_nextToken 69 [l0, l1] (vI a1 :: vI a0 :: vR o :: st) σ Q ↔ ∃ r σ1, Ev d m_X3_skip [vR o, vI a0, vI a1] σ r σ1 ∧ Rn d m_X3_nextToken 72 [l0, l1] (psh r st) σ1 Q := q35 (show fnd (pgm m_X3_nextToken) 69 = some (72, 35, 59, 30, 3, []) from rfl) ⟨⟨by simp, by simpa using h4⟩, (by simp only [List.take, List.reverse, List.reverseAux, rcv]; rw [if_neg (by decide +kernel)]; exact decide_eq_true hk)⟩
set_option maxRecDepth 100000 in
theorem s_X3_nextToken_72 {d : Nat} {l1 : AV} {st : List AV} {o : Nat} {σ : Sg} {Q : AV → Sg → Prop} (ho : o ≠ 0) : Rn d m_X3_nextToken 72 [vR o, l1] st σ Q ↔ Rn d m_X3_nextToken 73 [vR o, l1] (vR o :: st) σ Q := q5 (show fnd (pgm m_X3_nextToken) 72 = some (73, 5, 0, 0, 0, []) from rfl) rfl ho
set_option maxRecDepth 100000 in
theorem s_X3_nextToken_73 {d : Nat} {l0 l1 : AV} {st : List AV} {o : Nat} {σ : Sg} {Q : AV → Sg → Prop} (h4 : st.length ≤ 4) (hk : kn σ o = (0, 3)) : Rn d m_X3_nextToken 73 [l0, l1] (vR o :: st) σ Q ↔ ∃ r σ1, Ev d m_X3_numbersKind [vR o] σ r σ1 ∧ Rn d m_X3_nextToken 76 [l0, l1] (psh r st) σ1 Q := q35 (show fnd (pgm m_X3_nextToken) 73 = some (76, 35, 69, 33, 1, []) from rfl) ⟨⟨by simp, by simpa using h4⟩, (by simp only [List.take, List.reverse, List.reverseAux, rcv]; rw [if_neg (by decide +kernel)]; exact decide_eq_true hk)⟩
set_option maxRecDepth 100000 in
theorem s_X3_nextToken_76 {d : Nat} {l0 l1 : AV} {x : Int} {σ : Sg} {Q : AV → Sg → Prop}  : Rn d m_X3_nextToken 76 [l0, l1] [vI x] σ Q ↔ Q (vI x) σ := q37_1 (st := []) (show fnd (pgm m_X3_nextToken) 76 = some (77, 37, 0, 1, 0, []) from rfl)
set_option maxRecDepth 100000 in
theorem s_X3_nextToken_77 {d : Nat} {l1 : AV} {st : List AV} {o : Nat} {σ : Sg} {Q : AV → Sg → Prop} (ho : o ≠ 0) : Rn d m_X3_nextToken 77 [vR o, l1] st σ Q ↔ Rn d m_X3_nextToken 78 [vR o, l1] (vR o :: st) σ Q := q5 (show fnd (pgm m_X3_nextToken) 77 = some (78, 5, 0, 0, 0, []) from rfl) rfl ho
set_option maxRecDepth 100000 in
theorem s_X3_nextToken_78 {d : Nat} {l0 l1 : AV} {st : List AV} {σ : Sg} {Q : AV → Sg → Prop}  : Rn d m_X3_nextToken 78 [l0, l1] st σ Q ↔ Rn d m_X3_nextToken 80 [l0, l1] (vI 59 :: st) σ Q := q0 (show fnd (pgm m_X3_nextToken) 78 = some (80, 0, 59, 1, 0, []) from rfl)
set_option maxRecDepth 100000 in
theorem s_X3_nextToken_80 {d : Nat} {l0 l1 : AV} {st : List AV} {σ : Sg} {Q : AV → Sg → Prop}  : Rn d m_X3_nextToken 80 [l0, l1] st σ Q ↔ Rn d m_X3_nextToken 82 [l0, l1] (vI 59 :: st) σ Q := q0 (show fnd (pgm m_X3_nextToken) 80 = some (82, 0, 59, 1, 0, []) from rfl)
set_option maxRecDepth 100000 in
theorem s_X3_nextToken_82 {d : Nat} {l0 l1 : AV} {st : List AV} {o : Nat} {a0 : Int} {a1 : Int} {σ : Sg} {Q : AV → Sg → Prop} (h4 : st.length ≤ 4) (hk : kn σ o = (0, 3)) : Rn d m_X3_nextToken 82 [l0, l1] (vI a1 :: vI a0 :: vR o :: st) σ Q ↔ ∃ r σ1, Ev d m_X3_stands [vR o, vI a0, vI a1] σ r σ1 ∧ Rn d m_X3_nextToken 85 [l0, l1] (psh r st) σ1 Q := q35 (show fnd (pgm m_X3_nextToken) 82 = some (85, 35, 63, 29, 3, []) from rfl) ⟨⟨by simp, by simpa using h4⟩, (by simp only [List.take, List.reverse, List.reverseAux, rcv]; rw [if_neg (by decide +kernel)]; exact decide_eq_true hk)⟩
set_option maxRecDepth 100000 in
theorem s_X3_nextToken_85 {d : Nat} {l0 l1 : AV} {st : List AV} {x : Int} {σ : Sg} {Q : AV → Sg → Prop}  : Rn d m_X3_nextToken 85 [l0, l1] (vI x :: st) σ Q ↔ Rn d m_X3_nextToken 86 [l0, vI x] st σ Q := q6 (show fnd (pgm m_X3_nextToken) 85 = some (86, 6, 0, 1, 0, []) from rfl) (by decide : 1 < 2)
set_option maxRecDepth 100000 in
theorem s_X3_nextToken_86 {d : Nat} {l1 : AV} {st : List AV} {o : Nat} {σ : Sg} {Q : AV → Sg → Prop} (ho : o ≠ 0) : Rn d m_X3_nextToken 86 [vR o, l1] st σ Q ↔ Rn d m_X3_nextToken 87 [vR o, l1] (vR o :: st) σ Q := q5 (show fnd (pgm m_X3_nextToken) 86 = some (87, 5, 0, 0, 0, []) from rfl) rfl ho
set_option maxRecDepth 100000 in
theorem s_X3_nextToken_87 {d : Nat} {l0 l1 : AV} {st : List AV} {a : Int} {σ : Sg} {Q : AV → Sg → Prop} : Rn d m_X3_nextToken 87 [l0, l1] (vI a :: st) σ Q ↔ Rn d m_X3_nextToken 88 [l0, l1] (vI a :: vI a :: st) σ Q := q17i (show fnd (pgm m_X3_nextToken) 87 = some (88, 17, 0, 0, 0, []) from rfl)
set_option maxRecDepth 100000 in
theorem s_X3_nextToken_87r {d : Nat} {l0 l1 : AV} {st : List AV} {o : Nat} {σ : Sg} {Q : AV → Sg → Prop} : Rn d m_X3_nextToken 87 [l0, l1] (vR o :: st) σ Q ↔ Rn d m_X3_nextToken 88 [l0, l1] (vR o :: vR o :: st) σ Q := q17r (show fnd (pgm m_X3_nextToken) 87 = some (88, 17, 0, 0, 0, []) from rfl)
set_option maxRecDepth 100000 in
theorem s_X3_nextToken_88 {d : Nat} {l0 l1 : AV} {st : List AV} {o : Nat} {σ : Sg} {Q : AV → Sg → Prop} (hk : kn σ o = (0, 3)) : Rn d m_X3_nextToken 88 [l0, l1] (vR o :: st) σ Q ↔ Rn d m_X3_nextToken 91 [l0, l1] (vI (σ o 2) :: st) σ Q := q33 (show fnd (pgm m_X3_nextToken) 88 = some (91, 33, 19, 3, 2, []) from rfl) hk
set_option maxRecDepth 100000 in
theorem s_X3_nextToken_91 {d : Nat} {l0 l1 : AV} {st : List AV} {σ : Sg} {Q : AV → Sg → Prop}  : Rn d m_X3_nextToken 91 [l0, l1] st σ Q ↔ Rn d m_X3_nextToken 92 [l0, l1] (vI 1 :: st) σ Q := q0 (show fnd (pgm m_X3_nextToken) 91 = some (92, 0, 1, 0, 0, []) from rfl)
set_option maxRecDepth 100000 in
theorem s_X3_nextToken_92 {d : Nat} {l0 l1 : AV} {st : List AV} {a b : Int} {σ : Sg} {Q : AV → Sg → Prop}  : Rn d m_X3_nextToken 92 [l0, l1] (vI b :: vI a :: st) σ Q ↔ Rn d m_X3_nextToken 93 [l0, l1] (vI (a + b) :: st) σ Q := q10_0 (show fnd (pgm m_X3_nextToken) 92 = some (93, 10, 0, 0, 0, []) from rfl)
set_option maxRecDepth 100000 in
theorem s_X3_nextToken_93 {d : Nat} {l0 l1 : AV} {st : List AV} {o : Nat} {x : Int} {σ : Sg} {Q : AV → Sg → Prop} (hk : kn σ o = (0, 3)) : Rn d m_X3_nextToken 93 [l0, l1] (vI x :: vR o :: st) σ Q ↔ Rn d m_X3_nextToken 96 [l0, l1] st (up σ o 2 x) Q := q34i (show fnd (pgm m_X3_nextToken) 93 = some (96, 34, 19, 3, 2, []) from rfl) hk rfl
set_option maxRecDepth 100000 in
theorem s_X3_nextToken_96 {d : Nat} {l0 : AV} {st : List AV} {x : Int} {σ : Sg} {Q : AV → Sg → Prop}  : Rn d m_X3_nextToken 96 [l0, vI x] st σ Q ↔ Rn d m_X3_nextToken 97 [l0, vI x] (vI x :: st) σ Q := q3 (show fnd (pgm m_X3_nextToken) 96 = some (97, 3, 0, 1, 0, []) from rfl) rfl
set_option maxRecDepth 100000 in
theorem s_X3_nextToken_97 {d : Nat} {l0 l1 : AV} {st : List AV} {a : Int} {σ : Sg} {Q : AV → Sg → Prop}  : Rn d m_X3_nextToken 97 [l0, l1] (vI a :: st) σ Q ↔ if w32 a = 0 then Rn d m_X3_nextToken 104 [l0, l1] st σ Q else Rn d m_X3_nextToken 100 [l0, l1] st σ Q := q19_0 (show fnd (pgm m_X3_nextToken) 97 = some (100, 19, 0, 0, 104, []) from rfl)
set_option maxRecDepth 100000 in
theorem s_X3_nextToken_100 {d : Nat} {l0 l1 : AV} {st : List AV} {σ : Sg} {Q : AV → Sg → Prop}  : Rn d m_X3_nextToken 100 [l0, l1] st σ Q ↔ Rn d m_X3_nextToken 101 [l0, l1] (vI 4 :: st) σ Q := q0 (show fnd (pgm m_X3_nextToken) 100 = some (101, 0, 4, 0, 0, []) from rfl)
set_option maxRecDepth 100000 in
theorem s_X3_nextToken_101 {d : Nat} {l0 l1 : AV} {st : List AV} {σ : Sg} {Q : AV → Sg → Prop}  : Rn d m_X3_nextToken 101 [l0, l1] st σ Q ↔ Rn d m_X3_nextToken 105 [l0, l1] st σ Q := q21 (show fnd (pgm m_X3_nextToken) 101 = some (104, 21, 0, 0, 105, []) from rfl)
set_option maxRecDepth 100000 in
theorem s_X3_nextToken_104 {d : Nat} {l0 l1 : AV} {st : List AV} {σ : Sg} {Q : AV → Sg → Prop}  : Rn d m_X3_nextToken 104 [l0, l1] st σ Q ↔ Rn d m_X3_nextToken 105 [l0, l1] (vI 5 :: st) σ Q := q0 (show fnd (pgm m_X3_nextToken) 104 = some (105, 0, 5, 0, 0, []) from rfl)
set_option maxRecDepth 100000 in
theorem s_X3_nextToken_105 {d : Nat} {l0 l1 : AV} {x : Int} {σ : Sg} {Q : AV → Sg → Prop}  : Rn d m_X3_nextToken 105 [l0, l1] [vI x] σ Q ↔ Q (vI x) σ := q37_1 (st := []) (show fnd (pgm m_X3_nextToken) 105 = some (106, 37, 0, 1, 0, []) from rfl)
set_option maxRecDepth 100000 in
theorem en_X3_stands {d : Nat} {o : Nat} {a0 : Int} {a1 : Int} {σ σ0 : Sg} {r0 : AV} (h : Rn d m_X3_stands 0 [vR o, vI a0, vI a1] [] σ (fun r σ1 => r = r0 ∧ σ1 = σ0)) : Ev (d + 1) m_X3_stands [vR o, vI a0, vI a1] σ r0 σ0 := Ev_is (Nat.le_of_ble_eq_true rfl) h
set_option maxRecDepth 100000 in
theorem eo_X3_stands {d : Nat} {o : Nat} {a0 : Int} {a1 : Int} {σ : Sg} {Q : AV → Sg → Prop} (h : Rn d m_X3_stands 0 [vR o, vI a0, vI a1] [] σ Q) : ∃ r σ1, Ev (d + 1) m_X3_stands [vR o, vI a0, vI a1] σ r σ1 ∧ Q r σ1 := Ev_of (Nat.le_of_ble_eq_true rfl) h
set_option maxRecDepth 100000 in
theorem s_X3_stands_0 {d : Nat} {l1 l2 : AV} {st : List AV} {o : Nat} {σ : Sg} {Q : AV → Sg → Prop} (ho : o ≠ 0) : Rn d m_X3_stands 0 [vR o, l1, l2] st σ Q ↔ Rn d m_X3_stands 1 [vR o, l1, l2] (vR o :: st) σ Q := q5 (show fnd (pgm m_X3_stands) 0 = some (1, 5, 0, 0, 0, []) from rfl) rfl ho
set_option maxRecDepth 100000 in
theorem s_X3_stands_1 {d : Nat} {l0 l1 l2 : AV} {st : List AV} {o : Nat} {σ : Sg} {Q : AV → Sg → Prop} (hk : kn σ o = (0, 3)) : Rn d m_X3_stands 1 [l0, l1, l2] (vR o :: st) σ Q ↔ Rn d m_X3_stands 4 [l0, l1, l2] (vR (σ o 1).toNat :: st) σ Q := q33 (show fnd (pgm m_X3_stands) 1 = some (4, 33, 15, 3, 1, []) from rfl) hk
set_option maxRecDepth 100000 in
theorem s_X3_stands_4 {d : Nat} {l0 l1 l2 : AV} {st : List AV} {o : Nat} {σ : Sg} {Q : AV → Sg → Prop}  : Rn d m_X3_stands 4 [l0, l1, l2] (vR o :: st) σ Q ↔ if o = 0 then Rn d m_X3_stands 67 [l0, l1, l2] st σ Q else Rn d m_X3_stands 7 [l0, l1, l2] st σ Q := q22 (show fnd (pgm m_X3_stands) 4 = some (7, 22, 0, 0, 67, []) from rfl)
set_option maxRecDepth 100000 in
theorem s_X3_stands_7 {d : Nat} {l1 l2 : AV} {st : List AV} {o : Nat} {σ : Sg} {Q : AV → Sg → Prop} (ho : o ≠ 0) : Rn d m_X3_stands 7 [vR o, l1, l2] st σ Q ↔ Rn d m_X3_stands 8 [vR o, l1, l2] (vR o :: st) σ Q := q5 (show fnd (pgm m_X3_stands) 7 = some (8, 5, 0, 0, 0, []) from rfl) rfl ho
set_option maxRecDepth 100000 in
theorem s_X3_stands_8 {d : Nat} {l0 l1 l2 : AV} {st : List AV} {o : Nat} {σ : Sg} {Q : AV → Sg → Prop} (hk : kn σ o = (0, 3)) : Rn d m_X3_stands 8 [l0, l1, l2] (vR o :: st) σ Q ↔ Rn d m_X3_stands 11 [l0, l1, l2] (vI (σ o 2) :: st) σ Q := q33 (show fnd (pgm m_X3_stands) 8 = some (11, 33, 19, 3, 2, []) from rfl) hk
set_option maxRecDepth 100000 in
theorem s_X3_stands_11 {d : Nat} {l1 l2 : AV} {st : List AV} {o : Nat} {σ : Sg} {Q : AV → Sg → Prop} (ho : o ≠ 0) : Rn d m_X3_stands 11 [vR o, l1, l2] st σ Q ↔ Rn d m_X3_stands 12 [vR o, l1, l2] (vR o :: st) σ Q := q5 (show fnd (pgm m_X3_stands) 11 = some (12, 5, 0, 0, 0, []) from rfl) rfl ho
set_option maxRecDepth 100000 in
theorem s_X3_stands_12 {d : Nat} {l0 l1 l2 : AV} {st : List AV} {o : Nat} {σ : Sg} {Q : AV → Sg → Prop} (hk : kn σ o = (0, 3)) : Rn d m_X3_stands 12 [l0, l1, l2] (vR o :: st) σ Q ↔ Rn d m_X3_stands 15 [l0, l1, l2] (vR (σ o 1).toNat :: st) σ Q := q33 (show fnd (pgm m_X3_stands) 12 = some (15, 33, 15, 3, 1, []) from rfl) hk
set_option maxRecDepth 100000 in
theorem s_X3_stands_15 {d : Nat} {l0 l1 l2 : AV} {st : List AV} {o : Nat} {σ : Sg} {Q : AV → Sg → Prop} (hk : kn σ o = (0, 0)) : Rn d m_X3_stands 15 [l0, l1, l2] (vR o :: st) σ Q ↔ Rn d m_X3_stands 18 [l0, l1, l2] (vI (σ o 9) :: st) σ Q := q33 (show fnd (pgm m_X3_stands) 15 = some (18, 33, 72, 0, 9, []) from rfl) hk
set_option maxRecDepth 100000 in
theorem s_X3_stands_18 {d : Nat} {l0 l1 l2 : AV} {st : List AV} {a b : Int} {σ : Sg} {Q : AV → Sg → Prop}  : Rn d m_X3_stands 18 [l0, l1, l2] (vI b :: vI a :: st) σ Q ↔ if w32 b ≤ w32 a then Rn d m_X3_stands 67 [l0, l1, l2] st σ Q else Rn d m_X3_stands 21 [l0, l1, l2] st σ Q := q20_3 (show fnd (pgm m_X3_stands) 18 = some (21, 20, 0, 3, 67, []) from rfl)
set_option maxRecDepth 100000 in
theorem s_X3_stands_21 {d : Nat} {l1 l2 : AV} {st : List AV} {o : Nat} {σ : Sg} {Q : AV → Sg → Prop} (ho : o ≠ 0) : Rn d m_X3_stands 21 [vR o, l1, l2] st σ Q ↔ Rn d m_X3_stands 22 [vR o, l1, l2] (vR o :: st) σ Q := q5 (show fnd (pgm m_X3_stands) 21 = some (22, 5, 0, 0, 0, []) from rfl) rfl ho
set_option maxRecDepth 100000 in
theorem s_X3_stands_22 {d : Nat} {l0 l1 l2 : AV} {st : List AV} {o : Nat} {σ : Sg} {Q : AV → Sg → Prop} (hk : kn σ o = (0, 3)) : Rn d m_X3_stands 22 [l0, l1, l2] (vR o :: st) σ Q ↔ Rn d m_X3_stands 25 [l0, l1, l2] (vI (σ o 2) :: st) σ Q := q33 (show fnd (pgm m_X3_stands) 22 = some (25, 33, 19, 3, 2, []) from rfl) hk
set_option maxRecDepth 100000 in
theorem s_X3_stands_25 {d : Nat} {l0 l1 l2 : AV} {st : List AV} {σ : Sg} {Q : AV → Sg → Prop}  : Rn d m_X3_stands 25 [l0, l1, l2] st σ Q ↔ Rn d m_X3_stands 28 [l0, l1, l2] (vI 200 :: st) σ Q := q0 (show fnd (pgm m_X3_stands) 25 = some (28, 0, 200, 2, 0, []) from rfl)
set_option maxRecDepth 100000 in
theorem s_X3_stands_28 {d : Nat} {l0 l1 l2 : AV} {st : List AV} {a b : Int} {σ : Sg} {Q : AV → Sg → Prop}  : Rn d m_X3_stands 28 [l0, l1, l2] (vI b :: vI a :: st) σ Q ↔ if w32 b ≤ w32 a then Rn d m_X3_stands 67 [l0, l1, l2] st σ Q else Rn d m_X3_stands 31 [l0, l1, l2] st σ Q := q20_3 (show fnd (pgm m_X3_stands) 28 = some (31, 20, 0, 3, 67, []) from rfl)
set_option maxRecDepth 100000 in
theorem s_X3_stands_31 {d : Nat} {l1 l2 : AV} {st : List AV} {o : Nat} {σ : Sg} {Q : AV → Sg → Prop} (ho : o ≠ 0) : Rn d m_X3_stands 31 [vR o, l1, l2] st σ Q ↔ Rn d m_X3_stands 32 [vR o, l1, l2] (vR o :: st) σ Q := q5 (show fnd (pgm m_X3_stands) 31 = some (32, 5, 0, 0, 0, []) from rfl) rfl ho
set_option maxRecDepth 100000 in
theorem s_X3_stands_32 {d : Nat} {l0 l1 l2 : AV} {st : List AV} {o : Nat} {σ : Sg} {Q : AV → Sg → Prop} (hk : kn σ o = (0, 3)) : Rn d m_X3_stands 32 [l0, l1, l2] (vR o :: st) σ Q ↔ Rn d m_X3_stands 35 [l0, l1, l2] (vR (σ o 1).toNat :: st) σ Q := q33 (show fnd (pgm m_X3_stands) 32 = some (35, 33, 15, 3, 1, []) from rfl) hk
set_option maxRecDepth 100000 in
theorem s_X3_stands_35 {d : Nat} {l0 l1 l2 : AV} {st : List AV} {o : Nat} {σ : Sg} {Q : AV → Sg → Prop} (hk : kn σ o = (0, 0)) : Rn d m_X3_stands 35 [l0, l1, l2] (vR o :: st) σ Q ↔ Rn d m_X3_stands 38 [l0, l1, l2] (vR (tp o 8) :: st) σ Q := q33 (show fnd (pgm m_X3_stands) 35 = some (38, 33, 75, 0, 8, []) from rfl) hk
set_option maxRecDepth 100000 in
theorem s_X3_stands_38 {d : Nat} {l1 l2 : AV} {st : List AV} {o : Nat} {σ : Sg} {Q : AV → Sg → Prop} (ho : o ≠ 0) : Rn d m_X3_stands 38 [vR o, l1, l2] st σ Q ↔ Rn d m_X3_stands 39 [vR o, l1, l2] (vR o :: st) σ Q := q5 (show fnd (pgm m_X3_stands) 38 = some (39, 5, 0, 0, 0, []) from rfl) rfl ho
set_option maxRecDepth 100000 in
theorem s_X3_stands_39 {d : Nat} {l0 l1 l2 : AV} {st : List AV} {o : Nat} {σ : Sg} {Q : AV → Sg → Prop} (hk : kn σ o = (0, 3)) : Rn d m_X3_stands 39 [l0, l1, l2] (vR o :: st) σ Q ↔ Rn d m_X3_stands 42 [l0, l1, l2] (vI (σ o 2) :: st) σ Q := q33 (show fnd (pgm m_X3_stands) 39 = some (42, 33, 19, 3, 2, []) from rfl) hk
set_option maxRecDepth 100000 in
theorem s_X3_stands_42 {d : Nat} {l0 l1 l2 : AV} {st : List AV} {i : Int} {o : Nat} {σ : Sg} {Q : AV → Sg → Prop} (hi : 0 ≤ w32 i ∧ w32 i < al σ 1 o) : Rn d m_X3_stands 42 [l0, l1, l2] (vI i :: vR o :: st) σ Q ↔ Rn d m_X3_stands 43 [l0, l1, l2] (vI (σ o (w32 i)) :: st) σ Q := q25 (show fnd (pgm m_X3_stands) 42 = some (43, 25, 0, 0, 0, []) from rfl) hi
set_option maxRecDepth 100000 in
theorem s_X3_stands_43 {d : Nat} {l0 l2 : AV} {st : List AV} {x : Int} {σ : Sg} {Q : AV → Sg → Prop}  : Rn d m_X3_stands 43 [l0, vI x, l2] st σ Q ↔ Rn d m_X3_stands 44 [l0, vI x, l2] (vI x :: st) σ Q := q3 (show fnd (pgm m_X3_stands) 43 = some (44, 3, 0, 1, 0, []) from rfl) rfl
set_option maxRecDepth 100000 in
theorem s_X3_stands_44 {d : Nat} {l0 l1 l2 : AV} {st : List AV} {a b : Int} {σ : Sg} {Q : AV → Sg → Prop}  : Rn d m_X3_stands 44 [l0, l1, l2] (vI b :: vI a :: st) σ Q ↔ if w32 a < w32 b then Rn d m_X3_stands 67 [l0, l1, l2] st σ Q else Rn d m_X3_stands 47 [l0, l1, l2] st σ Q := q20_2 (show fnd (pgm m_X3_stands) 44 = some (47, 20, 0, 2, 67, []) from rfl)
set_option maxRecDepth 100000 in
theorem s_X3_stands_47 {d : Nat} {l1 l2 : AV} {st : List AV} {o : Nat} {σ : Sg} {Q : AV → Sg → Prop} (ho : o ≠ 0) : Rn d m_X3_stands 47 [vR o, l1, l2] st σ Q ↔ Rn d m_X3_stands 48 [vR o, l1, l2] (vR o :: st) σ Q := q5 (show fnd (pgm m_X3_stands) 47 = some (48, 5, 0, 0, 0, []) from rfl) rfl ho
set_option maxRecDepth 100000 in
theorem s_X3_stands_48 {d : Nat} {l0 l1 l2 : AV} {st : List AV} {o : Nat} {σ : Sg} {Q : AV → Sg → Prop} (hk : kn σ o = (0, 3)) : Rn d m_X3_stands 48 [l0, l1, l2] (vR o :: st) σ Q ↔ Rn d m_X3_stands 51 [l0, l1, l2] (vR (σ o 1).toNat :: st) σ Q := q33 (show fnd (pgm m_X3_stands) 48 = some (51, 33, 15, 3, 1, []) from rfl) hk
set_option maxRecDepth 100000 in
theorem s_X3_stands_51 {d : Nat} {l0 l1 l2 : AV} {st : List AV} {o : Nat} {σ : Sg} {Q : AV → Sg → Prop} (hk : kn σ o = (0, 0)) : Rn d m_X3_stands 51 [l0, l1, l2] (vR o :: st) σ Q ↔ Rn d m_X3_stands 54 [l0, l1, l2] (vR (tp o 8) :: st) σ Q := q33 (show fnd (pgm m_X3_stands) 51 = some (54, 33, 75, 0, 8, []) from rfl) hk
set_option maxRecDepth 100000 in
theorem s_X3_stands_54 {d : Nat} {l1 l2 : AV} {st : List AV} {o : Nat} {σ : Sg} {Q : AV → Sg → Prop} (ho : o ≠ 0) : Rn d m_X3_stands 54 [vR o, l1, l2] st σ Q ↔ Rn d m_X3_stands 55 [vR o, l1, l2] (vR o :: st) σ Q := q5 (show fnd (pgm m_X3_stands) 54 = some (55, 5, 0, 0, 0, []) from rfl) rfl ho
set_option maxRecDepth 100000 in
theorem s_X3_stands_55 {d : Nat} {l0 l1 l2 : AV} {st : List AV} {o : Nat} {σ : Sg} {Q : AV → Sg → Prop} (hk : kn σ o = (0, 3)) : Rn d m_X3_stands 55 [l0, l1, l2] (vR o :: st) σ Q ↔ Rn d m_X3_stands 58 [l0, l1, l2] (vI (σ o 2) :: st) σ Q := q33 (show fnd (pgm m_X3_stands) 55 = some (58, 33, 19, 3, 2, []) from rfl) hk
set_option maxRecDepth 100000 in
theorem s_X3_stands_58 {d : Nat} {l0 l1 l2 : AV} {st : List AV} {i : Int} {o : Nat} {σ : Sg} {Q : AV → Sg → Prop} (hi : 0 ≤ w32 i ∧ w32 i < al σ 1 o) : Rn d m_X3_stands 58 [l0, l1, l2] (vI i :: vR o :: st) σ Q ↔ Rn d m_X3_stands 59 [l0, l1, l2] (vI (σ o (w32 i)) :: st) σ Q := q25 (show fnd (pgm m_X3_stands) 58 = some (59, 25, 0, 0, 0, []) from rfl) hi
set_option maxRecDepth 100000 in
theorem s_X3_stands_59 {d : Nat} {l0 l1 : AV} {st : List AV} {x : Int} {σ : Sg} {Q : AV → Sg → Prop}  : Rn d m_X3_stands 59 [l0, l1, vI x] st σ Q ↔ Rn d m_X3_stands 60 [l0, l1, vI x] (vI x :: st) σ Q := q3 (show fnd (pgm m_X3_stands) 59 = some (60, 3, 0, 2, 0, []) from rfl) rfl
set_option maxRecDepth 100000 in
theorem s_X3_stands_60 {d : Nat} {l0 l1 l2 : AV} {st : List AV} {a b : Int} {σ : Sg} {Q : AV → Sg → Prop}  : Rn d m_X3_stands 60 [l0, l1, l2] (vI b :: vI a :: st) σ Q ↔ if w32 b < w32 a then Rn d m_X3_stands 67 [l0, l1, l2] st σ Q else Rn d m_X3_stands 63 [l0, l1, l2] st σ Q := q20_4 (show fnd (pgm m_X3_stands) 60 = some (63, 20, 0, 4, 67, []) from rfl)
set_option maxRecDepth 100000 in
theorem s_X3_stands_63 {d : Nat} {l0 l1 l2 : AV} {st : List AV} {σ : Sg} {Q : AV → Sg → Prop}  : Rn d m_X3_stands 63 [l0, l1, l2] st σ Q ↔ Rn d m_X3_stands 64 [l0, l1, l2] (vI 1 :: st) σ Q := q0 (show fnd (pgm m_X3_stands) 63 = some (64, 0, 1, 0, 0, []) from rfl)
set_option maxRecDepth 100000 in
theorem s_X3_stands_64 {d : Nat} {l0 l1 l2 : AV} {st : List AV} {σ : Sg} {Q : AV → Sg → Prop}  : Rn d m_X3_stands 64 [l0, l1, l2] st σ Q ↔ Rn d m_X3_stands 68 [l0, l1, l2] st σ Q := q21 (show fnd (pgm m_X3_stands) 64 = some (67, 21, 0, 0, 68, []) from rfl)
set_option maxRecDepth 100000 in
theorem s_X3_stands_67 {d : Nat} {l0 l1 l2 : AV} {st : List AV} {σ : Sg} {Q : AV → Sg → Prop}  : Rn d m_X3_stands 67 [l0, l1, l2] st σ Q ↔ Rn d m_X3_stands 68 [l0, l1, l2] (vI 0 :: st) σ Q := q0 (show fnd (pgm m_X3_stands) 67 = some (68, 0, 0, 0, 0, []) from rfl)
set_option maxRecDepth 100000 in
theorem s_X3_stands_68 {d : Nat} {l0 l1 l2 : AV} {x : Int} {σ : Sg} {Q : AV → Sg → Prop} (hx : x = 0 ∨ x = 1) : Rn d m_X3_stands 68 [l0, l1, l2] [vI x] σ Q ↔ Q (vI x) σ := q37_2 (st := []) (show fnd (pgm m_X3_stands) 68 = some (69, 37, 0, 2, 0, []) from rfl) hx
set_option maxRecDepth 100000 in
theorem en_X3_skip {d : Nat} {o : Nat} {a0 : Int} {a1 : Int} {σ σ0 : Sg} {r0 : AV} (h : Rn d m_X3_skip 0 [vR o, vI a0, vI a1, none] [] σ (fun r σ1 => r = r0 ∧ σ1 = σ0)) : Ev (d + 1) m_X3_skip [vR o, vI a0, vI a1] σ r0 σ0 := Ev_is (Nat.le_of_ble_eq_true rfl) h
set_option maxRecDepth 100000 in
theorem eo_X3_skip {d : Nat} {o : Nat} {a0 : Int} {a1 : Int} {σ : Sg} {Q : AV → Sg → Prop} (h : Rn d m_X3_skip 0 [vR o, vI a0, vI a1, none] [] σ Q) : ∃ r σ1, Ev (d + 1) m_X3_skip [vR o, vI a0, vI a1] σ r σ1 ∧ Q r σ1 := Ev_of (Nat.le_of_ble_eq_true rfl) h
set_option maxRecDepth 100000 in
theorem s_X3_skip_0 {d : Nat} {l0 l1 l2 l3 : AV} {st : List AV} {σ : Sg} {Q : AV → Sg → Prop}  : Rn d m_X3_skip 0 [l0, l1, l2, l3] st σ Q ↔ Rn d m_X3_skip 1 [l0, l1, l2, l3] (vI 0 :: st) σ Q := q0 (show fnd (pgm m_X3_skip) 0 = some (1, 0, 0, 0, 0, []) from rfl)
set_option maxRecDepth 100000 in
theorem s_X3_skip_1 {d : Nat} {l0 l1 l2 l3 : AV} {st : List AV} {x : Int} {σ : Sg} {Q : AV → Sg → Prop}  : Rn d m_X3_skip 1 [l0, l1, l2, l3] (vI x :: st) σ Q ↔ Rn d m_X3_skip 2 [l0, l1, l2, vI x] st σ Q := q6 (show fnd (pgm m_X3_skip) 1 = some (2, 6, 0, 3, 0, []) from rfl) (by decide : 3 < 4)
set_option maxRecDepth 100000 in
theorem s_X3_skip_2 {d : Nat} {l0 l1 l2 : AV} {st : List AV} {x : Int} {σ : Sg} {Q : AV → Sg → Prop}  : Rn d m_X3_skip 2 [l0, l1, l2, vI x] st σ Q ↔ Rn d m_X3_skip 3 [l0, l1, l2, vI x] (vI x :: st) σ Q := q3 (show fnd (pgm m_X3_skip) 2 = some (3, 3, 0, 3, 0, []) from rfl) rfl
set_option maxRecDepth 100000 in
theorem s_X3_skip_3 {d : Nat} {l0 l1 l2 l3 : AV} {st : List AV} {σ : Sg} {Q : AV → Sg → Prop}  : Rn d m_X3_skip 3 [l0, l1, l2, l3] st σ Q ↔ Rn d m_X3_skip 6 [l0, l1, l2, l3] (vI 200 :: st) σ Q := q0 (show fnd (pgm m_X3_skip) 3 = some (6, 0, 200, 2, 0, []) from rfl)
set_option maxRecDepth 100000 in
theorem s_X3_skip_6 {d : Nat} {l0 l1 l2 l3 : AV} {st : List AV} {a b : Int} {σ : Sg} {Q : AV → Sg → Prop}  : Rn d m_X3_skip 6 [l0, l1, l2, l3] (vI b :: vI a :: st) σ Q ↔ if w32 b ≤ w32 a then Rn d m_X3_skip 34 [l0, l1, l2, l3] st σ Q else Rn d m_X3_skip 9 [l0, l1, l2, l3] st σ Q := q20_3 (show fnd (pgm m_X3_skip) 6 = some (9, 20, 0, 3, 34, []) from rfl)
set_option maxRecDepth 100000 in
theorem s_X3_skip_9 {d : Nat} {l1 l2 l3 : AV} {st : List AV} {o : Nat} {σ : Sg} {Q : AV → Sg → Prop} (ho : o ≠ 0) : Rn d m_X3_skip 9 [vR o, l1, l2, l3] st σ Q ↔ Rn d m_X3_skip 10 [vR o, l1, l2, l3] (vR o :: st) σ Q := q5 (show fnd (pgm m_X3_skip) 9 = some (10, 5, 0, 0, 0, []) from rfl) rfl ho
set_option maxRecDepth 100000 in
theorem s_X3_skip_10 {d : Nat} {l0 l2 l3 : AV} {st : List AV} {x : Int} {σ : Sg} {Q : AV → Sg → Prop}  : Rn d m_X3_skip 10 [l0, vI x, l2, l3] st σ Q ↔ Rn d m_X3_skip 11 [l0, vI x, l2, l3] (vI x :: st) σ Q := q3 (show fnd (pgm m_X3_skip) 10 = some (11, 3, 0, 1, 0, []) from rfl) rfl
set_option maxRecDepth 100000 in
theorem s_X3_skip_11 {d : Nat} {l0 l1 l3 : AV} {st : List AV} {x : Int} {σ : Sg} {Q : AV → Sg → Prop}  : Rn d m_X3_skip 11 [l0, l1, vI x, l3] st σ Q ↔ Rn d m_X3_skip 12 [l0, l1, vI x, l3] (vI x :: st) σ Q := q3 (show fnd (pgm m_X3_skip) 11 = some (12, 3, 0, 2, 0, []) from rfl) rfl
set_option maxRecDepth 100000 in
theorem s_X3_skip_12 {d : Nat} {l0 l1 l2 l3 : AV} {st : List AV} {o : Nat} {a0 : Int} {a1 : Int} {σ : Sg} {Q : AV → Sg → Prop} (h4 : st.length ≤ 4) (hk : kn σ o = (0, 3)) : Rn d m_X3_skip 12 [l0, l1, l2, l3] (vI a1 :: vI a0 :: vR o :: st) σ Q ↔ ∃ r σ1, Ev d m_X3_stands [vR o, vI a0, vI a1] σ r σ1 ∧ Rn d m_X3_skip 15 [l0, l1, l2, l3] (psh r st) σ1 Q := q35 (show fnd (pgm m_X3_skip) 12 = some (15, 35, 63, 29, 3, []) from rfl) ⟨⟨by simp, by simpa using h4⟩, (by simp only [List.take, List.reverse, List.reverseAux, rcv]; rw [if_neg (by decide +kernel)]; exact decide_eq_true hk)⟩
set_option maxRecDepth 100000 in
theorem s_X3_skip_15 {d : Nat} {l0 l1 l2 l3 : AV} {st : List AV} {a : Int} {σ : Sg} {Q : AV → Sg → Prop}  : Rn d m_X3_skip 15 [l0, l1, l2, l3] (vI a :: st) σ Q ↔ if w32 a = 0 then Rn d m_X3_skip 34 [l0, l1, l2, l3] st σ Q else Rn d m_X3_skip 18 [l0, l1, l2, l3] st σ Q := q19_0 (show fnd (pgm m_X3_skip) 15 = some (18, 19, 0, 0, 34, []) from rfl)
set_option maxRecDepth 100000 in
theorem s_X3_skip_18 {d : Nat} {l1 l2 l3 : AV} {st : List AV} {o : Nat} {σ : Sg} {Q : AV → Sg → Prop} (ho : o ≠ 0) : Rn d m_X3_skip 18 [vR o, l1, l2, l3] st σ Q ↔ Rn d m_X3_skip 19 [vR o, l1, l2, l3] (vR o :: st) σ Q := q5 (show fnd (pgm m_X3_skip) 18 = some (19, 5, 0, 0, 0, []) from rfl) rfl ho
set_option maxRecDepth 100000 in
theorem s_X3_skip_19 {d : Nat} {l0 l1 l2 l3 : AV} {st : List AV} {a : Int} {σ : Sg} {Q : AV → Sg → Prop} : Rn d m_X3_skip 19 [l0, l1, l2, l3] (vI a :: st) σ Q ↔ Rn d m_X3_skip 20 [l0, l1, l2, l3] (vI a :: vI a :: st) σ Q := q17i (show fnd (pgm m_X3_skip) 19 = some (20, 17, 0, 0, 0, []) from rfl)
set_option maxRecDepth 100000 in
theorem s_X3_skip_19r {d : Nat} {l0 l1 l2 l3 : AV} {st : List AV} {o : Nat} {σ : Sg} {Q : AV → Sg → Prop} : Rn d m_X3_skip 19 [l0, l1, l2, l3] (vR o :: st) σ Q ↔ Rn d m_X3_skip 20 [l0, l1, l2, l3] (vR o :: vR o :: st) σ Q := q17r (show fnd (pgm m_X3_skip) 19 = some (20, 17, 0, 0, 0, []) from rfl)
set_option maxRecDepth 100000 in
theorem s_X3_skip_20 {d : Nat} {l0 l1 l2 l3 : AV} {st : List AV} {o : Nat} {σ : Sg} {Q : AV → Sg → Prop} (hk : kn σ o = (0, 3)) : Rn d m_X3_skip 20 [l0, l1, l2, l3] (vR o :: st) σ Q ↔ Rn d m_X3_skip 23 [l0, l1, l2, l3] (vI (σ o 2) :: st) σ Q := q33 (show fnd (pgm m_X3_skip) 20 = some (23, 33, 19, 3, 2, []) from rfl) hk
set_option maxRecDepth 100000 in
theorem s_X3_skip_23 {d : Nat} {l0 l1 l2 l3 : AV} {st : List AV} {σ : Sg} {Q : AV → Sg → Prop}  : Rn d m_X3_skip 23 [l0, l1, l2, l3] st σ Q ↔ Rn d m_X3_skip 24 [l0, l1, l2, l3] (vI 1 :: st) σ Q := q0 (show fnd (pgm m_X3_skip) 23 = some (24, 0, 1, 0, 0, []) from rfl)
set_option maxRecDepth 100000 in
theorem s_X3_skip_24 {d : Nat} {l0 l1 l2 l3 : AV} {st : List AV} {a b : Int} {σ : Sg} {Q : AV → Sg → Prop}  : Rn d m_X3_skip 24 [l0, l1, l2, l3] (vI b :: vI a :: st) σ Q ↔ Rn d m_X3_skip 25 [l0, l1, l2, l3] (vI (a + b) :: st) σ Q := q10_0 (show fnd (pgm m_X3_skip) 24 = some (25, 10, 0, 0, 0, []) from rfl)
set_option maxRecDepth 100000 in
theorem s_X3_skip_25 {d : Nat} {l0 l1 l2 l3 : AV} {st : List AV} {o : Nat} {x : Int} {σ : Sg} {Q : AV → Sg → Prop} (hk : kn σ o = (0, 3)) : Rn d m_X3_skip 25 [l0, l1, l2, l3] (vI x :: vR o :: st) σ Q ↔ Rn d m_X3_skip 28 [l0, l1, l2, l3] st (up σ o 2 x) Q := q34i (show fnd (pgm m_X3_skip) 25 = some (28, 34, 19, 3, 2, []) from rfl) hk rfl
set_option maxRecDepth 100000 in
theorem s_X3_skip_28 {d : Nat} {l0 l1 l2 : AV} {st : List AV} {x : Int} {σ : Sg} {Q : AV → Sg → Prop}  : Rn d m_X3_skip 28 [l0, l1, l2, vI x] st σ Q ↔ Rn d m_X3_skip 31 [l0, l1, l2, vI (x + 1)] st σ Q := q9 (show fnd (pgm m_X3_skip) 28 = some (31, 9, 1, 3, 0, []) from rfl) rfl
set_option maxRecDepth 100000 in
theorem s_X3_skip_31 {d : Nat} {l0 l1 l2 l3 : AV} {st : List AV} {σ : Sg} {Q : AV → Sg → Prop}  : Rn d m_X3_skip 31 [l0, l1, l2, l3] st σ Q ↔ Rn d m_X3_skip 2 [l0, l1, l2, l3] st σ Q := q21 (show fnd (pgm m_X3_skip) 31 = some (34, 21, 0, 0, 2, []) from rfl)
set_option maxRecDepth 100000 in
theorem s_X3_skip_34 {d : Nat} {l0 l1 l2 l3 : AV} {σ : Sg} {Q : AV → Sg → Prop}  : Rn d m_X3_skip 34 [l0, l1, l2, l3] [] σ Q ↔ Q none σ := q37_0 (st := []) (show fnd (pgm m_X3_skip) 34 = some (35, 37, 0, 0, 0, []) from rfl)
set_option maxRecDepth 100000 in
theorem en_X3_wordsKind {d : Nat} {o : Nat} {σ σ0 : Sg} {r0 : AV} (h : Rn d m_X3_wordsKind 0 [vR o] [] σ (fun r σ1 => r = r0 ∧ σ1 = σ0)) : Ev (d + 1) m_X3_wordsKind [vR o] σ r0 σ0 := Ev_is (Nat.le_of_ble_eq_true rfl) h
set_option maxRecDepth 100000 in
theorem eo_X3_wordsKind {d : Nat} {o : Nat} {σ : Sg} {Q : AV → Sg → Prop} (h : Rn d m_X3_wordsKind 0 [vR o] [] σ Q) : ∃ r σ1, Ev (d + 1) m_X3_wordsKind [vR o] σ r σ1 ∧ Q r σ1 := Ev_of (Nat.le_of_ble_eq_true rfl) h
set_option maxRecDepth 100000 in
theorem s_X3_wordsKind_0 {d : Nat} {st : List AV} {o : Nat} {σ : Sg} {Q : AV → Sg → Prop} (ho : o ≠ 0) : Rn d m_X3_wordsKind 0 [vR o] st σ Q ↔ Rn d m_X3_wordsKind 1 [vR o] (vR o :: st) σ Q := q5 (show fnd (pgm m_X3_wordsKind) 0 = some (1, 5, 0, 0, 0, []) from rfl) rfl ho
set_option maxRecDepth 100000 in
theorem s_X3_wordsKind_1 {d : Nat} {l0 : AV} {st : List AV} {σ : Sg} {Q : AV → Sg → Prop}  : Rn d m_X3_wordsKind 1 [l0] st σ Q ↔ Rn d m_X3_wordsKind 3 [l0] (vR 900 :: st) σ Q := q38 (show fnd (pgm m_X3_wordsKind) 1 = some (3, 38, 78, 900, 0, []) from rfl)
set_option maxRecDepth 100000 in
theorem s_X3_wordsKind_3 {d : Nat} {l0 : AV} {st : List AV} {o : Nat} {a0 : Nat} {σ : Sg} {Q : AV → Sg → Prop} (h4 : st.length ≤ 4) (hk : kn σ o = (0, 3)) : Rn d m_X3_wordsKind 3 [l0] (vR a0 :: vR o :: st) σ Q ↔ ∃ r σ1, Ev d m_X3_isWord [vR o, vR a0] σ r σ1 ∧ Rn d m_X3_wordsKind 6 [l0] (psh r st) σ1 Q := q35 (show fnd (pgm m_X3_wordsKind) 3 = some (6, 35, 80, 32, 2, []) from rfl) ⟨⟨by simp, by simpa using h4⟩, (by simp only [List.take, List.reverse, List.reverseAux, rcv]; rw [if_neg (by decide +kernel)]; exact decide_eq_true hk)⟩
set_option maxRecDepth 100000 in
theorem s_X3_wordsKind_6 {d : Nat} {l0 : AV} {st : List AV} {a : Int} {σ : Sg} {Q : AV → Sg → Prop}  : Rn d m_X3_wordsKind 6 [l0] (vI a :: st) σ Q ↔ if w32 a = 0 then Rn d m_X3_wordsKind 11 [l0] st σ Q else Rn d m_X3_wordsKind 9 [l0] st σ Q := q19_0 (show fnd (pgm m_X3_wordsKind) 6 = some (9, 19, 0, 0, 11, []) from rfl)
set_option maxRecDepth 100000 in
theorem s_X3_wordsKind_9 {d : Nat} {l0 : AV} {st : List AV} {σ : Sg} {Q : AV → Sg → Prop}  : Rn d m_X3_wordsKind 9 [l0] st σ Q ↔ Rn d m_X3_wordsKind 10 [l0] (vI 1 :: st) σ Q := q0 (show fnd (pgm m_X3_wordsKind) 9 = some (10, 0, 1, 0, 0, []) from rfl)
set_option maxRecDepth 100000 in
theorem s_X3_wordsKind_10 {d : Nat} {l0 : AV} {x : Int} {σ : Sg} {Q : AV → Sg → Prop}  : Rn d m_X3_wordsKind 10 [l0] [vI x] σ Q ↔ Q (vI x) σ := q37_1 (st := []) (show fnd (pgm m_X3_wordsKind) 10 = some (11, 37, 0, 1, 0, []) from rfl)
set_option maxRecDepth 100000 in
theorem s_X3_wordsKind_11 {d : Nat} {st : List AV} {o : Nat} {σ : Sg} {Q : AV → Sg → Prop} (ho : o ≠ 0) : Rn d m_X3_wordsKind 11 [vR o] st σ Q ↔ Rn d m_X3_wordsKind 12 [vR o] (vR o :: st) σ Q := q5 (show fnd (pgm m_X3_wordsKind) 11 = some (12, 5, 0, 0, 0, []) from rfl) rfl ho
set_option maxRecDepth 100000 in
theorem s_X3_wordsKind_12 {d : Nat} {l0 : AV} {st : List AV} {σ : Sg} {Q : AV → Sg → Prop}  : Rn d m_X3_wordsKind 12 [l0] st σ Q ↔ Rn d m_X3_wordsKind 14 [l0] (vR 901 :: st) σ Q := q38 (show fnd (pgm m_X3_wordsKind) 12 = some (14, 38, 84, 901, 0, []) from rfl)
set_option maxRecDepth 100000 in
theorem s_X3_wordsKind_14 {d : Nat} {l0 : AV} {st : List AV} {o : Nat} {a0 : Nat} {σ : Sg} {Q : AV → Sg → Prop} (h4 : st.length ≤ 4) (hk : kn σ o = (0, 3)) : Rn d m_X3_wordsKind 14 [l0] (vR a0 :: vR o :: st) σ Q ↔ ∃ r σ1, Ev d m_X3_isWord [vR o, vR a0] σ r σ1 ∧ Rn d m_X3_wordsKind 17 [l0] (psh r st) σ1 Q := q35 (show fnd (pgm m_X3_wordsKind) 14 = some (17, 35, 80, 32, 2, []) from rfl) ⟨⟨by simp, by simpa using h4⟩, (by simp only [List.take, List.reverse, List.reverseAux, rcv]; rw [if_neg (by decide +kernel)]; exact decide_eq_true hk)⟩
set_option maxRecDepth 100000 in
theorem s_X3_wordsKind_17 {d : Nat} {l0 : AV} {st : List AV} {a : Int} {σ : Sg} {Q : AV → Sg → Prop}  : Rn d m_X3_wordsKind 17 [l0] (vI a :: st) σ Q ↔ if w32 a = 0 then Rn d m_X3_wordsKind 24 [l0] st σ Q else Rn d m_X3_wordsKind 20 [l0] st σ Q := q19_0 (show fnd (pgm m_X3_wordsKind) 17 = some (20, 19, 0, 0, 24, []) from rfl)
set_option maxRecDepth 100000 in
theorem s_X3_wordsKind_20 {d : Nat} {l0 : AV} {st : List AV} {σ : Sg} {Q : AV → Sg → Prop}  : Rn d m_X3_wordsKind 20 [l0] st σ Q ↔ Rn d m_X3_wordsKind 21 [l0] (vI 2 :: st) σ Q := q0 (show fnd (pgm m_X3_wordsKind) 20 = some (21, 0, 2, 0, 0, []) from rfl)
set_option maxRecDepth 100000 in
theorem s_X3_wordsKind_21 {d : Nat} {l0 : AV} {st : List AV} {σ : Sg} {Q : AV → Sg → Prop}  : Rn d m_X3_wordsKind 21 [l0] st σ Q ↔ Rn d m_X3_wordsKind 25 [l0] st σ Q := q21 (show fnd (pgm m_X3_wordsKind) 21 = some (24, 21, 0, 0, 25, []) from rfl)
set_option maxRecDepth 100000 in
theorem s_X3_wordsKind_24 {d : Nat} {l0 : AV} {st : List AV} {σ : Sg} {Q : AV → Sg → Prop}  : Rn d m_X3_wordsKind 24 [l0] st σ Q ↔ Rn d m_X3_wordsKind 25 [l0] (vI 5 :: st) σ Q := q0 (show fnd (pgm m_X3_wordsKind) 24 = some (25, 0, 5, 0, 0, []) from rfl)
set_option maxRecDepth 100000 in
theorem s_X3_wordsKind_25 {d : Nat} {l0 : AV} {x : Int} {σ : Sg} {Q : AV → Sg → Prop}  : Rn d m_X3_wordsKind 25 [l0] [vI x] σ Q ↔ Q (vI x) σ := q37_1 (st := []) (show fnd (pgm m_X3_wordsKind) 25 = some (26, 37, 0, 1, 0, []) from rfl)
set_option maxRecDepth 100000 in
theorem en_X3_isWord {d : Nat} {o : Nat} {a0 : Nat} {σ σ0 : Sg} {r0 : AV} (h : Rn d m_X3_isWord 0 [vR o, vR a0, none] [] σ (fun r σ1 => r = r0 ∧ σ1 = σ0)) : Ev (d + 1) m_X3_isWord [vR o, vR a0] σ r0 σ0 := Ev_is (Nat.le_of_ble_eq_true rfl) h
set_option maxRecDepth 100000 in
theorem eo_X3_isWord {d : Nat} {o : Nat} {a0 : Nat} {σ : Sg} {Q : AV → Sg → Prop} (h : Rn d m_X3_isWord 0 [vR o, vR a0, none] [] σ Q) : ∃ r σ1, Ev (d + 1) m_X3_isWord [vR o, vR a0] σ r σ1 ∧ Q r σ1 := Ev_of (Nat.le_of_ble_eq_true rfl) h
set_option maxRecDepth 100000 in
theorem s_X3_isWord_0 {d : Nat} {l1 l2 : AV} {st : List AV} {o : Nat} {σ : Sg} {Q : AV → Sg → Prop} (ho : o ≠ 0) : Rn d m_X3_isWord 0 [vR o, l1, l2] st σ Q ↔ Rn d m_X3_isWord 1 [vR o, l1, l2] (vR o :: st) σ Q := q5 (show fnd (pgm m_X3_isWord) 0 = some (1, 5, 0, 0, 0, []) from rfl) rfl ho
set_option maxRecDepth 100000 in
theorem s_X3_isWord_1 {d : Nat} {l0 l1 l2 : AV} {st : List AV} {o : Nat} {σ : Sg} {Q : AV → Sg → Prop} (hk : kn σ o = (0, 3)) : Rn d m_X3_isWord 1 [l0, l1, l2] (vR o :: st) σ Q ↔ Rn d m_X3_isWord 4 [l0, l1, l2] (vR (σ o 1).toNat :: st) σ Q := q33 (show fnd (pgm m_X3_isWord) 1 = some (4, 33, 15, 3, 1, []) from rfl) hk
set_option maxRecDepth 100000 in
theorem s_X3_isWord_4 {d : Nat} {l0 l1 l2 : AV} {st : List AV} {o : Nat} {σ : Sg} {Q : AV → Sg → Prop}  : Rn d m_X3_isWord 4 [l0, l1, l2] (vR o :: st) σ Q ↔ if o = 0 then Rn d m_X3_isWord 23 [l0, l1, l2] st σ Q else Rn d m_X3_isWord 7 [l0, l1, l2] st σ Q := q22 (show fnd (pgm m_X3_isWord) 4 = some (7, 22, 0, 0, 23, []) from rfl)
set_option maxRecDepth 100000 in
theorem s_X3_isWord_7 {d : Nat} {l1 l2 : AV} {st : List AV} {o : Nat} {σ : Sg} {Q : AV → Sg → Prop} (ho : o ≠ 0) : Rn d m_X3_isWord 7 [vR o, l1, l2] st σ Q ↔ Rn d m_X3_isWord 8 [vR o, l1, l2] (vR o :: st) σ Q := q5 (show fnd (pgm m_X3_isWord) 7 = some (8, 5, 0, 0, 0, []) from rfl) rfl ho
set_option maxRecDepth 100000 in
theorem s_X3_isWord_8 {d : Nat} {l0 l1 l2 : AV} {st : List AV} {o : Nat} {σ : Sg} {Q : AV → Sg → Prop} (hk : kn σ o = (0, 3)) : Rn d m_X3_isWord 8 [l0, l1, l2] (vR o :: st) σ Q ↔ Rn d m_X3_isWord 11 [l0, l1, l2] (vI (σ o 2) :: st) σ Q := q33 (show fnd (pgm m_X3_isWord) 8 = some (11, 33, 19, 3, 2, []) from rfl) hk
set_option maxRecDepth 100000 in
theorem s_X3_isWord_11 {d : Nat} {l1 l2 : AV} {st : List AV} {o : Nat} {σ : Sg} {Q : AV → Sg → Prop} (ho : o ≠ 0) : Rn d m_X3_isWord 11 [vR o, l1, l2] st σ Q ↔ Rn d m_X3_isWord 12 [vR o, l1, l2] (vR o :: st) σ Q := q5 (show fnd (pgm m_X3_isWord) 11 = some (12, 5, 0, 0, 0, []) from rfl) rfl ho
set_option maxRecDepth 100000 in
theorem s_X3_isWord_12 {d : Nat} {l0 l1 l2 : AV} {st : List AV} {o : Nat} {σ : Sg} {Q : AV → Sg → Prop} (hk : kn σ o = (0, 3)) : Rn d m_X3_isWord 12 [l0, l1, l2] (vR o :: st) σ Q ↔ Rn d m_X3_isWord 15 [l0, l1, l2] (vI (σ o 3) :: st) σ Q := q33 (show fnd (pgm m_X3_isWord) 12 = some (15, 33, 23, 3, 3, []) from rfl) hk
set_option maxRecDepth 100000 in
theorem s_X3_isWord_15 {d : Nat} {l0 l1 l2 : AV} {st : List AV} {a b : Int} {σ : Sg} {Q : AV → Sg → Prop}  : Rn d m_X3_isWord 15 [l0, l1, l2] (vI b :: vI a :: st) σ Q ↔ Rn d m_X3_isWord 16 [l0, l1, l2] (vI (a - b) :: st) σ Q := q10_1 (show fnd (pgm m_X3_isWord) 15 = some (16, 10, 0, 1, 0, []) from rfl)
set_option maxRecDepth 100000 in
theorem s_X3_isWord_16 {d : Nat} {l0 l2 : AV} {st : List AV} {o : Nat} {σ : Sg} {Q : AV → Sg → Prop} (ho : o ≠ 0) : Rn d m_X3_isWord 16 [l0, vR o, l2] st σ Q ↔ Rn d m_X3_isWord 17 [l0, vR o, l2] (vR o :: st) σ Q := q5 (show fnd (pgm m_X3_isWord) 16 = some (17, 5, 0, 1, 0, []) from rfl) rfl ho
set_option maxRecDepth 100000 in
theorem s_X3_isWord_17 {d : Nat} {l0 l1 l2 : AV} {st : List AV} {o : Nat} {σ : Sg} {Q : AV → Sg → Prop} (hc : (o = 900 ∨ o = 901) ∧ st.length ≤ 4 ∧ 6 ≤ d) : Rn d m_X3_isWord 17 [l0, l1, l2] (vR o :: st) σ Q ↔ Rn d m_X3_isWord 20 [l0, l1, l2] (vI (sln o) :: st) σ Q := q39 (show fnd (pgm m_X3_isWord) 17 = some (20, 39, 86, 0, 0, []) from rfl) hc
set_option maxRecDepth 100000 in
theorem s_X3_isWord_20 {d : Nat} {l0 l1 l2 : AV} {st : List AV} {a b : Int} {σ : Sg} {Q : AV → Sg → Prop}  : Rn d m_X3_isWord 20 [l0, l1, l2] (vI b :: vI a :: st) σ Q ↔ if w32 a = w32 b then Rn d m_X3_isWord 25 [l0, l1, l2] st σ Q else Rn d m_X3_isWord 23 [l0, l1, l2] st σ Q := q20_0 (show fnd (pgm m_X3_isWord) 20 = some (23, 20, 0, 0, 25, []) from rfl)
set_option maxRecDepth 100000 in
theorem s_X3_isWord_23 {d : Nat} {l0 l1 l2 : AV} {st : List AV} {σ : Sg} {Q : AV → Sg → Prop}  : Rn d m_X3_isWord 23 [l0, l1, l2] st σ Q ↔ Rn d m_X3_isWord 24 [l0, l1, l2] (vI 0 :: st) σ Q := q0 (show fnd (pgm m_X3_isWord) 23 = some (24, 0, 0, 0, 0, []) from rfl)
set_option maxRecDepth 100000 in
theorem s_X3_isWord_24 {d : Nat} {l0 l1 l2 : AV} {x : Int} {σ : Sg} {Q : AV → Sg → Prop} (hx : x = 0 ∨ x = 1) : Rn d m_X3_isWord 24 [l0, l1, l2] [vI x] σ Q ↔ Q (vI x) σ := q37_2 (st := []) (show fnd (pgm m_X3_isWord) 24 = some (25, 37, 0, 2, 0, []) from rfl) hx
set_option maxRecDepth 100000 in
theorem s_X3_isWord_25 {d : Nat} {l0 l1 l2 : AV} {st : List AV} {σ : Sg} {Q : AV → Sg → Prop}  : Rn d m_X3_isWord 25 [l0, l1, l2] st σ Q ↔ Rn d m_X3_isWord 26 [l0, l1, l2] (vI 0 :: st) σ Q := q0 (show fnd (pgm m_X3_isWord) 25 = some (26, 0, 0, 0, 0, []) from rfl)
set_option maxRecDepth 100000 in
theorem s_X3_isWord_26 {d : Nat} {l0 l1 l2 : AV} {st : List AV} {x : Int} {σ : Sg} {Q : AV → Sg → Prop}  : Rn d m_X3_isWord 26 [l0, l1, l2] (vI x :: st) σ Q ↔ Rn d m_X3_isWord 27 [l0, l1, vI x] st σ Q := q6 (show fnd (pgm m_X3_isWord) 26 = some (27, 6, 0, 2, 0, []) from rfl) (by decide : 2 < 3)
set_option maxRecDepth 100000 in
theorem s_X3_isWord_27 {d : Nat} {l0 l1 : AV} {st : List AV} {x : Int} {σ : Sg} {Q : AV → Sg → Prop}  : Rn d m_X3_isWord 27 [l0, l1, vI x] st σ Q ↔ Rn d m_X3_isWord 28 [l0, l1, vI x] (vI x :: st) σ Q := q3 (show fnd (pgm m_X3_isWord) 27 = some (28, 3, 0, 2, 0, []) from rfl) rfl
set_option maxRecDepth 100000 in
theorem s_X3_isWord_28 {d : Nat} {l0 l2 : AV} {st : List AV} {o : Nat} {σ : Sg} {Q : AV → Sg → Prop} (ho : o ≠ 0) : Rn d m_X3_isWord 28 [l0, vR o, l2] st σ Q ↔ Rn d m_X3_isWord 29 [l0, vR o, l2] (vR o :: st) σ Q := q5 (show fnd (pgm m_X3_isWord) 28 = some (29, 5, 0, 1, 0, []) from rfl) rfl ho
set_option maxRecDepth 100000 in
theorem s_X3_isWord_29 {d : Nat} {l0 l1 l2 : AV} {st : List AV} {o : Nat} {σ : Sg} {Q : AV → Sg → Prop} (hc : (o = 900 ∨ o = 901) ∧ st.length ≤ 4 ∧ 6 ≤ d) : Rn d m_X3_isWord 29 [l0, l1, l2] (vR o :: st) σ Q ↔ Rn d m_X3_isWord 32 [l0, l1, l2] (vI (sln o) :: st) σ Q := q39 (show fnd (pgm m_X3_isWord) 29 = some (32, 39, 86, 0, 0, []) from rfl) hc
set_option maxRecDepth 100000 in
theorem s_X3_isWord_32 {d : Nat} {l0 l1 l2 : AV} {st : List AV} {a b : Int} {σ : Sg} {Q : AV → Sg → Prop}  : Rn d m_X3_isWord 32 [l0, l1, l2] (vI b :: vI a :: st) σ Q ↔ if w32 b ≤ w32 a then Rn d m_X3_isWord 65 [l0, l1, l2] st σ Q else Rn d m_X3_isWord 35 [l0, l1, l2] st σ Q := q20_3 (show fnd (pgm m_X3_isWord) 32 = some (35, 20, 0, 3, 65, []) from rfl)
set_option maxRecDepth 100000 in
theorem s_X3_isWord_35 {d : Nat} {l1 l2 : AV} {st : List AV} {o : Nat} {σ : Sg} {Q : AV → Sg → Prop} (ho : o ≠ 0) : Rn d m_X3_isWord 35 [vR o, l1, l2] st σ Q ↔ Rn d m_X3_isWord 36 [vR o, l1, l2] (vR o :: st) σ Q := q5 (show fnd (pgm m_X3_isWord) 35 = some (36, 5, 0, 0, 0, []) from rfl) rfl ho
set_option maxRecDepth 100000 in
theorem s_X3_isWord_36 {d : Nat} {l0 l1 l2 : AV} {st : List AV} {o : Nat} {σ : Sg} {Q : AV → Sg → Prop} (hk : kn σ o = (0, 3)) : Rn d m_X3_isWord 36 [l0, l1, l2] (vR o :: st) σ Q ↔ Rn d m_X3_isWord 39 [l0, l1, l2] (vR (σ o 1).toNat :: st) σ Q := q33 (show fnd (pgm m_X3_isWord) 36 = some (39, 33, 15, 3, 1, []) from rfl) hk
set_option maxRecDepth 100000 in
theorem s_X3_isWord_39 {d : Nat} {l0 l1 l2 : AV} {st : List AV} {o : Nat} {σ : Sg} {Q : AV → Sg → Prop} (hk : kn σ o = (0, 0)) : Rn d m_X3_isWord 39 [l0, l1, l2] (vR o :: st) σ Q ↔ Rn d m_X3_isWord 42 [l0, l1, l2] (vR (tp o 8) :: st) σ Q := q33 (show fnd (pgm m_X3_isWord) 39 = some (42, 33, 75, 0, 8, []) from rfl) hk
set_option maxRecDepth 100000 in
theorem s_X3_isWord_42 {d : Nat} {l1 l2 : AV} {st : List AV} {o : Nat} {σ : Sg} {Q : AV → Sg → Prop} (ho : o ≠ 0) : Rn d m_X3_isWord 42 [vR o, l1, l2] st σ Q ↔ Rn d m_X3_isWord 43 [vR o, l1, l2] (vR o :: st) σ Q := q5 (show fnd (pgm m_X3_isWord) 42 = some (43, 5, 0, 0, 0, []) from rfl) rfl ho
set_option maxRecDepth 100000 in
theorem s_X3_isWord_43 {d : Nat} {l0 l1 l2 : AV} {st : List AV} {o : Nat} {σ : Sg} {Q : AV → Sg → Prop} (hk : kn σ o = (0, 3)) : Rn d m_X3_isWord 43 [l0, l1, l2] (vR o :: st) σ Q ↔ Rn d m_X3_isWord 46 [l0, l1, l2] (vI (σ o 3) :: st) σ Q := q33 (show fnd (pgm m_X3_isWord) 43 = some (46, 33, 23, 3, 3, []) from rfl) hk
set_option maxRecDepth 100000 in
theorem s_X3_isWord_46 {d : Nat} {l0 l1 : AV} {st : List AV} {x : Int} {σ : Sg} {Q : AV → Sg → Prop}  : Rn d m_X3_isWord 46 [l0, l1, vI x] st σ Q ↔ Rn d m_X3_isWord 47 [l0, l1, vI x] (vI x :: st) σ Q := q3 (show fnd (pgm m_X3_isWord) 46 = some (47, 3, 0, 2, 0, []) from rfl) rfl
set_option maxRecDepth 100000 in
theorem s_X3_isWord_47 {d : Nat} {l0 l1 l2 : AV} {st : List AV} {a b : Int} {σ : Sg} {Q : AV → Sg → Prop}  : Rn d m_X3_isWord 47 [l0, l1, l2] (vI b :: vI a :: st) σ Q ↔ Rn d m_X3_isWord 48 [l0, l1, l2] (vI (a + b) :: st) σ Q := q10_0 (show fnd (pgm m_X3_isWord) 47 = some (48, 10, 0, 0, 0, []) from rfl)
set_option maxRecDepth 100000 in
theorem s_X3_isWord_48 {d : Nat} {l0 l1 l2 : AV} {st : List AV} {i : Int} {o : Nat} {σ : Sg} {Q : AV → Sg → Prop} (hi : 0 ≤ w32 i ∧ w32 i < al σ 1 o) : Rn d m_X3_isWord 48 [l0, l1, l2] (vI i :: vR o :: st) σ Q ↔ Rn d m_X3_isWord 49 [l0, l1, l2] (vI (σ o (w32 i)) :: st) σ Q := q25 (show fnd (pgm m_X3_isWord) 48 = some (49, 25, 0, 0, 0, []) from rfl) hi
set_option maxRecDepth 100000 in
theorem s_X3_isWord_49 {d : Nat} {l0 l2 : AV} {st : List AV} {o : Nat} {σ : Sg} {Q : AV → Sg → Prop} (ho : o ≠ 0) : Rn d m_X3_isWord 49 [l0, vR o, l2] st σ Q ↔ Rn d m_X3_isWord 50 [l0, vR o, l2] (vR o :: st) σ Q := q5 (show fnd (pgm m_X3_isWord) 49 = some (50, 5, 0, 1, 0, []) from rfl) rfl ho
set_option maxRecDepth 100000 in
theorem s_X3_isWord_50 {d : Nat} {l0 l1 : AV} {st : List AV} {x : Int} {σ : Sg} {Q : AV → Sg → Prop}  : Rn d m_X3_isWord 50 [l0, l1, vI x] st σ Q ↔ Rn d m_X3_isWord 51 [l0, l1, vI x] (vI x :: st) σ Q := q3 (show fnd (pgm m_X3_isWord) 50 = some (51, 3, 0, 2, 0, []) from rfl) rfl
set_option maxRecDepth 100000 in
theorem s_X3_isWord_51 {d : Nat} {l0 l1 l2 : AV} {st : List AV} {i : Int} {o : Nat} {σ : Sg} {Q : AV → Sg → Prop} (hc : (o = 900 ∨ o = 901) ∧ 0 ≤ w32 i ∧ w32 i < sln o ∧ st.length ≤ 4 ∧ 6 ≤ d) : Rn d m_X3_isWord 51 [l0, l1, l2] (vI i :: vR o :: st) σ Q ↔ Rn d m_X3_isWord 54 [l0, l1, l2] (vI (sch o (w32 i)) :: st) σ Q := q40 (show fnd (pgm m_X3_isWord) 51 = some (54, 40, 91, 0, 0, []) from rfl) hc
set_option maxRecDepth 100000 in
theorem s_X3_isWord_54 {d : Nat} {l0 l1 l2 : AV} {st : List AV} {a b : Int} {σ : Sg} {Q : AV → Sg → Prop}  : Rn d m_X3_isWord 54 [l0, l1, l2] (vI b :: vI a :: st) σ Q ↔ if w32 a = w32 b then Rn d m_X3_isWord 59 [l0, l1, l2] st σ Q else Rn d m_X3_isWord 57 [l0, l1, l2] st σ Q := q20_0 (show fnd (pgm m_X3_isWord) 54 = some (57, 20, 0, 0, 59, []) from rfl)
set_option maxRecDepth 100000 in
theorem s_X3_isWord_57 {d : Nat} {l0 l1 l2 : AV} {st : List AV} {σ : Sg} {Q : AV → Sg → Prop}  : Rn d m_X3_isWord 57 [l0, l1, l2] st σ Q ↔ Rn d m_X3_isWord 58 [l0, l1, l2] (vI 0 :: st) σ Q := q0 (show fnd (pgm m_X3_isWord) 57 = some (58, 0, 0, 0, 0, []) from rfl)
set_option maxRecDepth 100000 in
theorem s_X3_isWord_58 {d : Nat} {l0 l1 l2 : AV} {x : Int} {σ : Sg} {Q : AV → Sg → Prop} (hx : x = 0 ∨ x = 1) : Rn d m_X3_isWord 58 [l0, l1, l2] [vI x] σ Q ↔ Q (vI x) σ := q37_2 (st := []) (show fnd (pgm m_X3_isWord) 58 = some (59, 37, 0, 2, 0, []) from rfl) hx
set_option maxRecDepth 100000 in
theorem s_X3_isWord_59 {d : Nat} {l0 l1 : AV} {st : List AV} {x : Int} {σ : Sg} {Q : AV → Sg → Prop}  : Rn d m_X3_isWord 59 [l0, l1, vI x] st σ Q ↔ Rn d m_X3_isWord 62 [l0, l1, vI (x + 1)] st σ Q := q9 (show fnd (pgm m_X3_isWord) 59 = some (62, 9, 1, 2, 0, []) from rfl) rfl
set_option maxRecDepth 100000 in
theorem s_X3_isWord_62 {d : Nat} {l0 l1 l2 : AV} {st : List AV} {σ : Sg} {Q : AV → Sg → Prop}  : Rn d m_X3_isWord 62 [l0, l1, l2] st σ Q ↔ Rn d m_X3_isWord 27 [l0, l1, l2] st σ Q := q21 (show fnd (pgm m_X3_isWord) 62 = some (65, 21, 0, 0, 27, []) from rfl)
set_option maxRecDepth 100000 in
theorem s_X3_isWord_65 {d : Nat} {l0 l1 l2 : AV} {st : List AV} {σ : Sg} {Q : AV → Sg → Prop}  : Rn d m_X3_isWord 65 [l0, l1, l2] st σ Q ↔ Rn d m_X3_isWord 66 [l0, l1, l2] (vI 1 :: st) σ Q := q0 (show fnd (pgm m_X3_isWord) 65 = some (66, 0, 1, 0, 0, []) from rfl)
set_option maxRecDepth 100000 in
theorem s_X3_isWord_66 {d : Nat} {l0 l1 l2 : AV} {x : Int} {σ : Sg} {Q : AV → Sg → Prop} (hx : x = 0 ∨ x = 1) : Rn d m_X3_isWord 66 [l0, l1, l2] [vI x] σ Q ↔ Q (vI x) σ := q37_2 (st := []) (show fnd (pgm m_X3_isWord) 66 = some (67, 37, 0, 2, 0, []) from rfl) hx
set_option maxRecDepth 100000 in
theorem en_X3_numbersKind {d : Nat} {o : Nat} {σ σ0 : Sg} {r0 : AV} (h : Rn d m_X3_numbersKind 0 [vR o, none] [] σ (fun r σ1 => r = r0 ∧ σ1 = σ0)) : Ev (d + 1) m_X3_numbersKind [vR o] σ r0 σ0 := Ev_is (Nat.le_of_ble_eq_true rfl) h
set_option maxRecDepth 100000 in
theorem eo_X3_numbersKind {d : Nat} {o : Nat} {σ : Sg} {Q : AV → Sg → Prop} (h : Rn d m_X3_numbersKind 0 [vR o, none] [] σ Q) : ∃ r σ1, Ev (d + 1) m_X3_numbersKind [vR o] σ r σ1 ∧ Q r σ1 := Ev_of (Nat.le_of_ble_eq_true rfl) h
set_option maxRecDepth 100000 in
theorem s_X3_numbersKind_0 {d : Nat} {l1 : AV} {st : List AV} {o : Nat} {σ : Sg} {Q : AV → Sg → Prop} (ho : o ≠ 0) : Rn d m_X3_numbersKind 0 [vR o, l1] st σ Q ↔ Rn d m_X3_numbersKind 1 [vR o, l1] (vR o :: st) σ Q := q5 (show fnd (pgm m_X3_numbersKind) 0 = some (1, 5, 0, 0, 0, []) from rfl) rfl ho
set_option maxRecDepth 100000 in
theorem s_X3_numbersKind_1 {d : Nat} {l0 l1 : AV} {st : List AV} {o : Nat} {σ : Sg} {Q : AV → Sg → Prop} (hk : kn σ o = (0, 3)) : Rn d m_X3_numbersKind 1 [l0, l1] (vR o :: st) σ Q ↔ Rn d m_X3_numbersKind 4 [l0, l1] (vR (σ o 1).toNat :: st) σ Q := q33 (show fnd (pgm m_X3_numbersKind) 1 = some (4, 33, 15, 3, 1, []) from rfl) hk
set_option maxRecDepth 100000 in
theorem s_X3_numbersKind_4 {d : Nat} {l0 l1 : AV} {st : List AV} {o : Nat} {σ : Sg} {Q : AV → Sg → Prop}  : Rn d m_X3_numbersKind 4 [l0, l1] (vR o :: st) σ Q ↔ if o = 0 then Rn d m_X3_numbersKind 20 [l0, l1] st σ Q else Rn d m_X3_numbersKind 7 [l0, l1] st σ Q := q22 (show fnd (pgm m_X3_numbersKind) 4 = some (7, 22, 0, 0, 20, []) from rfl)
set_option maxRecDepth 100000 in
theorem s_X3_numbersKind_7 {d : Nat} {l1 : AV} {st : List AV} {o : Nat} {σ : Sg} {Q : AV → Sg → Prop} (ho : o ≠ 0) : Rn d m_X3_numbersKind 7 [vR o, l1] st σ Q ↔ Rn d m_X3_numbersKind 8 [vR o, l1] (vR o :: st) σ Q := q5 (show fnd (pgm m_X3_numbersKind) 7 = some (8, 5, 0, 0, 0, []) from rfl) rfl ho
set_option maxRecDepth 100000 in
theorem s_X3_numbersKind_8 {d : Nat} {l0 l1 : AV} {st : List AV} {o : Nat} {σ : Sg} {Q : AV → Sg → Prop} (hk : kn σ o = (0, 3)) : Rn d m_X3_numbersKind 8 [l0, l1] (vR o :: st) σ Q ↔ Rn d m_X3_numbersKind 11 [l0, l1] (vI (σ o 2) :: st) σ Q := q33 (show fnd (pgm m_X3_numbersKind) 8 = some (11, 33, 19, 3, 2, []) from rfl) hk
set_option maxRecDepth 100000 in
theorem s_X3_numbersKind_11 {d : Nat} {l1 : AV} {st : List AV} {o : Nat} {σ : Sg} {Q : AV → Sg → Prop} (ho : o ≠ 0) : Rn d m_X3_numbersKind 11 [vR o, l1] st σ Q ↔ Rn d m_X3_numbersKind 12 [vR o, l1] (vR o :: st) σ Q := q5 (show fnd (pgm m_X3_numbersKind) 11 = some (12, 5, 0, 0, 0, []) from rfl) rfl ho
set_option maxRecDepth 100000 in
theorem s_X3_numbersKind_12 {d : Nat} {l0 l1 : AV} {st : List AV} {o : Nat} {σ : Sg} {Q : AV → Sg → Prop} (hk : kn σ o = (0, 3)) : Rn d m_X3_numbersKind 12 [l0, l1] (vR o :: st) σ Q ↔ Rn d m_X3_numbersKind 15 [l0, l1] (vI (σ o 3) :: st) σ Q := q33 (show fnd (pgm m_X3_numbersKind) 12 = some (15, 33, 23, 3, 3, []) from rfl) hk
set_option maxRecDepth 100000 in
theorem s_X3_numbersKind_15 {d : Nat} {l0 l1 : AV} {st : List AV} {a b : Int} {σ : Sg} {Q : AV → Sg → Prop}  : Rn d m_X3_numbersKind 15 [l0, l1] (vI b :: vI a :: st) σ Q ↔ Rn d m_X3_numbersKind 16 [l0, l1] (vI (a - b) :: st) σ Q := q10_1 (show fnd (pgm m_X3_numbersKind) 15 = some (16, 10, 0, 1, 0, []) from rfl)
set_option maxRecDepth 100000 in
theorem s_X3_numbersKind_16 {d : Nat} {l0 l1 : AV} {st : List AV} {σ : Sg} {Q : AV → Sg → Prop}  : Rn d m_X3_numbersKind 16 [l0, l1] st σ Q ↔ Rn d m_X3_numbersKind 17 [l0, l1] (vI 2 :: st) σ Q := q0 (show fnd (pgm m_X3_numbersKind) 16 = some (17, 0, 2, 0, 0, []) from rfl)
set_option maxRecDepth 100000 in
theorem s_X3_numbersKind_17 {d : Nat} {l0 l1 : AV} {st : List AV} {a b : Int} {σ : Sg} {Q : AV → Sg → Prop}  : Rn d m_X3_numbersKind 17 [l0, l1] (vI b :: vI a :: st) σ Q ↔ if w32 a ≤ w32 b then Rn d m_X3_numbersKind 22 [l0, l1] st σ Q else Rn d m_X3_numbersKind 20 [l0, l1] st σ Q := q20_5 (show fnd (pgm m_X3_numbersKind) 17 = some (20, 20, 0, 5, 22, []) from rfl)
set_option maxRecDepth 100000 in
theorem s_X3_numbersKind_20 {d : Nat} {l0 l1 : AV} {st : List AV} {σ : Sg} {Q : AV → Sg → Prop}  : Rn d m_X3_numbersKind 20 [l0, l1] st σ Q ↔ Rn d m_X3_numbersKind 21 [l0, l1] (vI 5 :: st) σ Q := q0 (show fnd (pgm m_X3_numbersKind) 20 = some (21, 0, 5, 0, 0, []) from rfl)
set_option maxRecDepth 100000 in
theorem s_X3_numbersKind_21 {d : Nat} {l0 l1 : AV} {x : Int} {σ : Sg} {Q : AV → Sg → Prop}  : Rn d m_X3_numbersKind 21 [l0, l1] [vI x] σ Q ↔ Q (vI x) σ := q37_1 (st := []) (show fnd (pgm m_X3_numbersKind) 21 = some (22, 37, 0, 1, 0, []) from rfl)
set_option maxRecDepth 100000 in
theorem s_X3_numbersKind_22 {d : Nat} {l1 : AV} {st : List AV} {o : Nat} {σ : Sg} {Q : AV → Sg → Prop} (ho : o ≠ 0) : Rn d m_X3_numbersKind 22 [vR o, l1] st σ Q ↔ Rn d m_X3_numbersKind 23 [vR o, l1] (vR o :: st) σ Q := q5 (show fnd (pgm m_X3_numbersKind) 22 = some (23, 5, 0, 0, 0, []) from rfl) rfl ho
set_option maxRecDepth 100000 in
theorem s_X3_numbersKind_23 {d : Nat} {l0 l1 : AV} {st : List AV} {σ : Sg} {Q : AV → Sg → Prop}  : Rn d m_X3_numbersKind 23 [l0, l1] st σ Q ↔ Rn d m_X3_numbersKind 24 [l0, l1] (vI 0 :: st) σ Q := q0 (show fnd (pgm m_X3_numbersKind) 23 = some (24, 0, 0, 0, 0, []) from rfl)
set_option maxRecDepth 100000 in
theorem s_X3_numbersKind_24 {d : Nat} {l0 l1 : AV} {st : List AV} {o : Nat} {x : Int} {σ : Sg} {Q : AV → Sg → Prop} (hk : kn σ o = (0, 3)) : Rn d m_X3_numbersKind 24 [l0, l1] (vI x :: vR o :: st) σ Q ↔ Rn d m_X3_numbersKind 27 [l0, l1] st (up σ o 4 x) Q := q34i (show fnd (pgm m_X3_numbersKind) 24 = some (27, 34, 26, 3, 4, []) from rfl) hk rfl
set_option maxRecDepth 100000 in
theorem s_X3_numbersKind_27 {d : Nat} {l1 : AV} {st : List AV} {o : Nat} {σ : Sg} {Q : AV → Sg → Prop} (ho : o ≠ 0) : Rn d m_X3_numbersKind 27 [vR o, l1] st σ Q ↔ Rn d m_X3_numbersKind 28 [vR o, l1] (vR o :: st) σ Q := q5 (show fnd (pgm m_X3_numbersKind) 27 = some (28, 5, 0, 0, 0, []) from rfl) rfl ho
set_option maxRecDepth 100000 in
theorem s_X3_numbersKind_28 {d : Nat} {l0 l1 : AV} {st : List AV} {o : Nat} {σ : Sg} {Q : AV → Sg → Prop} (hk : kn σ o = (0, 3)) : Rn d m_X3_numbersKind 28 [l0, l1] (vR o :: st) σ Q ↔ Rn d m_X3_numbersKind 31 [l0, l1] (vI (σ o 3) :: st) σ Q := q33 (show fnd (pgm m_X3_numbersKind) 28 = some (31, 33, 23, 3, 3, []) from rfl) hk
set_option maxRecDepth 100000 in
theorem s_X3_numbersKind_31 {d : Nat} {l0 l1 : AV} {st : List AV} {x : Int} {σ : Sg} {Q : AV → Sg → Prop}  : Rn d m_X3_numbersKind 31 [l0, l1] (vI x :: st) σ Q ↔ Rn d m_X3_numbersKind 32 [l0, vI x] st σ Q := q6 (show fnd (pgm m_X3_numbersKind) 31 = some (32, 6, 0, 1, 0, []) from rfl) (by decide : 1 < 2)
set_option maxRecDepth 100000 in
theorem s_X3_numbersKind_32 {d : Nat} {l0 : AV} {st : List AV} {x : Int} {σ : Sg} {Q : AV → Sg → Prop}  : Rn d m_X3_numbersKind 32 [l0, vI x] st σ Q ↔ Rn d m_X3_numbersKind 33 [l0, vI x] (vI x :: st) σ Q := q3 (show fnd (pgm m_X3_numbersKind) 32 = some (33, 3, 0, 1, 0, []) from rfl) rfl
set_option maxRecDepth 100000 in
theorem s_X3_numbersKind_33 {d : Nat} {l1 : AV} {st : List AV} {o : Nat} {σ : Sg} {Q : AV → Sg → Prop} (ho : o ≠ 0) : Rn d m_X3_numbersKind 33 [vR o, l1] st σ Q ↔ Rn d m_X3_numbersKind 34 [vR o, l1] (vR o :: st) σ Q := q5 (show fnd (pgm m_X3_numbersKind) 33 = some (34, 5, 0, 0, 0, []) from rfl) rfl ho
set_option maxRecDepth 100000 in
theorem s_X3_numbersKind_34 {d : Nat} {l0 l1 : AV} {st : List AV} {o : Nat} {σ : Sg} {Q : AV → Sg → Prop} (hk : kn σ o = (0, 3)) : Rn d m_X3_numbersKind 34 [l0, l1] (vR o :: st) σ Q ↔ Rn d m_X3_numbersKind 37 [l0, l1] (vI (σ o 2) :: st) σ Q := q33 (show fnd (pgm m_X3_numbersKind) 34 = some (37, 33, 19, 3, 2, []) from rfl) hk
set_option maxRecDepth 100000 in
theorem s_X3_numbersKind_37 {d : Nat} {l0 l1 : AV} {st : List AV} {a b : Int} {σ : Sg} {Q : AV → Sg → Prop}  : Rn d m_X3_numbersKind 37 [l0, l1] (vI b :: vI a :: st) σ Q ↔ if w32 b ≤ w32 a then Rn d m_X3_numbersKind 70 [l0, l1] st σ Q else Rn d m_X3_numbersKind 40 [l0, l1] st σ Q := q20_3 (show fnd (pgm m_X3_numbersKind) 37 = some (40, 20, 0, 3, 70, []) from rfl)
set_option maxRecDepth 100000 in
theorem s_X3_numbersKind_40 {d : Nat} {l1 : AV} {st : List AV} {o : Nat} {σ : Sg} {Q : AV → Sg → Prop} (ho : o ≠ 0) : Rn d m_X3_numbersKind 40 [vR o, l1] st σ Q ↔ Rn d m_X3_numbersKind 41 [vR o, l1] (vR o :: st) σ Q := q5 (show fnd (pgm m_X3_numbersKind) 40 = some (41, 5, 0, 0, 0, []) from rfl) rfl ho
set_option maxRecDepth 100000 in
theorem s_X3_numbersKind_41 {d : Nat} {l0 l1 : AV} {st : List AV} {σ : Sg} {Q : AV → Sg → Prop}  : Rn d m_X3_numbersKind 41 [l0, l1] st σ Q ↔ Rn d m_X3_numbersKind 43 [l0, l1] (vI 10 :: st) σ Q := q0 (show fnd (pgm m_X3_numbersKind) 41 = some (43, 0, 10, 1, 0, []) from rfl)
set_option maxRecDepth 100000 in
theorem s_X3_numbersKind_43 {d : Nat} {l1 : AV} {st : List AV} {o : Nat} {σ : Sg} {Q : AV → Sg → Prop} (ho : o ≠ 0) : Rn d m_X3_numbersKind 43 [vR o, l1] st σ Q ↔ Rn d m_X3_numbersKind 44 [vR o, l1] (vR o :: st) σ Q := q5 (show fnd (pgm m_X3_numbersKind) 43 = some (44, 5, 0, 0, 0, []) from rfl) rfl ho
set_option maxRecDepth 100000 in
theorem s_X3_numbersKind_44 {d : Nat} {l0 l1 : AV} {st : List AV} {o : Nat} {σ : Sg} {Q : AV → Sg → Prop} (hk : kn σ o = (0, 3)) : Rn d m_X3_numbersKind 44 [l0, l1] (vR o :: st) σ Q ↔ Rn d m_X3_numbersKind 47 [l0, l1] (vI (σ o 4) :: st) σ Q := q33 (show fnd (pgm m_X3_numbersKind) 44 = some (47, 33, 26, 3, 4, []) from rfl) hk
set_option maxRecDepth 100000 in
theorem s_X3_numbersKind_47 {d : Nat} {l0 l1 : AV} {st : List AV} {a b : Int} {σ : Sg} {Q : AV → Sg → Prop}  : Rn d m_X3_numbersKind 47 [l0, l1] (vI b :: vI a :: st) σ Q ↔ Rn d m_X3_numbersKind 48 [l0, l1] (vI (a * b) :: st) σ Q := q10_2 (show fnd (pgm m_X3_numbersKind) 47 = some (48, 10, 0, 2, 0, []) from rfl)
set_option maxRecDepth 100000 in
theorem s_X3_numbersKind_48 {d : Nat} {l1 : AV} {st : List AV} {o : Nat} {σ : Sg} {Q : AV → Sg → Prop} (ho : o ≠ 0) : Rn d m_X3_numbersKind 48 [vR o, l1] st σ Q ↔ Rn d m_X3_numbersKind 49 [vR o, l1] (vR o :: st) σ Q := q5 (show fnd (pgm m_X3_numbersKind) 48 = some (49, 5, 0, 0, 0, []) from rfl) rfl ho
set_option maxRecDepth 100000 in
theorem s_X3_numbersKind_49 {d : Nat} {l0 l1 : AV} {st : List AV} {o : Nat} {σ : Sg} {Q : AV → Sg → Prop} (hk : kn σ o = (0, 3)) : Rn d m_X3_numbersKind 49 [l0, l1] (vR o :: st) σ Q ↔ Rn d m_X3_numbersKind 52 [l0, l1] (vR (σ o 1).toNat :: st) σ Q := q33 (show fnd (pgm m_X3_numbersKind) 49 = some (52, 33, 15, 3, 1, []) from rfl) hk
set_option maxRecDepth 100000 in
theorem s_X3_numbersKind_52 {d : Nat} {l0 l1 : AV} {st : List AV} {o : Nat} {σ : Sg} {Q : AV → Sg → Prop} (hk : kn σ o = (0, 0)) : Rn d m_X3_numbersKind 52 [l0, l1] (vR o :: st) σ Q ↔ Rn d m_X3_numbersKind 55 [l0, l1] (vR (tp o 8) :: st) σ Q := q33 (show fnd (pgm m_X3_numbersKind) 52 = some (55, 33, 75, 0, 8, []) from rfl) hk
set_option maxRecDepth 100000 in
theorem s_X3_numbersKind_55 {d : Nat} {l0 : AV} {st : List AV} {x : Int} {σ : Sg} {Q : AV → Sg → Prop}  : Rn d m_X3_numbersKind 55 [l0, vI x] st σ Q ↔ Rn d m_X3_numbersKind 56 [l0, vI x] (vI x :: st) σ Q := q3 (show fnd (pgm m_X3_numbersKind) 55 = some (56, 3, 0, 1, 0, []) from rfl) rfl
set_option maxRecDepth 100000 in
theorem s_X3_numbersKind_56 {d : Nat} {l0 l1 : AV} {st : List AV} {i : Int} {o : Nat} {σ : Sg} {Q : AV → Sg → Prop} (hi : 0 ≤ w32 i ∧ w32 i < al σ 1 o) : Rn d m_X3_numbersKind 56 [l0, l1] (vI i :: vR o :: st) σ Q ↔ Rn d m_X3_numbersKind 57 [l0, l1] (vI (σ o (w32 i)) :: st) σ Q := q25 (show fnd (pgm m_X3_numbersKind) 56 = some (57, 25, 0, 0, 0, []) from rfl) hi
set_option maxRecDepth 100000 in
theorem s_X3_numbersKind_57 {d : Nat} {l0 l1 : AV} {st : List AV} {a b : Int} {σ : Sg} {Q : AV → Sg → Prop}  : Rn d m_X3_numbersKind 57 [l0, l1] (vI b :: vI a :: st) σ Q ↔ Rn d m_X3_numbersKind 58 [l0, l1] (vI (a + b) :: st) σ Q := q10_0 (show fnd (pgm m_X3_numbersKind) 57 = some (58, 10, 0, 0, 0, []) from rfl)
set_option maxRecDepth 100000 in
theorem s_X3_numbersKind_58 {d : Nat} {l0 l1 : AV} {st : List AV} {σ : Sg} {Q : AV → Sg → Prop}  : Rn d m_X3_numbersKind 58 [l0, l1] st σ Q ↔ Rn d m_X3_numbersKind 60 [l0, l1] (vI 48 :: st) σ Q := q0 (show fnd (pgm m_X3_numbersKind) 58 = some (60, 0, 48, 1, 0, []) from rfl)
set_option maxRecDepth 100000 in
theorem s_X3_numbersKind_60 {d : Nat} {l0 l1 : AV} {st : List AV} {a b : Int} {σ : Sg} {Q : AV → Sg → Prop}  : Rn d m_X3_numbersKind 60 [l0, l1] (vI b :: vI a :: st) σ Q ↔ Rn d m_X3_numbersKind 61 [l0, l1] (vI (a - b) :: st) σ Q := q10_1 (show fnd (pgm m_X3_numbersKind) 60 = some (61, 10, 0, 1, 0, []) from rfl)
set_option maxRecDepth 100000 in
theorem s_X3_numbersKind_61 {d : Nat} {l0 l1 : AV} {st : List AV} {o : Nat} {x : Int} {σ : Sg} {Q : AV → Sg → Prop} (hk : kn σ o = (0, 3)) : Rn d m_X3_numbersKind 61 [l0, l1] (vI x :: vR o :: st) σ Q ↔ Rn d m_X3_numbersKind 64 [l0, l1] st (up σ o 4 x) Q := q34i (show fnd (pgm m_X3_numbersKind) 61 = some (64, 34, 26, 3, 4, []) from rfl) hk rfl
set_option maxRecDepth 100000 in
theorem s_X3_numbersKind_64 {d : Nat} {l0 : AV} {st : List AV} {x : Int} {σ : Sg} {Q : AV → Sg → Prop}  : Rn d m_X3_numbersKind 64 [l0, vI x] st σ Q ↔ Rn d m_X3_numbersKind 67 [l0, vI (x + 1)] st σ Q := q9 (show fnd (pgm m_X3_numbersKind) 64 = some (67, 9, 1, 1, 0, []) from rfl) rfl
set_option maxRecDepth 100000 in
theorem s_X3_numbersKind_67 {d : Nat} {l0 l1 : AV} {st : List AV} {σ : Sg} {Q : AV → Sg → Prop}  : Rn d m_X3_numbersKind 67 [l0, l1] st σ Q ↔ Rn d m_X3_numbersKind 32 [l0, l1] st σ Q := q21 (show fnd (pgm m_X3_numbersKind) 67 = some (70, 21, 0, 0, 32, []) from rfl)
set_option maxRecDepth 100000 in
theorem s_X3_numbersKind_70 {d : Nat} {l0 l1 : AV} {st : List AV} {σ : Sg} {Q : AV → Sg → Prop}  : Rn d m_X3_numbersKind 70 [l0, l1] st σ Q ↔ Rn d m_X3_numbersKind 71 [l0, l1] (vI 3 :: st) σ Q := q0 (show fnd (pgm m_X3_numbersKind) 70 = some (71, 0, 3, 0, 0, []) from rfl)
set_option maxRecDepth 100000 in
theorem s_X3_numbersKind_71 {d : Nat} {l0 l1 : AV} {x : Int} {σ : Sg} {Q : AV → Sg → Prop}  : Rn d m_X3_numbersKind 71 [l0, l1] [vI x] σ Q ↔ Q (vI x) σ := q37_1 (st := []) (show fnd (pgm m_X3_numbersKind) 71 = some (72, 37, 0, 1, 0, []) from rfl)
