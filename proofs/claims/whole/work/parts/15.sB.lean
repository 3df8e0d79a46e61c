set_option maxRecDepth 100000 in
theorem en_X4_start {d : Nat} {o : Nat} {a0 : Nat} {a1 : Int} {a2 : Nat} {σ σ0 : Sg} {r0 : AV} (h : Rn d m_X4_start 0 [vR o, vR a0, vI a1, vR a2] [] σ (fun r σ1 => r = r0 ∧ σ1 = σ0)) : Ev (d + 1) m_X4_start [vR o, vR a0, vI a1, vR a2] σ r0 σ0 := Ev_is (Nat.le_of_ble_eq_true rfl) h
set_option maxRecDepth 100000 in
theorem eo_X4_start {d : Nat} {o : Nat} {a0 : Nat} {a1 : Int} {a2 : Nat} {σ : Sg} {Q : AV → Sg → Prop} (h : Rn d m_X4_start 0 [vR o, vR a0, vI a1, vR a2] [] σ Q) : ∃ r σ1, Ev (d + 1) m_X4_start [vR o, vR a0, vI a1, vR a2] σ r σ1 ∧ Q r σ1 := Ev_of (Nat.le_of_ble_eq_true rfl) h
set_option maxRecDepth 100000 in
theorem s_X4_start_0 {d : Nat} {l1 l2 l3 : AV} {st : List AV} {o : Nat} {σ : Sg} {Q : AV → Sg → Prop} (ho : o ≠ 0) : Rn d m_X4_start 0 [vR o, l1, l2, l3] st σ Q ↔ Rn d m_X4_start 1 [vR o, l1, l2, l3] (vR o :: st) σ Q := q5 (show fnd (pgm m_X4_start) 0 = some (1, 5, 0, 0, 0, []) from rfl) rfl ho
set_option maxRecDepth 100000 in
theorem s_X4_start_1 {d : Nat} {l0 l2 l3 : AV} {st : List AV} {o : Nat} {σ : Sg} {Q : AV → Sg → Prop} (ho : o ≠ 0) : Rn d m_X4_start 1 [l0, vR o, l2, l3] st σ Q ↔ Rn d m_X4_start 2 [l0, vR o, l2, l3] (vR o :: st) σ Q := q5 (show fnd (pgm m_X4_start) 1 = some (2, 5, 0, 1, 0, []) from rfl) rfl ho
set_option maxRecDepth 100000 in
theorem s_X4_start_2 {d : Nat} {l0 l1 l2 l3 : AV} {st : List AV} {o : Nat} {x : Nat} {σ : Sg} {Q : AV → Sg → Prop} (hk : kn σ o = (0, 4)) : Rn d m_X4_start 2 [l0, l1, l2, l3] (vR x :: vR o :: st) σ Q ↔ Rn d m_X4_start 5 [l0, l1, l2, l3] st (up σ o 8 x) Q := q34r (show fnd (pgm m_X4_start) 2 = some (5, 34, 38, 4, 8, []) from rfl) hk rfl
set_option maxRecDepth 100000 in
theorem s_X4_start_5 {d : Nat} {l1 l2 l3 : AV} {st : List AV} {o : Nat} {σ : Sg} {Q : AV → Sg → Prop} (ho : o ≠ 0) : Rn d m_X4_start 5 [vR o, l1, l2, l3] st σ Q ↔ Rn d m_X4_start 6 [vR o, l1, l2, l3] (vR o :: st) σ Q := q5 (show fnd (pgm m_X4_start) 5 = some (6, 5, 0, 0, 0, []) from rfl) rfl ho
set_option maxRecDepth 100000 in
theorem s_X4_start_6 {d : Nat} {l0 l1 l3 : AV} {st : List AV} {x : Int} {σ : Sg} {Q : AV → Sg → Prop}  : Rn d m_X4_start 6 [l0, l1, vI x, l3] st σ Q ↔ Rn d m_X4_start 7 [l0, l1, vI x, l3] (vI x :: st) σ Q := q3 (show fnd (pgm m_X4_start) 6 = some (7, 3, 0, 2, 0, []) from rfl) rfl
set_option maxRecDepth 100000 in
theorem s_X4_start_7 {d : Nat} {l0 l1 l2 l3 : AV} {st : List AV} {σ : Sg} {Q : AV → Sg → Prop}  : Rn d m_X4_start 7 [l0, l1, l2, l3] st σ Q ↔ Rn d m_X4_start 8 [l0, l1, l2, l3] (vI 1 :: st) σ Q := q0 (show fnd (pgm m_X4_start) 7 = some (8, 0, 1, 0, 0, []) from rfl)
set_option maxRecDepth 100000 in
theorem s_X4_start_8 {d : Nat} {l0 l2 l3 : AV} {st : List AV} {o : Nat} {σ : Sg} {Q : AV → Sg → Prop} (ho : o ≠ 0) : Rn d m_X4_start 8 [l0, vR o, l2, l3] st σ Q ↔ Rn d m_X4_start 9 [l0, vR o, l2, l3] (vR o :: st) σ Q := q5 (show fnd (pgm m_X4_start) 8 = some (9, 5, 0, 1, 0, []) from rfl) rfl ho
set_option maxRecDepth 100000 in
theorem s_X4_start_9 {d : Nat} {l0 l1 l2 l3 : AV} {st : List AV} {o : Nat} {σ : Sg} {Q : AV → Sg → Prop} (hk : kn σ o = (0, 0)) : Rn d m_X4_start 9 [l0, l1, l2, l3] (vR o :: st) σ Q ↔ Rn d m_X4_start 12 [l0, l1, l2, l3] (vI (σ o 0) :: st) σ Q := q33 (show fnd (pgm m_X4_start) 9 = some (12, 33, 54, 0, 0, []) from rfl) hk
set_option maxRecDepth 100000 in
theorem s_X4_start_12 {d : Nat} {l0 l1 l2 l3 : AV} {st : List AV} {a b : Int} {σ : Sg} {Q : AV → Sg → Prop}  : Rn d m_X4_start 12 [l0, l1, l2, l3] (vI b :: vI a :: st) σ Q ↔ Rn d m_X4_start 13 [l0, l1, l2, l3] (vI (shl32 a b) :: st) σ Q := q10_8 (show fnd (pgm m_X4_start) 12 = some (13, 10, 0, 8, 0, []) from rfl)
set_option maxRecDepth 100000 in
theorem s_X4_start_13 {d : Nat} {l0 l1 l2 l3 : AV} {st : List AV} {σ : Sg} {Q : AV → Sg → Prop}  : Rn d m_X4_start 13 [l0, l1, l2, l3] st σ Q ↔ Rn d m_X4_start 14 [l0, l1, l2, l3] (vI 1 :: st) σ Q := q0 (show fnd (pgm m_X4_start) 13 = some (14, 0, 1, 0, 0, []) from rfl)
set_option maxRecDepth 100000 in
theorem s_X4_start_14 {d : Nat} {l0 l1 l2 l3 : AV} {st : List AV} {a b : Int} {σ : Sg} {Q : AV → Sg → Prop}  : Rn d m_X4_start 14 [l0, l1, l2, l3] (vI b :: vI a :: st) σ Q ↔ Rn d m_X4_start 15 [l0, l1, l2, l3] (vI (a - b) :: st) σ Q := q10_1 (show fnd (pgm m_X4_start) 14 = some (15, 10, 0, 1, 0, []) from rfl)
set_option maxRecDepth 100000 in
theorem s_X4_start_15 {d : Nat} {l0 l1 l2 l3 : AV} {st : List AV} {a b : Int} {σ : Sg} {Q : AV → Sg → Prop}  : Rn d m_X4_start 15 [l0, l1, l2, l3] (vI b :: vI a :: st) σ Q ↔ Rn d m_X4_start 16 [l0, l1, l2, l3] (vI (and32 a b) :: st) σ Q := q10_5 (show fnd (pgm m_X4_start) 15 = some (16, 10, 0, 5, 0, []) from rfl)
set_option maxRecDepth 100000 in
theorem s_X4_start_16 {d : Nat} {l0 l1 l2 l3 : AV} {st : List AV} {o : Nat} {x : Int} {σ : Sg} {Q : AV → Sg → Prop} (hk : kn σ o = (0, 4)) : Rn d m_X4_start 16 [l0, l1, l2, l3] (vI x :: vR o :: st) σ Q ↔ Rn d m_X4_start 19 [l0, l1, l2, l3] st (up σ o 9 x) Q := q34i (show fnd (pgm m_X4_start) 16 = some (19, 34, 42, 4, 9, []) from rfl) hk rfl
set_option maxRecDepth 100000 in
theorem s_X4_start_19 {d : Nat} {l1 l2 l3 : AV} {st : List AV} {o : Nat} {σ : Sg} {Q : AV → Sg → Prop} (ho : o ≠ 0) : Rn d m_X4_start 19 [vR o, l1, l2, l3] st σ Q ↔ Rn d m_X4_start 20 [vR o, l1, l2, l3] (vR o :: st) σ Q := q5 (show fnd (pgm m_X4_start) 19 = some (20, 5, 0, 0, 0, []) from rfl) rfl ho
set_option maxRecDepth 100000 in
theorem s_X4_start_20 {d : Nat} {l0 l1 l2 l3 : AV} {st : List AV} {σ : Sg} {Q : AV → Sg → Prop}  : Rn d m_X4_start 20 [l0, l1, l2, l3] st σ Q ↔ Rn d m_X4_start 21 [l0, l1, l2, l3] (vI 0 :: st) σ Q := q0 (show fnd (pgm m_X4_start) 20 = some (21, 0, 0, 0, 0, []) from rfl)
set_option maxRecDepth 100000 in
theorem s_X4_start_21 {d : Nat} {l0 l1 l2 l3 : AV} {st : List AV} {o : Nat} {x : Int} {σ : Sg} {Q : AV → Sg → Prop} (hk : kn σ o = (0, 4)) : Rn d m_X4_start 21 [l0, l1, l2, l3] (vI x :: vR o :: st) σ Q ↔ Rn d m_X4_start 24 [l0, l1, l2, l3] st (up σ o 6 x) Q := q34i (show fnd (pgm m_X4_start) 21 = some (24, 34, 30, 4, 6, []) from rfl) hk rfl
set_option maxRecDepth 100000 in
theorem s_X4_start_24 {d : Nat} {l0 l1 l2 : AV} {st : List AV} {o : Nat} {σ : Sg} {Q : AV → Sg → Prop} (ho : o ≠ 0) : Rn d m_X4_start 24 [l0, l1, l2, vR o] st σ Q ↔ Rn d m_X4_start 25 [l0, l1, l2, vR o] (vR o :: st) σ Q := q5 (show fnd (pgm m_X4_start) 24 = some (25, 5, 0, 3, 0, []) from rfl) rfl ho
set_option maxRecDepth 100000 in
theorem s_X4_start_25 {d : Nat} {l0 l1 l2 l3 : AV} {st : List AV} {σ : Sg} {Q : AV → Sg → Prop}  : Rn d m_X4_start 25 [l0, l1, l2, l3] st σ Q ↔ Rn d m_X4_start 26 [l0, l1, l2, l3] (vI 0 :: st) σ Q := q0 (show fnd (pgm m_X4_start) 25 = some (26, 0, 0, 0, 0, []) from rfl)
set_option maxRecDepth 100000 in
theorem s_X4_start_26 {d : Nat} {l1 l2 l3 : AV} {st : List AV} {o : Nat} {σ : Sg} {Q : AV → Sg → Prop} (ho : o ≠ 0) : Rn d m_X4_start 26 [vR o, l1, l2, l3] st σ Q ↔ Rn d m_X4_start 27 [vR o, l1, l2, l3] (vR o :: st) σ Q := q5 (show fnd (pgm m_X4_start) 26 = some (27, 5, 0, 0, 0, []) from rfl) rfl ho
set_option maxRecDepth 100000 in
theorem s_X4_start_27 {d : Nat} {l0 l1 l2 l3 : AV} {st : List AV} {o : Nat} {σ : Sg} {Q : AV → Sg → Prop} (hk : kn σ o = (0, 4)) : Rn d m_X4_start 27 [l0, l1, l2, l3] (vR o :: st) σ Q ↔ Rn d m_X4_start 30 [l0, l1, l2, l3] (vR (tp o 0) :: st) σ Q := q33 (show fnd (pgm m_X4_start) 27 = some (30, 33, 9, 4, 0, []) from rfl) hk
set_option maxRecDepth 100000 in
theorem s_X4_start_30 {d : Nat} {l0 l1 l2 l3 : AV} {st : List AV} {σ : Sg} {Q : AV → Sg → Prop}  : Rn d m_X4_start 30 [l0, l1, l2, l3] st σ Q ↔ Rn d m_X4_start 31 [l0, l1, l2, l3] (vI 0 :: st) σ Q := q0 (show fnd (pgm m_X4_start) 30 = some (31, 0, 0, 0, 0, []) from rfl)
set_option maxRecDepth 100000 in
theorem s_X4_start_31 {d : Nat} {l0 l1 l2 l3 : AV} {st : List AV} {σ : Sg} {Q : AV → Sg → Prop}  : Rn d m_X4_start 31 [l0, l1, l2, l3] st σ Q ↔ Rn d m_X4_start 33 [l0, l1, l2, l3] (vI 6 :: st) σ Q := q0 (show fnd (pgm m_X4_start) 31 = some (33, 0, 6, 1, 0, []) from rfl)
set_option maxRecDepth 100000 in
theorem s_X4_start_33 {d : Nat} {l0 l1 l2 l3 : AV} {st : List AV} {n dp sp : Int} {a b : Nat} {σ : Sg} {Q : AV → Sg → Prop} (hc : 0 ≤ w32 sp ∧ 0 ≤ w32 dp ∧ 0 ≤ w32 n ∧ w32 sp + w32 n ≤ al σ 1 a ∧ w32 dp + w32 n ≤ al σ 1 b ∧ a ≠ b ∧ st.length ≤ 4 ∧ 0 < al σ 1 a ∧ 0 < al σ 1 b) : Rn d m_X4_start 33 [l0, l1, l2, l3] (vI n :: vI dp :: vR b :: vI sp :: vR a :: st) σ Q ↔ Rn d m_X4_start 36 [l0, l1, l2, l3] st (cpy σ a (w32 sp) b (w32 dp) (w32 n)) Q := q36 (show fnd (pgm m_X4_start) 33 = some (36, 36, 59, 1, 0, []) from rfl) ⟨by decide, hc⟩
set_option maxRecDepth 100000 in
theorem s_X4_start_36 {d : Nat} {l0 l1 l2 l3 : AV} {σ : Sg} {Q : AV → Sg → Prop}  : Rn d m_X4_start 36 [l0, l1, l2, l3] [] σ Q ↔ Q none σ := q37_0 (st := []) (show fnd (pgm m_X4_start) 36 = some (37, 37, 0, 0, 0, []) from rfl)
set_option maxRecDepth 100000 in
theorem en_X4_go {d : Nat} {o : Nat} {a0 : Nat} {a1 : Int} {a2 : Int} {σ σ0 : Sg} {r0 : AV} (h : Rn d m_X4_go 0 [vR o, vR a0, vI a1, vI a2, none] [] σ (fun r σ1 => r = r0 ∧ σ1 = σ0)) : Ev (d + 1) m_X4_go [vR o, vR a0, vI a1, vI a2] σ r0 σ0 := Ev_is (Nat.le_of_ble_eq_true rfl) h
set_option maxRecDepth 100000 in
theorem eo_X4_go {d : Nat} {o : Nat} {a0 : Nat} {a1 : Int} {a2 : Int} {σ : Sg} {Q : AV → Sg → Prop} (h : Rn d m_X4_go 0 [vR o, vR a0, vI a1, vI a2, none] [] σ Q) : ∃ r σ1, Ev (d + 1) m_X4_go [vR o, vR a0, vI a1, vI a2] σ r σ1 ∧ Q r σ1 := Ev_of (Nat.le_of_ble_eq_true rfl) h
set_option maxRecDepth 100000 in
theorem s_X4_go_0 {d : Nat} {l0 l1 l2 l3 l4 : AV} {st : List AV} {σ : Sg} {Q : AV → Sg → Prop}  : Rn d m_X4_go 0 [l0, l1, l2, l3, l4] st σ Q ↔ Rn d m_X4_go 1 [l0, l1, l2, l3, l4] (vI 0 :: st) σ Q := q0 (show fnd (pgm m_X4_go) 0 = some (1, 0, 0, 0, 0, []) from rfl)
set_option maxRecDepth 100000 in
theorem s_X4_go_1 {d : Nat} {l0 l1 l3 l4 : AV} {st : List AV} {x : Int} {σ : Sg} {Q : AV → Sg → Prop}  : Rn d m_X4_go 1 [l0, l1, vI x, l3, l4] st σ Q ↔ Rn d m_X4_go 2 [l0, l1, vI x, l3, l4] (vI x :: st) σ Q := q3 (show fnd (pgm m_X4_go) 1 = some (2, 3, 0, 2, 0, []) from rfl) rfl
set_option maxRecDepth 100000 in
theorem s_X4_go_2 {d : Nat} {l0 l1 l2 l3 l4 : AV} {st : List AV} {a b : Int} {σ : Sg} {Q : AV → Sg → Prop} (h4 : st.length ≤ 4) : Rn d m_X4_go 2 [l0, l1, l2, l3, l4] (vI b :: vI a :: st) σ Q ↔ Rn d m_X4_go 5 [l0, l1, l2, l3, l4] (vI (if w32 a < w32 b then b else a) :: st) σ Q := q43 (show fnd (pgm m_X4_go) 2 = some (5, 43, 65, 0, 0, []) from rfl) h4
set_option maxRecDepth 100000 in
theorem s_X4_go_5 {d : Nat} {l0 l1 l2 l3 l4 : AV} {st : List AV} {x : Int} {σ : Sg} {Q : AV → Sg → Prop}  : Rn d m_X4_go 5 [l0, l1, l2, l3, l4] (vI x :: st) σ Q ↔ Rn d m_X4_go 7 [l0, l1, l2, l3, vI x] st σ Q := q6 (show fnd (pgm m_X4_go) 5 = some (7, 6, 0, 4, 1, []) from rfl) (by decide : 4 < 5)
set_option maxRecDepth 100000 in
theorem s_X4_go_7 {d : Nat} {l0 l1 l2 l3 : AV} {st : List AV} {x : Int} {σ : Sg} {Q : AV → Sg → Prop}  : Rn d m_X4_go 7 [l0, l1, l2, l3, vI x] st σ Q ↔ Rn d m_X4_go 9 [l0, l1, l2, l3, vI x] (vI x :: st) σ Q := q3 (show fnd (pgm m_X4_go) 7 = some (9, 3, 0, 4, 1, []) from rfl) rfl
set_option maxRecDepth 100000 in
theorem s_X4_go_9 {d : Nat} {l0 l1 l2 l4 : AV} {st : List AV} {x : Int} {σ : Sg} {Q : AV → Sg → Prop}  : Rn d m_X4_go 9 [l0, l1, l2, vI x, l4] st σ Q ↔ Rn d m_X4_go 10 [l0, l1, l2, vI x, l4] (vI x :: st) σ Q := q3 (show fnd (pgm m_X4_go) 9 = some (10, 3, 0, 3, 0, []) from rfl) rfl
set_option maxRecDepth 100000 in
theorem s_X4_go_10 {d : Nat} {l0 l1 l2 l3 l4 : AV} {st : List AV} {a b : Int} {σ : Sg} {Q : AV → Sg → Prop}  : Rn d m_X4_go 10 [l0, l1, l2, l3, l4] (vI b :: vI a :: st) σ Q ↔ if w32 b < w32 a then Rn d m_X4_go 57 [l0, l1, l2, l3, l4] st σ Q else Rn d m_X4_go 13 [l0, l1, l2, l3, l4] st σ Q := q20_4 (show fnd (pgm m_X4_go) 10 = some (13, 20, 0, 4, 57, []) from rfl)
set_option maxRecDepth 100000 in
theorem s_X4_go_13 {d : Nat} {l0 l1 l2 l3 : AV} {st : List AV} {x : Int} {σ : Sg} {Q : AV → Sg → Prop}  : Rn d m_X4_go 13 [l0, l1, l2, l3, vI x] st σ Q ↔ Rn d m_X4_go 15 [l0, l1, l2, l3, vI x] (vI x :: st) σ Q := q3 (show fnd (pgm m_X4_go) 13 = some (15, 3, 0, 4, 1, []) from rfl) rfl
set_option maxRecDepth 100000 in
theorem s_X4_go_15 {d : Nat} {l0 l1 l2 l3 l4 : AV} {st : List AV} {σ : Sg} {Q : AV → Sg → Prop}  : Rn d m_X4_go 15 [l0, l1, l2, l3, l4] st σ Q ↔ Rn d m_X4_go 17 [l0, l1, l2, l3, l4] (vI 20 :: st) σ Q := q0 (show fnd (pgm m_X4_go) 15 = some (17, 0, 20, 1, 0, []) from rfl)
set_option maxRecDepth 100000 in
theorem s_X4_go_17 {d : Nat} {l0 l1 l2 l3 l4 : AV} {st : List AV} {a b : Int} {σ : Sg} {Q : AV → Sg → Prop}  : Rn d m_X4_go 17 [l0, l1, l2, l3, l4] (vI b :: vI a :: st) σ Q ↔ if w32 b ≤ w32 a then Rn d m_X4_go 57 [l0, l1, l2, l3, l4] st σ Q else Rn d m_X4_go 20 [l0, l1, l2, l3, l4] st σ Q := q20_3 (show fnd (pgm m_X4_go) 17 = some (20, 20, 0, 3, 57, []) from rfl)
set_option maxRecDepth 100000 in
theorem s_X4_go_20 {d : Nat} {l1 l2 l3 l4 : AV} {st : List AV} {o : Nat} {σ : Sg} {Q : AV → Sg → Prop} (ho : o ≠ 0) : Rn d m_X4_go 20 [vR o, l1, l2, l3, l4] st σ Q ↔ Rn d m_X4_go 21 [vR o, l1, l2, l3, l4] (vR o :: st) σ Q := q5 (show fnd (pgm m_X4_go) 20 = some (21, 5, 0, 0, 0, []) from rfl) rfl ho
set_option maxRecDepth 100000 in
theorem s_X4_go_21 {d : Nat} {l0 l1 l2 l3 : AV} {st : List AV} {x : Int} {σ : Sg} {Q : AV → Sg → Prop}  : Rn d m_X4_go 21 [l0, l1, l2, l3, vI x] st σ Q ↔ Rn d m_X4_go 23 [l0, l1, l2, l3, vI x] (vI x :: st) σ Q := q3 (show fnd (pgm m_X4_go) 21 = some (23, 3, 0, 4, 1, []) from rfl) rfl
set_option maxRecDepth 100000 in
theorem s_X4_go_23 {d : Nat} {l0 l1 l2 l3 l4 : AV} {st : List AV} {o : Nat} {x : Int} {σ : Sg} {Q : AV → Sg → Prop} (hk : kn σ o = (0, 4)) : Rn d m_X4_go 23 [l0, l1, l2, l3, l4] (vI x :: vR o :: st) σ Q ↔ Rn d m_X4_go 26 [l0, l1, l2, l3, l4] st (up σ o 10 x) Q := q34i (show fnd (pgm m_X4_go) 23 = some (26, 34, 45, 4, 10, []) from rfl) hk rfl
set_option maxRecDepth 100000 in
theorem s_X4_go_26 {d : Nat} {l1 l2 l3 l4 : AV} {st : List AV} {o : Nat} {σ : Sg} {Q : AV → Sg → Prop} (ho : o ≠ 0) : Rn d m_X4_go 26 [vR o, l1, l2, l3, l4] st σ Q ↔ Rn d m_X4_go 27 [vR o, l1, l2, l3, l4] (vR o :: st) σ Q := q5 (show fnd (pgm m_X4_go) 26 = some (27, 5, 0, 0, 0, []) from rfl) rfl ho
set_option maxRecDepth 100000 in
theorem s_X4_go_27 {d : Nat} {l0 l2 l3 l4 : AV} {st : List AV} {o : Nat} {σ : Sg} {Q : AV → Sg → Prop} (ho : o ≠ 0) : Rn d m_X4_go 27 [l0, vR o, l2, l3, l4] st σ Q ↔ Rn d m_X4_go 28 [l0, vR o, l2, l3, l4] (vR o :: st) σ Q := q5 (show fnd (pgm m_X4_go) 27 = some (28, 5, 0, 1, 0, []) from rfl) rfl ho
set_option maxRecDepth 100000 in
theorem s_X4_go_28 {d : Nat} {l0 l1 l2 l3 l4 : AV} {st : List AV} {o : Nat} {σ : Sg} {Q : AV → Sg → Prop} (hk : kn σ o = (0, 2)) : Rn d m_X4_go 28 [l0, l1, l2, l3, l4] (vR o :: st) σ Q ↔ Rn d m_X4_go 31 [l0, l1, l2, l3, l4] (vR (tp o 0) :: st) σ Q := q33 (show fnd (pgm m_X4_go) 28 = some (31, 33, 71, 2, 0, []) from rfl) hk
set_option maxRecDepth 100000 in
theorem s_X4_go_31 {d : Nat} {l0 l1 l2 l3 : AV} {st : List AV} {x : Int} {σ : Sg} {Q : AV → Sg → Prop}  : Rn d m_X4_go 31 [l0, l1, l2, l3, vI x] st σ Q ↔ Rn d m_X4_go 33 [l0, l1, l2, l3, vI x] (vI x :: st) σ Q := q3 (show fnd (pgm m_X4_go) 31 = some (33, 3, 0, 4, 1, []) from rfl) rfl
set_option maxRecDepth 100000 in
theorem s_X4_go_33 {d : Nat} {l0 l1 l2 l3 l4 : AV} {st : List AV} {i : Int} {o : Nat} {σ : Sg} {Q : AV → Sg → Prop} (hi : 0 ≤ w32 i ∧ w32 i < al σ 1 o) : Rn d m_X4_go 33 [l0, l1, l2, l3, l4] (vI i :: vR o :: st) σ Q ↔ Rn d m_X4_go 34 [l0, l1, l2, l3, l4] (vI (σ o (w32 i)) :: st) σ Q := q25 (show fnd (pgm m_X4_go) 33 = some (34, 25, 0, 0, 0, []) from rfl) hi
set_option maxRecDepth 100000 in
theorem s_X4_go_34 {d : Nat} {l0 l1 l2 l3 l4 : AV} {st : List AV} {o : Nat} {x : Int} {σ : Sg} {Q : AV → Sg → Prop} (hk : kn σ o = (0, 4)) : Rn d m_X4_go 34 [l0, l1, l2, l3, l4] (vI x :: vR o :: st) σ Q ↔ Rn d m_X4_go 37 [l0, l1, l2, l3, l4] st (up σ o 11 x) Q := q34i (show fnd (pgm m_X4_go) 34 = some (37, 34, 48, 4, 11, []) from rfl) hk rfl
set_option maxRecDepth 100000 in
theorem s_X4_go_37 {d : Nat} {l1 l2 l3 l4 : AV} {st : List AV} {o : Nat} {σ : Sg} {Q : AV → Sg → Prop} (ho : o ≠ 0) : Rn d m_X4_go 37 [vR o, l1, l2, l3, l4] st σ Q ↔ Rn d m_X4_go 38 [vR o, l1, l2, l3, l4] (vR o :: st) σ Q := q5 (show fnd (pgm m_X4_go) 37 = some (38, 5, 0, 0, 0, []) from rfl) rfl ho
set_option maxRecDepth 100000 in
theorem s_X4_go_38 {d : Nat} {l0 l2 l3 l4 : AV} {st : List AV} {o : Nat} {σ : Sg} {Q : AV → Sg → Prop} (ho : o ≠ 0) : Rn d m_X4_go 38 [l0, vR o, l2, l3, l4] st σ Q ↔ Rn d m_X4_go 39 [l0, vR o, l2, l3, l4] (vR o :: st) σ Q := q5 (show fnd (pgm m_X4_go) 38 = some (39, 5, 0, 1, 0, []) from rfl) rfl ho
set_option maxRecDepth 100000 in
theorem s_X4_go_39 {d : Nat} {l0 l1 l2 l3 : AV} {st : List AV} {x : Int} {σ : Sg} {Q : AV → Sg → Prop}  : Rn d m_X4_go 39 [l0, l1, l2, l3, vI x] st σ Q ↔ Rn d m_X4_go 41 [l0, l1, l2, l3, vI x] (vI x :: st) σ Q := q3 (show fnd (pgm m_X4_go) 39 = some (41, 3, 0, 4, 1, []) from rfl) rfl
set_option maxRecDepth 100000 in
theorem s_X4_go_41 {d : Nat} {l0 l1 l2 l3 l4 : AV} {st : List AV} {o : Nat} {a0 : Int} {σ : Sg} {Q : AV → Sg → Prop} (h4 : st.length ≤ 4) (hk : kn σ o = (0, 2)) : Rn d m_X4_go 41 [l0, l1, l2, l3, l4] (vI a0 :: vR o :: st) σ Q ↔ ∃ r σ1, Ev d m_X2_pushOf [vR o, vI a0] σ r σ1 ∧ Rn d m_X4_go 44 [l0, l1, l2, l3, l4] (psh r st) σ1 Q := q35 (show fnd (pgm m_X4_go) 41 = some (44, 35, 76, 23, 2, []) from rfl) ⟨⟨by simp, by simpa using h4⟩, (by simp only [List.take, List.reverse, List.reverseAux, rcv]; rw [if_neg (by decide +kernel)]; exact decide_eq_true hk)⟩
set_option maxRecDepth 100000 in
theorem s_X4_go_44 {d : Nat} {l0 l1 l2 l3 l4 : AV} {st : List AV} {o : Nat} {x : Int} {σ : Sg} {Q : AV → Sg → Prop} (hk : kn σ o = (0, 4)) : Rn d m_X4_go 44 [l0, l1, l2, l3, l4] (vI x :: vR o :: st) σ Q ↔ Rn d m_X4_go 47 [l0, l1, l2, l3, l4] st (up σ o 12 x) Q := q34i (show fnd (pgm m_X4_go) 44 = some (47, 34, 51, 4, 12, []) from rfl) hk rfl
set_option maxRecDepth 100000 in
theorem s_X4_go_47 {d : Nat} {l1 l2 l3 l4 : AV} {st : List AV} {o : Nat} {σ : Sg} {Q : AV → Sg → Prop} (ho : o ≠ 0) : Rn d m_X4_go 47 [vR o, l1, l2, l3, l4] st σ Q ↔ Rn d m_X4_go 48 [vR o, l1, l2, l3, l4] (vR o :: st) σ Q := q5 (show fnd (pgm m_X4_go) 47 = some (48, 5, 0, 0, 0, []) from rfl) rfl ho
set_option maxRecDepth 100000 in
theorem s_X4_go_48 {d : Nat} {l0 l1 l2 l3 l4 : AV} {st : List AV} {o : Nat} {σ : Sg} {Q : AV → Sg → Prop} (h4 : st.length ≤ 4) (hk : kn σ o = (0, 4)) : Rn d m_X4_go 48 [l0, l1, l2, l3, l4] (vR o :: st) σ Q ↔ ∃ r σ1, Ev d m_X4_passNight [vR o] σ r σ1 ∧ Rn d m_X4_go 51 [l0, l1, l2, l3, l4] (psh r st) σ1 Q := q35 (show fnd (pgm m_X4_go) 48 = some (51, 35, 80, 36, 1, []) from rfl) ⟨⟨by simp, by simpa using h4⟩, (by simp only [List.take, List.reverse, List.reverseAux, rcv]; rw [if_neg (by decide +kernel)]; exact decide_eq_true hk)⟩
set_option maxRecDepth 100000 in
theorem s_X4_go_51 {d : Nat} {l0 l1 l2 l3 : AV} {st : List AV} {x : Int} {σ : Sg} {Q : AV → Sg → Prop}  : Rn d m_X4_go 51 [l0, l1, l2, l3, vI x] st σ Q ↔ Rn d m_X4_go 54 [l0, l1, l2, l3, vI (x + 1)] st σ Q := q9 (show fnd (pgm m_X4_go) 51 = some (54, 9, 1, 4, 0, []) from rfl) rfl
set_option maxRecDepth 100000 in
theorem s_X4_go_54 {d : Nat} {l0 l1 l2 l3 l4 : AV} {st : List AV} {σ : Sg} {Q : AV → Sg → Prop}  : Rn d m_X4_go 54 [l0, l1, l2, l3, l4] st σ Q ↔ Rn d m_X4_go 7 [l0, l1, l2, l3, l4] st σ Q := q21 (show fnd (pgm m_X4_go) 54 = some (57, 21, 0, 0, 7, []) from rfl)
set_option maxRecDepth 100000 in
theorem s_X4_go_57 {d : Nat} {l0 l1 l2 l3 l4 : AV} {σ : Sg} {Q : AV → Sg → Prop}  : Rn d m_X4_go 57 [l0, l1, l2, l3, l4] [] σ Q ↔ Q none σ := q37_0 (st := []) (show fnd (pgm m_X4_go) 57 = some (58, 37, 0, 0, 0, []) from rfl)
set_option maxRecDepth 100000 in
theorem en_X4_passNight {d : Nat} {o : Nat} {σ σ0 : Sg} {r0 : AV} (h : Rn d m_X4_passNight 0 [vR o, none] [] σ (fun r σ1 => r = r0 ∧ σ1 = σ0)) : Ev (d + 1) m_X4_passNight [vR o] σ r0 σ0 := Ev_is (Nat.le_of_ble_eq_true rfl) h
set_option maxRecDepth 100000 in
theorem eo_X4_passNight {d : Nat} {o : Nat} {σ : Sg} {Q : AV → Sg → Prop} (h : Rn d m_X4_passNight 0 [vR o, none] [] σ Q) : ∃ r σ1, Ev (d + 1) m_X4_passNight [vR o] σ r σ1 ∧ Q r σ1 := Ev_of (Nat.le_of_ble_eq_true rfl) h
set_option maxRecDepth 100000 in
theorem s_X4_passNight_0 {d : Nat} {l1 : AV} {st : List AV} {o : Nat} {σ : Sg} {Q : AV → Sg → Prop} (ho : o ≠ 0) : Rn d m_X4_passNight 0 [vR o, l1] st σ Q ↔ Rn d m_X4_passNight 1 [vR o, l1] (vR o :: st) σ Q := q5 (show fnd (pgm m_X4_passNight) 0 = some (1, 5, 0, 0, 0, []) from rfl) rfl ho
set_option maxRecDepth 100000 in
theorem s_X4_passNight_1 {d : Nat} {l0 l1 : AV} {st : List AV} {o : Nat} {σ : Sg} {Q : AV → Sg → Prop} (hk : kn σ o = (0, 4)) : Rn d m_X4_passNight 1 [l0, l1] (vR o :: st) σ Q ↔ Rn d m_X4_passNight 4 [l0, l1] (vR (tp o 0) :: st) σ Q := q33 (show fnd (pgm m_X4_passNight) 1 = some (4, 33, 9, 4, 0, []) from rfl) hk
set_option maxRecDepth 100000 in
theorem s_X4_passNight_4 {d : Nat} {l0 l1 : AV} {st : List AV} {σ : Sg} {Q : AV → Sg → Prop}  : Rn d m_X4_passNight 4 [l0, l1] st σ Q ↔ Rn d m_X4_passNight 5 [l0, l1] (vI 0 :: st) σ Q := q0 (show fnd (pgm m_X4_passNight) 4 = some (5, 0, 0, 0, 0, []) from rfl)
set_option maxRecDepth 100000 in
theorem s_X4_passNight_5 {d : Nat} {l1 : AV} {st : List AV} {o : Nat} {σ : Sg} {Q : AV → Sg → Prop} (ho : o ≠ 0) : Rn d m_X4_passNight 5 [vR o, l1] st σ Q ↔ Rn d m_X4_passNight 6 [vR o, l1] (vR o :: st) σ Q := q5 (show fnd (pgm m_X4_passNight) 5 = some (6, 5, 0, 0, 0, []) from rfl) rfl ho
set_option maxRecDepth 100000 in
theorem s_X4_passNight_6 {d : Nat} {l0 l1 : AV} {st : List AV} {o : Nat} {σ : Sg} {Q : AV → Sg → Prop} (hk : kn σ o = (0, 4)) : Rn d m_X4_passNight 6 [l0, l1] (vR o :: st) σ Q ↔ Rn d m_X4_passNight 9 [l0, l1] (vR (tp o 3) :: st) σ Q := q33 (show fnd (pgm m_X4_passNight) 6 = some (9, 33, 21, 4, 3, []) from rfl) hk
set_option maxRecDepth 100000 in
theorem s_X4_passNight_9 {d : Nat} {l0 l1 : AV} {st : List AV} {σ : Sg} {Q : AV → Sg → Prop}  : Rn d m_X4_passNight 9 [l0, l1] st σ Q ↔ Rn d m_X4_passNight 10 [l0, l1] (vI 0 :: st) σ Q := q0 (show fnd (pgm m_X4_passNight) 9 = some (10, 0, 0, 0, 0, []) from rfl)
set_option maxRecDepth 100000 in
theorem s_X4_passNight_10 {d : Nat} {l0 l1 : AV} {st : List AV} {σ : Sg} {Q : AV → Sg → Prop}  : Rn d m_X4_passNight 10 [l0, l1] st σ Q ↔ Rn d m_X4_passNight 12 [l0, l1] (vI 6 :: st) σ Q := q0 (show fnd (pgm m_X4_passNight) 10 = some (12, 0, 6, 1, 0, []) from rfl)
set_option maxRecDepth 100000 in
theorem s_X4_passNight_12 {d : Nat} {l0 l1 : AV} {st : List AV} {n dp sp : Int} {a b : Nat} {σ : Sg} {Q : AV → Sg → Prop} (hc : 0 ≤ w32 sp ∧ 0 ≤ w32 dp ∧ 0 ≤ w32 n ∧ w32 sp + w32 n ≤ al σ 1 a ∧ w32 dp + w32 n ≤ al σ 1 b ∧ a ≠ b ∧ st.length ≤ 4 ∧ 0 < al σ 1 a ∧ 0 < al σ 1 b) : Rn d m_X4_passNight 12 [l0, l1] (vI n :: vI dp :: vR b :: vI sp :: vR a :: st) σ Q ↔ Rn d m_X4_passNight 15 [l0, l1] st (cpy σ a (w32 sp) b (w32 dp) (w32 n)) Q := q36 (show fnd (pgm m_X4_passNight) 12 = some (15, 36, 59, 1, 0, []) from rfl) ⟨by decide, hc⟩
set_option maxRecDepth 100000 in
theorem s_X4_passNight_15 {d : Nat} {l1 : AV} {st : List AV} {o : Nat} {σ : Sg} {Q : AV → Sg → Prop} (ho : o ≠ 0) : Rn d m_X4_passNight 15 [vR o, l1] st σ Q ↔ Rn d m_X4_passNight 16 [vR o, l1] (vR o :: st) σ Q := q5 (show fnd (pgm m_X4_passNight) 15 = some (16, 5, 0, 0, 0, []) from rfl) rfl ho
set_option maxRecDepth 100000 in
theorem s_X4_passNight_16 {d : Nat} {l0 l1 : AV} {st : List AV} {o : Nat} {σ : Sg} {Q : AV → Sg → Prop} (hk : kn σ o = (0, 4)) : Rn d m_X4_passNight 16 [l0, l1] (vR o :: st) σ Q ↔ Rn d m_X4_passNight 19 [l0, l1] (vR (tp o 2) :: st) σ Q := q33 (show fnd (pgm m_X4_passNight) 16 = some (19, 33, 18, 4, 2, []) from rfl) hk
set_option maxRecDepth 100000 in
theorem s_X4_passNight_19 {d : Nat} {l1 : AV} {st : List AV} {o : Nat} {σ : Sg} {Q : AV → Sg → Prop} (ho : o ≠ 0) : Rn d m_X4_passNight 19 [vR o, l1] st σ Q ↔ Rn d m_X4_passNight 20 [vR o, l1] (vR o :: st) σ Q := q5 (show fnd (pgm m_X4_passNight) 19 = some (20, 5, 0, 0, 0, []) from rfl) rfl ho
set_option maxRecDepth 100000 in
theorem s_X4_passNight_20 {d : Nat} {l0 l1 : AV} {st : List AV} {o : Nat} {σ : Sg} {Q : AV → Sg → Prop} (hk : kn σ o = (0, 4)) : Rn d m_X4_passNight 20 [l0, l1] (vR o :: st) σ Q ↔ Rn d m_X4_passNight 23 [l0, l1] (vI (σ o 10) :: st) σ Q := q33 (show fnd (pgm m_X4_passNight) 20 = some (23, 33, 45, 4, 10, []) from rfl) hk
set_option maxRecDepth 100000 in
theorem s_X4_passNight_23 {d : Nat} {l0 l1 : AV} {st : List AV} {σ : Sg} {Q : AV → Sg → Prop}  : Rn d m_X4_passNight 23 [l0, l1] st σ Q ↔ Rn d m_X4_passNight 24 [l0, l1] (vI 0 :: st) σ Q := q0 (show fnd (pgm m_X4_passNight) 23 = some (24, 0, 0, 0, 0, []) from rfl)
set_option maxRecDepth 100000 in
theorem s_X4_passNight_24 {d : Nat} {l0 l1 : AV} {st : List AV} {i x : Int} {o : Nat} {σ : Sg} {Q : AV → Sg → Prop} (hi : 0 ≤ w32 i ∧ w32 i < al σ 1 o) : Rn d m_X4_passNight 24 [l0, l1] (vI x :: vI i :: vR o :: st) σ Q ↔ Rn d m_X4_passNight 25 [l0, l1] st (up σ o (w32 i) x) Q := q29 (show fnd (pgm m_X4_passNight) 24 = some (25, 29, 0, 0, 0, []) from rfl) hi
set_option maxRecDepth 100000 in
theorem s_X4_passNight_25 {d : Nat} {l0 l1 : AV} {st : List AV} {σ : Sg} {Q : AV → Sg → Prop}  : Rn d m_X4_passNight 25 [l0, l1] st σ Q ↔ Rn d m_X4_passNight 26 [l0, l1] (vI 0 :: st) σ Q := q0 (show fnd (pgm m_X4_passNight) 25 = some (26, 0, 0, 0, 0, []) from rfl)
set_option maxRecDepth 100000 in
theorem s_X4_passNight_26 {d : Nat} {l0 l1 : AV} {st : List AV} {x : Int} {σ : Sg} {Q : AV → Sg → Prop}  : Rn d m_X4_passNight 26 [l0, l1] (vI x :: st) σ Q ↔ Rn d m_X4_passNight 27 [l0, vI x] st σ Q := q6 (show fnd (pgm m_X4_passNight) 26 = some (27, 6, 0, 1, 0, []) from rfl) (by decide : 1 < 2)
set_option maxRecDepth 100000 in
theorem s_X4_passNight_27 {d : Nat} {l0 : AV} {st : List AV} {x : Int} {σ : Sg} {Q : AV → Sg → Prop}  : Rn d m_X4_passNight 27 [l0, vI x] st σ Q ↔ Rn d m_X4_passNight 28 [l0, vI x] (vI x :: st) σ Q := q3 (show fnd (pgm m_X4_passNight) 27 = some (28, 3, 0, 1, 0, []) from rfl) rfl
set_option maxRecDepth 100000 in
theorem s_X4_passNight_28 {d : Nat} {l0 l1 : AV} {st : List AV} {σ : Sg} {Q : AV → Sg → Prop}  : Rn d m_X4_passNight 28 [l0, l1] st σ Q ↔ Rn d m_X4_passNight 30 [l0, l1] (vI 6 :: st) σ Q := q0 (show fnd (pgm m_X4_passNight) 28 = some (30, 0, 6, 1, 0, []) from rfl)
set_option maxRecDepth 100000 in
theorem s_X4_passNight_30 {d : Nat} {l0 l1 : AV} {st : List AV} {a b : Int} {σ : Sg} {Q : AV → Sg → Prop}  : Rn d m_X4_passNight 30 [l0, l1] (vI b :: vI a :: st) σ Q ↔ if w32 b ≤ w32 a then Rn d m_X4_passNight 52 [l0, l1] st σ Q else Rn d m_X4_passNight 33 [l0, l1] st σ Q := q20_3 (show fnd (pgm m_X4_passNight) 30 = some (33, 20, 0, 3, 52, []) from rfl)
set_option maxRecDepth 100000 in
theorem s_X4_passNight_33 {d : Nat} {l1 : AV} {st : List AV} {o : Nat} {σ : Sg} {Q : AV → Sg → Prop} (ho : o ≠ 0) : Rn d m_X4_passNight 33 [vR o, l1] st σ Q ↔ Rn d m_X4_passNight 34 [vR o, l1] (vR o :: st) σ Q := q5 (show fnd (pgm m_X4_passNight) 33 = some (34, 5, 0, 0, 0, []) from rfl) rfl ho
set_option maxRecDepth 100000 in
theorem s_X4_passNight_34 {d : Nat} {l0 : AV} {st : List AV} {x : Int} {σ : Sg} {Q : AV → Sg → Prop}  : Rn d m_X4_passNight 34 [l0, vI x] st σ Q ↔ Rn d m_X4_passNight 35 [l0, vI x] (vI x :: st) σ Q := q3 (show fnd (pgm m_X4_passNight) 34 = some (35, 3, 0, 1, 0, []) from rfl) rfl
set_option maxRecDepth 100000 in
theorem s_X4_passNight_35 {d : Nat} {l0 l1 : AV} {st : List AV} {o : Nat} {a0 : Int} {σ : Sg} {Q : AV → Sg → Prop} (h4 : st.length ≤ 4) (hk : kn σ o = (0, 4)) : Rn d m_X4_passNight 35 [l0, l1] (vI a0 :: vR o :: st) σ Q ↔ ∃ r σ1, Ev d m_X4_isPresent [vR o, vI a0] σ r σ1 ∧ Rn d m_X4_passNight 38 [l0, l1] (psh r st) σ1 Q := q35 (show fnd (pgm m_X4_passNight) 35 = some (38, 35, 83, 38, 2, []) from rfl) ⟨⟨by simp, by simpa using h4⟩, (by simp only [List.take, List.reverse, List.reverseAux, rcv]; rw [if_neg (by decide +kernel)]; exact decide_eq_true hk)⟩
set_option maxRecDepth 100000 in
theorem s_X4_passNight_38 {d : Nat} {l0 l1 : AV} {st : List AV} {a : Int} {σ : Sg} {Q : AV → Sg → Prop}  : Rn d m_X4_passNight 38 [l0, l1] (vI a :: st) σ Q ↔ if w32 a = 0 then Rn d m_X4_passNight 46 [l0, l1] st σ Q else Rn d m_X4_passNight 41 [l0, l1] st σ Q := q19_0 (show fnd (pgm m_X4_passNight) 38 = some (41, 19, 0, 0, 46, []) from rfl)
set_option maxRecDepth 100000 in
theorem s_X4_passNight_41 {d : Nat} {l1 : AV} {st : List AV} {o : Nat} {σ : Sg} {Q : AV → Sg → Prop} (ho : o ≠ 0) : Rn d m_X4_passNight 41 [vR o, l1] st σ Q ↔ Rn d m_X4_passNight 42 [vR o, l1] (vR o :: st) σ Q := q5 (show fnd (pgm m_X4_passNight) 41 = some (42, 5, 0, 0, 0, []) from rfl) rfl ho
set_option maxRecDepth 100000 in
theorem s_X4_passNight_42 {d : Nat} {l0 : AV} {st : List AV} {x : Int} {σ : Sg} {Q : AV → Sg → Prop}  : Rn d m_X4_passNight 42 [l0, vI x] st σ Q ↔ Rn d m_X4_passNight 43 [l0, vI x] (vI x :: st) σ Q := q3 (show fnd (pgm m_X4_passNight) 42 = some (43, 3, 0, 1, 0, []) from rfl) rfl
set_option maxRecDepth 100000 in
theorem s_X4_passNight_43 {d : Nat} {l0 l1 : AV} {st : List AV} {o : Nat} {a0 : Int} {σ : Sg} {Q : AV → Sg → Prop} (h4 : st.length ≤ 4) (hk : kn σ o = (0, 4)) : Rn d m_X4_passNight 43 [l0, l1] (vI a0 :: vR o :: st) σ Q ↔ ∃ r σ1, Ev d m_X4_roll [vR o, vI a0] σ r σ1 ∧ Rn d m_X4_passNight 46 [l0, l1] (psh r st) σ1 Q := q35 (show fnd (pgm m_X4_passNight) 43 = some (46, 35, 87, 39, 2, []) from rfl) ⟨⟨by simp, by simpa using h4⟩, (by simp only [List.take, List.reverse, List.reverseAux, rcv]; rw [if_neg (by decide +kernel)]; exact decide_eq_true hk)⟩
set_option maxRecDepth 100000 in
theorem s_X4_passNight_46 {d : Nat} {l0 : AV} {st : List AV} {x : Int} {σ : Sg} {Q : AV → Sg → Prop}  : Rn d m_X4_passNight 46 [l0, vI x] st σ Q ↔ Rn d m_X4_passNight 49 [l0, vI (x + 1)] st σ Q := q9 (show fnd (pgm m_X4_passNight) 46 = some (49, 9, 1, 1, 0, []) from rfl) rfl
set_option maxRecDepth 100000 in
theorem s_X4_passNight_49 {d : Nat} {l0 l1 : AV} {st : List AV} {σ : Sg} {Q : AV → Sg → Prop}  : Rn d m_X4_passNight 49 [l0, l1] st σ Q ↔ Rn d m_X4_passNight 27 [l0, l1] st σ Q := q21 (show fnd (pgm m_X4_passNight) 49 = some (52, 21, 0, 0, 27, []) from rfl)
set_option maxRecDepth 100000 in
theorem s_X4_passNight_52 {d : Nat} {l1 : AV} {st : List AV} {o : Nat} {σ : Sg} {Q : AV → Sg → Prop} (ho : o ≠ 0) : Rn d m_X4_passNight 52 [vR o, l1] st σ Q ↔ Rn d m_X4_passNight 53 [vR o, l1] (vR o :: st) σ Q := q5 (show fnd (pgm m_X4_passNight) 52 = some (53, 5, 0, 0, 0, []) from rfl) rfl ho
set_option maxRecDepth 100000 in
theorem s_X4_passNight_53 {d : Nat} {l0 l1 : AV} {st : List AV} {o : Nat} {σ : Sg} {Q : AV → Sg → Prop} (hk : kn σ o = (0, 4)) : Rn d m_X4_passNight 53 [l0, l1] (vR o :: st) σ Q ↔ Rn d m_X4_passNight 56 [l0, l1] (vR (tp o 1) :: st) σ Q := q33 (show fnd (pgm m_X4_passNight) 53 = some (56, 33, 15, 4, 1, []) from rfl) hk
set_option maxRecDepth 100000 in
theorem s_X4_passNight_56 {d : Nat} {l1 : AV} {st : List AV} {o : Nat} {σ : Sg} {Q : AV → Sg → Prop} (ho : o ≠ 0) : Rn d m_X4_passNight 56 [vR o, l1] st σ Q ↔ Rn d m_X4_passNight 57 [vR o, l1] (vR o :: st) σ Q := q5 (show fnd (pgm m_X4_passNight) 56 = some (57, 5, 0, 0, 0, []) from rfl) rfl ho
set_option maxRecDepth 100000 in
theorem s_X4_passNight_57 {d : Nat} {l0 l1 : AV} {st : List AV} {o : Nat} {σ : Sg} {Q : AV → Sg → Prop} (hk : kn σ o = (0, 4)) : Rn d m_X4_passNight 57 [l0, l1] (vR o :: st) σ Q ↔ Rn d m_X4_passNight 60 [l0, l1] (vI (σ o 10) :: st) σ Q := q33 (show fnd (pgm m_X4_passNight) 57 = some (60, 33, 45, 4, 10, []) from rfl) hk
set_option maxRecDepth 100000 in
theorem s_X4_passNight_60 {d : Nat} {l0 l1 : AV} {st : List AV} {σ : Sg} {Q : AV → Sg → Prop}  : Rn d m_X4_passNight 60 [l0, l1] st σ Q ↔ Rn d m_X4_passNight 61 [l0, l1] (vI 0 :: st) σ Q := q0 (show fnd (pgm m_X4_passNight) 60 = some (61, 0, 0, 0, 0, []) from rfl)
set_option maxRecDepth 100000 in
theorem s_X4_passNight_61 {d : Nat} {l0 l1 : AV} {st : List AV} {i x : Int} {o : Nat} {σ : Sg} {Q : AV → Sg → Prop} (hi : 0 ≤ w32 i ∧ w32 i < al σ 1 o) : Rn d m_X4_passNight 61 [l0, l1] (vI x :: vI i :: vR o :: st) σ Q ↔ Rn d m_X4_passNight 62 [l0, l1] st (up σ o (w32 i) x) Q := q29 (show fnd (pgm m_X4_passNight) 61 = some (62, 29, 0, 0, 0, []) from rfl) hi
set_option maxRecDepth 100000 in
theorem s_X4_passNight_62 {d : Nat} {l0 l1 : AV} {st : List AV} {σ : Sg} {Q : AV → Sg → Prop}  : Rn d m_X4_passNight 62 [l0, l1] st σ Q ↔ Rn d m_X4_passNight 63 [l0, l1] (vI 0 :: st) σ Q := q0 (show fnd (pgm m_X4_passNight) 62 = some (63, 0, 0, 0, 0, []) from rfl)
set_option maxRecDepth 100000 in
theorem s_X4_passNight_63 {d : Nat} {l0 l1 : AV} {st : List AV} {x : Int} {σ : Sg} {Q : AV → Sg → Prop}  : Rn d m_X4_passNight 63 [l0, l1] (vI x :: st) σ Q ↔ Rn d m_X4_passNight 64 [l0, vI x] st σ Q := q6 (show fnd (pgm m_X4_passNight) 63 = some (64, 6, 0, 1, 0, []) from rfl) (by decide : 1 < 2)
set_option maxRecDepth 100000 in
theorem s_X4_passNight_64 {d : Nat} {l0 : AV} {st : List AV} {x : Int} {σ : Sg} {Q : AV → Sg → Prop}  : Rn d m_X4_passNight 64 [l0, vI x] st σ Q ↔ Rn d m_X4_passNight 65 [l0, vI x] (vI x :: st) σ Q := q3 (show fnd (pgm m_X4_passNight) 64 = some (65, 3, 0, 1, 0, []) from rfl) rfl
set_option maxRecDepth 100000 in
theorem s_X4_passNight_65 {d : Nat} {l0 l1 : AV} {st : List AV} {σ : Sg} {Q : AV → Sg → Prop}  : Rn d m_X4_passNight 65 [l0, l1] st σ Q ↔ Rn d m_X4_passNight 67 [l0, l1] (vI 6 :: st) σ Q := q0 (show fnd (pgm m_X4_passNight) 65 = some (67, 0, 6, 1, 0, []) from rfl)
set_option maxRecDepth 100000 in
theorem s_X4_passNight_67 {d : Nat} {l0 l1 : AV} {st : List AV} {a b : Int} {σ : Sg} {Q : AV → Sg → Prop}  : Rn d m_X4_passNight 67 [l0, l1] (vI b :: vI a :: st) σ Q ↔ if w32 b ≤ w32 a then Rn d m_X4_passNight 106 [l0, l1] st σ Q else Rn d m_X4_passNight 70 [l0, l1] st σ Q := q20_3 (show fnd (pgm m_X4_passNight) 67 = some (70, 20, 0, 3, 106, []) from rfl)
set_option maxRecDepth 100000 in
theorem s_X4_passNight_70 {d : Nat} {l1 : AV} {st : List AV} {o : Nat} {σ : Sg} {Q : AV → Sg → Prop} (ho : o ≠ 0) : Rn d m_X4_passNight 70 [vR o, l1] st σ Q ↔ Rn d m_X4_passNight 71 [vR o, l1] (vR o :: st) σ Q := q5 (show fnd (pgm m_X4_passNight) 70 = some (71, 5, 0, 0, 0, []) from rfl) rfl ho
set_option maxRecDepth 100000 in
theorem s_X4_passNight_71 {d : Nat} {l0 l1 : AV} {st : List AV} {o : Nat} {σ : Sg} {Q : AV → Sg → Prop} (hk : kn σ o = (0, 4)) : Rn d m_X4_passNight 71 [l0, l1] (vR o :: st) σ Q ↔ Rn d m_X4_passNight 74 [l0, l1] (vR (tp o 0) :: st) σ Q := q33 (show fnd (pgm m_X4_passNight) 71 = some (74, 33, 9, 4, 0, []) from rfl) hk
set_option maxRecDepth 100000 in
theorem s_X4_passNight_74 {d : Nat} {l0 : AV} {st : List AV} {x : Int} {σ : Sg} {Q : AV → Sg → Prop}  : Rn d m_X4_passNight 74 [l0, vI x] st σ Q ↔ Rn d m_X4_passNight 75 [l0, vI x] (vI x :: st) σ Q := q3 (show fnd (pgm m_X4_passNight) 74 = some (75, 3, 0, 1, 0, []) from rfl) rfl
set_option maxRecDepth 100000 in
theorem s_X4_passNight_75 {d : Nat} {l0 l1 : AV} {st : List AV} {i : Int} {o : Nat} {σ : Sg} {Q : AV → Sg → Prop} (hi : 0 ≤ w32 i ∧ w32 i < al σ 1 o) : Rn d m_X4_passNight 75 [l0, l1] (vI i :: vR o :: st) σ Q ↔ Rn d m_X4_passNight 76 [l0, l1] (vI (σ o (w32 i)) :: st) σ Q := q25 (show fnd (pgm m_X4_passNight) 75 = some (76, 25, 0, 0, 0, []) from rfl) hi
set_option maxRecDepth 100000 in
theorem s_X4_passNight_76 {d : Nat} {l1 : AV} {st : List AV} {o : Nat} {σ : Sg} {Q : AV → Sg → Prop} (ho : o ≠ 0) : Rn d m_X4_passNight 76 [vR o, l1] st σ Q ↔ Rn d m_X4_passNight 77 [vR o, l1] (vR o :: st) σ Q := q5 (show fnd (pgm m_X4_passNight) 76 = some (77, 5, 0, 0, 0, []) from rfl) rfl ho
set_option maxRecDepth 100000 in
theorem s_X4_passNight_77 {d : Nat} {l0 l1 : AV} {st : List AV} {o : Nat} {σ : Sg} {Q : AV → Sg → Prop} (hk : kn σ o = (0, 4)) : Rn d m_X4_passNight 77 [l0, l1] (vR o :: st) σ Q ↔ Rn d m_X4_passNight 80 [l0, l1] (vR (tp o 3) :: st) σ Q := q33 (show fnd (pgm m_X4_passNight) 77 = some (80, 33, 21, 4, 3, []) from rfl) hk
set_option maxRecDepth 100000 in
theorem s_X4_passNight_80 {d : Nat} {l0 : AV} {st : List AV} {x : Int} {σ : Sg} {Q : AV → Sg → Prop}  : Rn d m_X4_passNight 80 [l0, vI x] st σ Q ↔ Rn d m_X4_passNight 81 [l0, vI x] (vI x :: st) σ Q := q3 (show fnd (pgm m_X4_passNight) 80 = some (81, 3, 0, 1, 0, []) from rfl) rfl
set_option maxRecDepth 100000 in
theorem s_X4_passNight_81 {d : Nat} {l0 l1 : AV} {st : List AV} {i : Int} {o : Nat} {σ : Sg} {Q : AV → Sg → Prop} (hi : 0 ≤ w32 i ∧ w32 i < al σ 1 o) : Rn d m_X4_passNight 81 [l0, l1] (vI i :: vR o :: st) σ Q ↔ Rn d m_X4_passNight 82 [l0, l1] (vI (σ o (w32 i)) :: st) σ Q := q25 (show fnd (pgm m_X4_passNight) 81 = some (82, 25, 0, 0, 0, []) from rfl) hi
set_option maxRecDepth 100000 in
theorem s_X4_passNight_82 {d : Nat} {l0 l1 : AV} {st : List AV} {a b : Int} {σ : Sg} {Q : AV → Sg → Prop}  : Rn d m_X4_passNight 82 [l0, l1] (vI b :: vI a :: st) σ Q ↔ if w32 a = w32 b then Rn d m_X4_passNight 100 [l0, l1] st σ Q else Rn d m_X4_passNight 85 [l0, l1] st σ Q := q20_0 (show fnd (pgm m_X4_passNight) 82 = some (85, 20, 0, 0, 100, []) from rfl)
set_option maxRecDepth 100000 in
theorem s_X4_passNight_85 {d : Nat} {l1 : AV} {st : List AV} {o : Nat} {σ : Sg} {Q : AV → Sg → Prop} (ho : o ≠ 0) : Rn d m_X4_passNight 85 [vR o, l1] st σ Q ↔ Rn d m_X4_passNight 86 [vR o, l1] (vR o :: st) σ Q := q5 (show fnd (pgm m_X4_passNight) 85 = some (86, 5, 0, 0, 0, []) from rfl) rfl ho
set_option maxRecDepth 100000 in
theorem s_X4_passNight_86 {d : Nat} {l0 l1 : AV} {st : List AV} {o : Nat} {σ : Sg} {Q : AV → Sg → Prop} (hk : kn σ o = (0, 4)) : Rn d m_X4_passNight 86 [l0, l1] (vR o :: st) σ Q ↔ Rn d m_X4_passNight 89 [l0, l1] (vR (tp o 1) :: st) σ Q := q33 (show fnd (pgm m_X4_passNight) 86 = some (89, 33, 15, 4, 1, []) from rfl) hk
set_option maxRecDepth 100000 in
theorem s_X4_passNight_89 {d : Nat} {l1 : AV} {st : List AV} {o : Nat} {σ : Sg} {Q : AV → Sg → Prop} (ho : o ≠ 0) : Rn d m_X4_passNight 89 [vR o, l1] st σ Q ↔ Rn d m_X4_passNight 90 [vR o, l1] (vR o :: st) σ Q := q5 (show fnd (pgm m_X4_passNight) 89 = some (90, 5, 0, 0, 0, []) from rfl) rfl ho
set_option maxRecDepth 100000 in
theorem s_X4_passNight_90 {d : Nat} {l0 l1 : AV} {st : List AV} {o : Nat} {σ : Sg} {Q : AV → Sg → Prop} (hk : kn σ o = (0, 4)) : Rn d m_X4_passNight 90 [l0, l1] (vR o :: st) σ Q ↔ Rn d m_X4_passNight 93 [l0, l1] (vI (σ o 10) :: st) σ Q := q33 (show fnd (pgm m_X4_passNight) 90 = some (93, 33, 45, 4, 10, []) from rfl) hk
set_option maxRecDepth 100000 in
theorem s_X4_passNight_93 {d : Nat} {l0 l1 : AV} {st : List AV} {a : Int} {o : Nat} {σ : Sg} {Q : AV → Sg → Prop}  : Rn d m_X4_passNight 93 [l0, l1] (vI a :: vR o :: st) σ Q ↔ Rn d m_X4_passNight 94 [l0, l1] (vI a :: vR o :: vI a :: vR o :: st) σ Q := q18 (show fnd (pgm m_X4_passNight) 93 = some (94, 18, 0, 0, 0, []) from rfl)
set_option maxRecDepth 100000 in
theorem s_X4_passNight_94 {d : Nat} {l0 l1 : AV} {st : List AV} {i : Int} {o : Nat} {σ : Sg} {Q : AV → Sg → Prop} (hi : 0 ≤ w32 i ∧ w32 i < al σ 1 o) : Rn d m_X4_passNight 94 [l0, l1] (vI i :: vR o :: st) σ Q ↔ Rn d m_X4_passNight 95 [l0, l1] (vI (σ o (w32 i)) :: st) σ Q := q25 (show fnd (pgm m_X4_passNight) 94 = some (95, 25, 0, 0, 0, []) from rfl) hi
set_option maxRecDepth 100000 in
theorem s_X4_passNight_95 {d : Nat} {l0 l1 : AV} {st : List AV} {σ : Sg} {Q : AV → Sg → Prop}  : Rn d m_X4_passNight 95 [l0, l1] st σ Q ↔ Rn d m_X4_passNight 96 [l0, l1] (vI 1 :: st) σ Q := q0 (show fnd (pgm m_X4_passNight) 95 = some (96, 0, 1, 0, 0, []) from rfl)
set_option maxRecDepth 100000 in
theorem s_X4_passNight_96 {d : Nat} {l0 : AV} {st : List AV} {x : Int} {σ : Sg} {Q : AV → Sg → Prop}  : Rn d m_X4_passNight 96 [l0, vI x] st σ Q ↔ Rn d m_X4_passNight 97 [l0, vI x] (vI x :: st) σ Q := q3 (show fnd (pgm m_X4_passNight) 96 = some (97, 3, 0, 1, 0, []) from rfl) rfl
set_option maxRecDepth 100000 in
theorem s_X4_passNight_97 {d : Nat} {l0 l1 : AV} {st : List AV} {a b : Int} {σ : Sg} {Q : AV → Sg → Prop}  : Rn d m_X4_passNight 97 [l0, l1] (vI b :: vI a :: st) σ Q ↔ Rn d m_X4_passNight 98 [l0, l1] (vI (shl32 a b) :: st) σ Q := q10_8 (show fnd (pgm m_X4_passNight) 97 = some (98, 10, 0, 8, 0, []) from rfl)
set_option maxRecDepth 100000 in
theorem s_X4_passNight_98 {d : Nat} {l0 l1 : AV} {st : List AV} {a b : Int} {σ : Sg} {Q : AV → Sg → Prop}  : Rn d m_X4_passNight 98 [l0, l1] (vI b :: vI a :: st) σ Q ↔ Rn d m_X4_passNight 99 [l0, l1] (vI (or32 a b) :: st) σ Q := q10_6 (show fnd (pgm m_X4_passNight) 98 = some (99, 10, 0, 6, 0, []) from rfl)
set_option maxRecDepth 100000 in
theorem s_X4_passNight_99 {d : Nat} {l0 l1 : AV} {st : List AV} {i x : Int} {o : Nat} {σ : Sg} {Q : AV → Sg → Prop} (hi : 0 ≤ w32 i ∧ w32 i < al σ 1 o) : Rn d m_X4_passNight 99 [l0, l1] (vI x :: vI i :: vR o :: st) σ Q ↔ Rn d m_X4_passNight 100 [l0, l1] st (up σ o (w32 i) x) Q := q29 (show fnd (pgm m_X4_passNight) 99 = some (100, 29, 0, 0, 0, []) from rfl) hi
set_option maxRecDepth 100000 in
theorem s_X4_passNight_100 {d : Nat} {l0 : AV} {st : List AV} {x : Int} {σ : Sg} {Q : AV → Sg → Prop}  : Rn d m_X4_passNight 100 [l0, vI x] st σ Q ↔ Rn d m_X4_passNight 103 [l0, vI (x + 1)] st σ Q := q9 (show fnd (pgm m_X4_passNight) 100 = some (103, 9, 1, 1, 0, []) from rfl) rfl
set_option maxRecDepth 100000 in
theorem s_X4_passNight_103 {d : Nat} {l0 l1 : AV} {st : List AV} {σ : Sg} {Q : AV → Sg → Prop}  : Rn d m_X4_passNight 103 [l0, l1] st σ Q ↔ Rn d m_X4_passNight 64 [l0, l1] st σ Q := q21 (show fnd (pgm m_X4_passNight) 103 = some (106, 21, 0, 0, 64, []) from rfl)
set_option maxRecDepth 100000 in
theorem s_X4_passNight_106 {d : Nat} {l0 l1 : AV} {σ : Sg} {Q : AV → Sg → Prop}  : Rn d m_X4_passNight 106 [l0, l1] [] σ Q ↔ Q none σ := q37_0 (st := []) (show fnd (pgm m_X4_passNight) 106 = some (107, 37, 0, 0, 0, []) from rfl)
set_option maxRecDepth 100000 in
theorem en_X4_loneRoll {d : Nat} {o : Nat} {a0 : Nat} {a1 : Int} {a2 : Int} {a3 : Int} {a4 : Int} {σ σ0 : Sg} {r0 : AV} (h : Rn d m_X4_loneRoll 0 [vR o, vR a0, vI a1, vI a2, vI a3, vI a4] [] σ (fun r σ1 => r = r0 ∧ σ1 = σ0)) : Ev (d + 1) m_X4_loneRoll [vR o, vR a0, vI a1, vI a2, vI a3, vI a4] σ r0 σ0 := Ev_is (Nat.le_of_ble_eq_true rfl) h
set_option maxRecDepth 100000 in
theorem eo_X4_loneRoll {d : Nat} {o : Nat} {a0 : Nat} {a1 : Int} {a2 : Int} {a3 : Int} {a4 : Int} {σ : Sg} {Q : AV → Sg → Prop} (h : Rn d m_X4_loneRoll 0 [vR o, vR a0, vI a1, vI a2, vI a3, vI a4] [] σ Q) : ∃ r σ1, Ev (d + 1) m_X4_loneRoll [vR o, vR a0, vI a1, vI a2, vI a3, vI a4] σ r σ1 ∧ Q r σ1 := Ev_of (Nat.le_of_ble_eq_true rfl) h
set_option maxRecDepth 100000 in
theorem s_X4_loneRoll_0 {d : Nat} {l1 l2 l3 l4 l5 : AV} {st : List AV} {o : Nat} {σ : Sg} {Q : AV → Sg → Prop} (ho : o ≠ 0) : Rn d m_X4_loneRoll 0 [vR o, l1, l2, l3, l4, l5] st σ Q ↔ Rn d m_X4_loneRoll 1 [vR o, l1, l2, l3, l4, l5] (vR o :: st) σ Q := q5 (show fnd (pgm m_X4_loneRoll) 0 = some (1, 5, 0, 0, 0, []) from rfl) rfl ho
set_option maxRecDepth 100000 in
theorem s_X4_loneRoll_1 {d : Nat} {l0 l2 l3 l4 l5 : AV} {st : List AV} {o : Nat} {σ : Sg} {Q : AV → Sg → Prop} (ho : o ≠ 0) : Rn d m_X4_loneRoll 1 [l0, vR o, l2, l3, l4, l5] st σ Q ↔ Rn d m_X4_loneRoll 2 [l0, vR o, l2, l3, l4, l5] (vR o :: st) σ Q := q5 (show fnd (pgm m_X4_loneRoll) 1 = some (2, 5, 0, 1, 0, []) from rfl) rfl ho
set_option maxRecDepth 100000 in
theorem s_X4_loneRoll_2 {d : Nat} {l0 l1 l2 l3 l4 l5 : AV} {st : List AV} {o : Nat} {x : Nat} {σ : Sg} {Q : AV → Sg → Prop} (hk : kn σ o = (0, 4)) : Rn d m_X4_loneRoll 2 [l0, l1, l2, l3, l4, l5] (vR x :: vR o :: st) σ Q ↔ Rn d m_X4_loneRoll 5 [l0, l1, l2, l3, l4, l5] st (up σ o 8 x) Q := q34r (show fnd (pgm m_X4_loneRoll) 2 = some (5, 34, 38, 4, 8, []) from rfl) hk rfl
set_option maxRecDepth 100000 in
theorem s_X4_loneRoll_5 {d : Nat} {l1 l2 l3 l4 l5 : AV} {st : List AV} {o : Nat} {σ : Sg} {Q : AV → Sg → Prop} (ho : o ≠ 0) : Rn d m_X4_loneRoll 5 [vR o, l1, l2, l3, l4, l5] st σ Q ↔ Rn d m_X4_loneRoll 6 [vR o, l1, l2, l3, l4, l5] (vR o :: st) σ Q := q5 (show fnd (pgm m_X4_loneRoll) 5 = some (6, 5, 0, 0, 0, []) from rfl) rfl ho
set_option maxRecDepth 100000 in
theorem s_X4_loneRoll_6 {d : Nat} {l0 l1 l2 l3 l4 l5 : AV} {st : List AV} {σ : Sg} {Q : AV → Sg → Prop}  : Rn d m_X4_loneRoll 6 [l0, l1, l2, l3, l4, l5] st σ Q ↔ Rn d m_X4_loneRoll 7 [l0, l1, l2, l3, l4, l5] (vI 1 :: st) σ Q := q0 (show fnd (pgm m_X4_loneRoll) 6 = some (7, 0, 1, 0, 0, []) from rfl)
set_option maxRecDepth 100000 in
theorem s_X4_loneRoll_7 {d : Nat} {l0 l1 l3 l4 l5 : AV} {st : List AV} {x : Int} {σ : Sg} {Q : AV → Sg → Prop}  : Rn d m_X4_loneRoll 7 [l0, l1, vI x, l3, l4, l5] st σ Q ↔ Rn d m_X4_loneRoll 8 [l0, l1, vI x, l3, l4, l5] (vI x :: st) σ Q := q3 (show fnd (pgm m_X4_loneRoll) 7 = some (8, 3, 0, 2, 0, []) from rfl) rfl
set_option maxRecDepth 100000 in
theorem s_X4_loneRoll_8 {d : Nat} {l0 l1 l2 l3 l4 l5 : AV} {st : List AV} {a b : Int} {σ : Sg} {Q : AV → Sg → Prop}  : Rn d m_X4_loneRoll 8 [l0, l1, l2, l3, l4, l5] (vI b :: vI a :: st) σ Q ↔ Rn d m_X4_loneRoll 9 [l0, l1, l2, l3, l4, l5] (vI (shl32 a b) :: st) σ Q := q10_8 (show fnd (pgm m_X4_loneRoll) 8 = some (9, 10, 0, 8, 0, []) from rfl)
set_option maxRecDepth 100000 in
theorem s_X4_loneRoll_9 {d : Nat} {l0 l1 l2 l3 l4 l5 : AV} {st : List AV} {o : Nat} {x : Int} {σ : Sg} {Q : AV → Sg → Prop} (hk : kn σ o = (0, 4)) : Rn d m_X4_loneRoll 9 [l0, l1, l2, l3, l4, l5] (vI x :: vR o :: st) σ Q ↔ Rn d m_X4_loneRoll 12 [l0, l1, l2, l3, l4, l5] st (up σ o 9 x) Q := q34i (show fnd (pgm m_X4_loneRoll) 9 = some (12, 34, 42, 4, 9, []) from rfl) hk rfl
set_option maxRecDepth 100000 in
theorem s_X4_loneRoll_12 {d : Nat} {l1 l2 l3 l4 l5 : AV} {st : List AV} {o : Nat} {σ : Sg} {Q : AV → Sg → Prop} (ho : o ≠ 0) : Rn d m_X4_loneRoll 12 [vR o, l1, l2, l3, l4, l5] st σ Q ↔ Rn d m_X4_loneRoll 13 [vR o, l1, l2, l3, l4, l5] (vR o :: st) σ Q := q5 (show fnd (pgm m_X4_loneRoll) 12 = some (13, 5, 0, 0, 0, []) from rfl) rfl ho
set_option maxRecDepth 100000 in
theorem s_X4_loneRoll_13 {d : Nat} {l0 l1 l2 l3 l4 l5 : AV} {st : List AV} {σ : Sg} {Q : AV → Sg → Prop}  : Rn d m_X4_loneRoll 13 [l0, l1, l2, l3, l4, l5] st σ Q ↔ Rn d m_X4_loneRoll 14 [l0, l1, l2, l3, l4, l5] (vI 0 :: st) σ Q := q0 (show fnd (pgm m_X4_loneRoll) 13 = some (14, 0, 0, 0, 0, []) from rfl)
set_option maxRecDepth 100000 in
theorem s_X4_loneRoll_14 {d : Nat} {l0 l1 l2 l3 l4 l5 : AV} {st : List AV} {o : Nat} {x : Int} {σ : Sg} {Q : AV → Sg → Prop} (hk : kn σ o = (0, 4)) : Rn d m_X4_loneRoll 14 [l0, l1, l2, l3, l4, l5] (vI x :: vR o :: st) σ Q ↔ Rn d m_X4_loneRoll 17 [l0, l1, l2, l3, l4, l5] st (up σ o 6 x) Q := q34i (show fnd (pgm m_X4_loneRoll) 14 = some (17, 34, 30, 4, 6, []) from rfl) hk rfl
set_option maxRecDepth 100000 in
theorem s_X4_loneRoll_17 {d : Nat} {l1 l2 l3 l4 l5 : AV} {st : List AV} {o : Nat} {σ : Sg} {Q : AV → Sg → Prop} (ho : o ≠ 0) : Rn d m_X4_loneRoll 17 [vR o, l1, l2, l3, l4, l5] st σ Q ↔ Rn d m_X4_loneRoll 18 [vR o, l1, l2, l3, l4, l5] (vR o :: st) σ Q := q5 (show fnd (pgm m_X4_loneRoll) 17 = some (18, 5, 0, 0, 0, []) from rfl) rfl ho
set_option maxRecDepth 100000 in
theorem s_X4_loneRoll_18 {d : Nat} {l0 l1 l2 l3 l4 l5 : AV} {st : List AV} {o : Nat} {σ : Sg} {Q : AV → Sg → Prop} (hk : kn σ o = (0, 4)) : Rn d m_X4_loneRoll 18 [l0, l1, l2, l3, l4, l5] (vR o :: st) σ Q ↔ Rn d m_X4_loneRoll 21 [l0, l1, l2, l3, l4, l5] (vR (tp o 0) :: st) σ Q := q33 (show fnd (pgm m_X4_loneRoll) 18 = some (21, 33, 9, 4, 0, []) from rfl) hk
set_option maxRecDepth 100000 in
theorem s_X4_loneRoll_21 {d : Nat} {l0 l1 l3 l4 l5 : AV} {st : List AV} {x : Int} {σ : Sg} {Q : AV → Sg → Prop}  : Rn d m_X4_loneRoll 21 [l0, l1, vI x, l3, l4, l5] st σ Q ↔ Rn d m_X4_loneRoll 22 [l0, l1, vI x, l3, l4, l5] (vI x :: st) σ Q := q3 (show fnd (pgm m_X4_loneRoll) 21 = some (22, 3, 0, 2, 0, []) from rfl) rfl
set_option maxRecDepth 100000 in
theorem s_X4_loneRoll_22 {d : Nat} {l0 l1 l2 l4 l5 : AV} {st : List AV} {x : Int} {σ : Sg} {Q : AV → Sg → Prop}  : Rn d m_X4_loneRoll 22 [l0, l1, l2, vI x, l4, l5] st σ Q ↔ Rn d m_X4_loneRoll 23 [l0, l1, l2, vI x, l4, l5] (vI x :: st) σ Q := q3 (show fnd (pgm m_X4_loneRoll) 22 = some (23, 3, 0, 3, 0, []) from rfl) rfl
set_option maxRecDepth 100000 in
theorem s_X4_loneRoll_23 {d : Nat} {l0 l1 l2 l3 l4 l5 : AV} {st : List AV} {i x : Int} {o : Nat} {σ : Sg} {Q : AV → Sg → Prop} (hi : 0 ≤ w32 i ∧ w32 i < al σ 1 o) : Rn d m_X4_loneRoll 23 [l0, l1, l2, l3, l4, l5] (vI x :: vI i :: vR o :: st) σ Q ↔ Rn d m_X4_loneRoll 24 [l0, l1, l2, l3, l4, l5] st (up σ o (w32 i) x) Q := q29 (show fnd (pgm m_X4_loneRoll) 23 = some (24, 29, 0, 0, 0, []) from rfl) hi
set_option maxRecDepth 100000 in
theorem s_X4_loneRoll_24 {d : Nat} {l1 l2 l3 l4 l5 : AV} {st : List AV} {o : Nat} {σ : Sg} {Q : AV → Sg → Prop} (ho : o ≠ 0) : Rn d m_X4_loneRoll 24 [vR o, l1, l2, l3, l4, l5] st σ Q ↔ Rn d m_X4_loneRoll 25 [vR o, l1, l2, l3, l4, l5] (vR o :: st) σ Q := q5 (show fnd (pgm m_X4_loneRoll) 24 = some (25, 5, 0, 0, 0, []) from rfl) rfl ho
set_option maxRecDepth 100000 in
theorem s_X4_loneRoll_25 {d : Nat} {l0 l1 l2 l3 l4 l5 : AV} {st : List AV} {σ : Sg} {Q : AV → Sg → Prop}  : Rn d m_X4_loneRoll 25 [l0, l1, l2, l3, l4, l5] st σ Q ↔ Rn d m_X4_loneRoll 26 [l0, l1, l2, l3, l4, l5] (vI 0 :: st) σ Q := q0 (show fnd (pgm m_X4_loneRoll) 25 = some (26, 0, 0, 0, 0, []) from rfl)
set_option maxRecDepth 100000 in
theorem s_X4_loneRoll_26 {d : Nat} {l0 l1 l2 l3 l4 l5 : AV} {st : List AV} {o : Nat} {x : Int} {σ : Sg} {Q : AV → Sg → Prop} (hk : kn σ o = (0, 4)) : Rn d m_X4_loneRoll 26 [l0, l1, l2, l3, l4, l5] (vI x :: vR o :: st) σ Q ↔ Rn d m_X4_loneRoll 29 [l0, l1, l2, l3, l4, l5] st (up σ o 10 x) Q := q34i (show fnd (pgm m_X4_loneRoll) 26 = some (29, 34, 45, 4, 10, []) from rfl) hk rfl
set_option maxRecDepth 100000 in
theorem s_X4_loneRoll_29 {d : Nat} {l1 l2 l3 l4 l5 : AV} {st : List AV} {o : Nat} {σ : Sg} {Q : AV → Sg → Prop} (ho : o ≠ 0) : Rn d m_X4_loneRoll 29 [vR o, l1, l2, l3, l4, l5] st σ Q ↔ Rn d m_X4_loneRoll 30 [vR o, l1, l2, l3, l4, l5] (vR o :: st) σ Q := q5 (show fnd (pgm m_X4_loneRoll) 29 = some (30, 5, 0, 0, 0, []) from rfl) rfl ho
set_option maxRecDepth 100000 in
theorem s_X4_loneRoll_30 {d : Nat} {l0 l1 l2 l3 l5 : AV} {st : List AV} {x : Int} {σ : Sg} {Q : AV → Sg → Prop}  : Rn d m_X4_loneRoll 30 [l0, l1, l2, l3, vI x, l5] st σ Q ↔ Rn d m_X4_loneRoll 32 [l0, l1, l2, l3, vI x, l5] (vI x :: st) σ Q := q3 (show fnd (pgm m_X4_loneRoll) 30 = some (32, 3, 0, 4, 1, []) from rfl) rfl
set_option maxRecDepth 100000 in
theorem s_X4_loneRoll_32 {d : Nat} {l0 l1 l2 l3 l4 l5 : AV} {st : List AV} {o : Nat} {x : Int} {σ : Sg} {Q : AV → Sg → Prop} (hk : kn σ o = (0, 4)) : Rn d m_X4_loneRoll 32 [l0, l1, l2, l3, l4, l5] (vI x :: vR o :: st) σ Q ↔ Rn d m_X4_loneRoll 35 [l0, l1, l2, l3, l4, l5] st (up σ o 11 x) Q := q34i (show fnd (pgm m_X4_loneRoll) 32 = some (35, 34, 48, 4, 11, []) from rfl) hk rfl
set_option maxRecDepth 100000 in
theorem s_X4_loneRoll_35 {d : Nat} {l1 l2 l3 l4 l5 : AV} {st : List AV} {o : Nat} {σ : Sg} {Q : AV → Sg → Prop} (ho : o ≠ 0) : Rn d m_X4_loneRoll 35 [vR o, l1, l2, l3, l4, l5] st σ Q ↔ Rn d m_X4_loneRoll 36 [vR o, l1, l2, l3, l4, l5] (vR o :: st) σ Q := q5 (show fnd (pgm m_X4_loneRoll) 35 = some (36, 5, 0, 0, 0, []) from rfl) rfl ho
set_option maxRecDepth 100000 in
theorem s_X4_loneRoll_36 {d : Nat} {l0 l1 l2 l3 l4 : AV} {st : List AV} {x : Int} {σ : Sg} {Q : AV → Sg → Prop}  : Rn d m_X4_loneRoll 36 [l0, l1, l2, l3, l4, vI x] st σ Q ↔ Rn d m_X4_loneRoll 38 [l0, l1, l2, l3, l4, vI x] (vI x :: st) σ Q := q3 (show fnd (pgm m_X4_loneRoll) 36 = some (38, 3, 0, 5, 1, []) from rfl) rfl
set_option maxRecDepth 100000 in
theorem s_X4_loneRoll_38 {d : Nat} {l0 l1 l2 l3 l4 l5 : AV} {st : List AV} {o : Nat} {x : Int} {σ : Sg} {Q : AV → Sg → Prop} (hk : kn σ o = (0, 4)) : Rn d m_X4_loneRoll 38 [l0, l1, l2, l3, l4, l5] (vI x :: vR o :: st) σ Q ↔ Rn d m_X4_loneRoll 41 [l0, l1, l2, l3, l4, l5] st (up σ o 12 x) Q := q34i (show fnd (pgm m_X4_loneRoll) 38 = some (41, 34, 51, 4, 12, []) from rfl) hk rfl
set_option maxRecDepth 100000 in
theorem s_X4_loneRoll_41 {d : Nat} {l1 l2 l3 l4 l5 : AV} {st : List AV} {o : Nat} {σ : Sg} {Q : AV → Sg → Prop} (ho : o ≠ 0) : Rn d m_X4_loneRoll 41 [vR o, l1, l2, l3, l4, l5] st σ Q ↔ Rn d m_X4_loneRoll 42 [vR o, l1, l2, l3, l4, l5] (vR o :: st) σ Q := q5 (show fnd (pgm m_X4_loneRoll) 41 = some (42, 5, 0, 0, 0, []) from rfl) rfl ho
set_option maxRecDepth 100000 in
theorem s_X4_loneRoll_42 {d : Nat} {l0 l1 l3 l4 l5 : AV} {st : List AV} {x : Int} {σ : Sg} {Q : AV → Sg → Prop}  : Rn d m_X4_loneRoll 42 [l0, l1, vI x, l3, l4, l5] st σ Q ↔ Rn d m_X4_loneRoll 43 [l0, l1, vI x, l3, l4, l5] (vI x :: st) σ Q := q3 (show fnd (pgm m_X4_loneRoll) 42 = some (43, 3, 0, 2, 0, []) from rfl) rfl
set_option maxRecDepth 100000 in
theorem s_X4_loneRoll_43 {d : Nat} {l0 l1 l2 l3 l4 l5 : AV} {st : List AV} {o : Nat} {a0 : Int} {σ : Sg} {Q : AV → Sg → Prop} (h4 : st.length ≤ 4) (hk : kn σ o = (0, 4)) : Rn d m_X4_loneRoll 43 [l0, l1, l2, l3, l4, l5] (vI a0 :: vR o :: st) σ Q ↔ ∃ r σ1, Ev d m_X4_roll [vR o, vI a0] σ r σ1 ∧ Rn d m_X4_loneRoll 46 [l0, l1, l2, l3, l4, l5] (psh r st) σ1 Q := q35 (show fnd (pgm m_X4_loneRoll) 43 = some (46, 35, 87, 39, 2, []) from rfl) ⟨⟨by simp, by simpa using h4⟩, (by simp only [List.take, List.reverse, List.reverseAux, rcv]; rw [if_neg (by decide +kernel)]; exact decide_eq_true hk)⟩
set_option maxRecDepth 100000 in
theorem s_X4_loneRoll_46 {d : Nat} {l1 l2 l3 l4 l5 : AV} {st : List AV} {o : Nat} {σ : Sg} {Q : AV → Sg → Prop} (ho : o ≠ 0) : Rn d m_X4_loneRoll 46 [vR o, l1, l2, l3, l4, l5] st σ Q ↔ Rn d m_X4_loneRoll 47 [vR o, l1, l2, l3, l4, l5] (vR o :: st) σ Q := q5 (show fnd (pgm m_X4_loneRoll) 46 = some (47, 5, 0, 0, 0, []) from rfl) rfl ho
set_option maxRecDepth 100000 in
theorem s_X4_loneRoll_47 {d : Nat} {l0 l1 l2 l3 l4 l5 : AV} {st : List AV} {o : Nat} {σ : Sg} {Q : AV → Sg → Prop} (hk : kn σ o = (0, 4)) : Rn d m_X4_loneRoll 47 [l0, l1, l2, l3, l4, l5] (vR o :: st) σ Q ↔ Rn d m_X4_loneRoll 50 [l0, l1, l2, l3, l4, l5] (vR (tp o 0) :: st) σ Q := q33 (show fnd (pgm m_X4_loneRoll) 47 = some (50, 33, 9, 4, 0, []) from rfl) hk
set_option maxRecDepth 100000 in
theorem s_X4_loneRoll_50 {d : Nat} {l0 l1 l3 l4 l5 : AV} {st : List AV} {x : Int} {σ : Sg} {Q : AV → Sg → Prop}  : Rn d m_X4_loneRoll 50 [l0, l1, vI x, l3, l4, l5] st σ Q ↔ Rn d m_X4_loneRoll 51 [l0, l1, vI x, l3, l4, l5] (vI x :: st) σ Q := q3 (show fnd (pgm m_X4_loneRoll) 50 = some (51, 3, 0, 2, 0, []) from rfl) rfl
set_option maxRecDepth 100000 in
theorem s_X4_loneRoll_51 {d : Nat} {l0 l1 l2 l3 l4 l5 : AV} {st : List AV} {i : Int} {o : Nat} {σ : Sg} {Q : AV → Sg → Prop} (hi : 0 ≤ w32 i ∧ w32 i < al σ 1 o) : Rn d m_X4_loneRoll 51 [l0, l1, l2, l3, l4, l5] (vI i :: vR o :: st) σ Q ↔ Rn d m_X4_loneRoll 52 [l0, l1, l2, l3, l4, l5] (vI (σ o (w32 i)) :: st) σ Q := q25 (show fnd (pgm m_X4_loneRoll) 51 = some (52, 25, 0, 0, 0, []) from rfl) hi
set_option maxRecDepth 100000 in
theorem s_X4_loneRoll_52 {d : Nat} {l0 l1 l2 l3 l4 l5 : AV} {x : Int} {σ : Sg} {Q : AV → Sg → Prop}  : Rn d m_X4_loneRoll 52 [l0, l1, l2, l3, l4, l5] [vI x] σ Q ↔ Q (vI x) σ := q37_1 (st := []) (show fnd (pgm m_X4_loneRoll) 52 = some (53, 37, 0, 1, 0, []) from rfl)
set_option maxRecDepth 100000 in
theorem en_X4_isPresent {d : Nat} {o : Nat} {a0 : Int} {σ σ0 : Sg} {r0 : AV} (h : Rn d m_X4_isPresent 0 [vR o, vI a0] [] σ (fun r σ1 => r = r0 ∧ σ1 = σ0)) : Ev (d + 1) m_X4_isPresent [vR o, vI a0] σ r0 σ0 := Ev_is (Nat.le_of_ble_eq_true rfl) h
set_option maxRecDepth 100000 in
theorem eo_X4_isPresent {d : Nat} {o : Nat} {a0 : Int} {σ : Sg} {Q : AV → Sg → Prop} (h : Rn d m_X4_isPresent 0 [vR o, vI a0] [] σ Q) : ∃ r σ1, Ev (d + 1) m_X4_isPresent [vR o, vI a0] σ r σ1 ∧ Q r σ1 := Ev_of (Nat.le_of_ble_eq_true rfl) h
set_option maxRecDepth 100000 in
theorem s_X4_isPresent_0 {d : Nat} {l1 : AV} {st : List AV} {o : Nat} {σ : Sg} {Q : AV → Sg → Prop} (ho : o ≠ 0) : Rn d m_X4_isPresent 0 [vR o, l1] st σ Q ↔ Rn d m_X4_isPresent 1 [vR o, l1] (vR o :: st) σ Q := q5 (show fnd (pgm m_X4_isPresent) 0 = some (1, 5, 0, 0, 0, []) from rfl) rfl ho
set_option maxRecDepth 100000 in
theorem s_X4_isPresent_1 {d : Nat} {l0 l1 : AV} {st : List AV} {o : Nat} {σ : Sg} {Q : AV → Sg → Prop} (hk : kn σ o = (0, 4)) : Rn d m_X4_isPresent 1 [l0, l1] (vR o :: st) σ Q ↔ Rn d m_X4_isPresent 4 [l0, l1] (vI (σ o 9) :: st) σ Q := q33 (show fnd (pgm m_X4_isPresent) 1 = some (4, 33, 42, 4, 9, []) from rfl) hk
set_option maxRecDepth 100000 in
theorem s_X4_isPresent_4 {d : Nat} {l0 : AV} {st : List AV} {x : Int} {σ : Sg} {Q : AV → Sg → Prop}  : Rn d m_X4_isPresent 4 [l0, vI x] st σ Q ↔ Rn d m_X4_isPresent 5 [l0, vI x] (vI x :: st) σ Q := q3 (show fnd (pgm m_X4_isPresent) 4 = some (5, 3, 0, 1, 0, []) from rfl) rfl
set_option maxRecDepth 100000 in
theorem s_X4_isPresent_5 {d : Nat} {l0 l1 : AV} {st : List AV} {a b : Int} {σ : Sg} {Q : AV → Sg → Prop}  : Rn d m_X4_isPresent 5 [l0, l1] (vI b :: vI a :: st) σ Q ↔ Rn d m_X4_isPresent 6 [l0, l1] (vI (shr32 a b) :: st) σ Q := q10_9 (show fnd (pgm m_X4_isPresent) 5 = some (6, 10, 0, 9, 0, []) from rfl)
set_option maxRecDepth 100000 in
theorem s_X4_isPresent_6 {d : Nat} {l0 l1 : AV} {st : List AV} {σ : Sg} {Q : AV → Sg → Prop}  : Rn d m_X4_isPresent 6 [l0, l1] st σ Q ↔ Rn d m_X4_isPresent 7 [l0, l1] (vI 1 :: st) σ Q := q0 (show fnd (pgm m_X4_isPresent) 6 = some (7, 0, 1, 0, 0, []) from rfl)
set_option maxRecDepth 100000 in
theorem s_X4_isPresent_7 {d : Nat} {l0 l1 : AV} {st : List AV} {a b : Int} {σ : Sg} {Q : AV → Sg → Prop}  : Rn d m_X4_isPresent 7 [l0, l1] (vI b :: vI a :: st) σ Q ↔ Rn d m_X4_isPresent 8 [l0, l1] (vI (and32 a b) :: st) σ Q := q10_5 (show fnd (pgm m_X4_isPresent) 7 = some (8, 10, 0, 5, 0, []) from rfl)
set_option maxRecDepth 100000 in
theorem s_X4_isPresent_8 {d : Nat} {l0 l1 : AV} {st : List AV} {σ : Sg} {Q : AV → Sg → Prop}  : Rn d m_X4_isPresent 8 [l0, l1] st σ Q ↔ Rn d m_X4_isPresent 9 [l0, l1] (vI 1 :: st) σ Q := q0 (show fnd (pgm m_X4_isPresent) 8 = some (9, 0, 1, 0, 0, []) from rfl)
set_option maxRecDepth 100000 in
theorem s_X4_isPresent_9 {d : Nat} {l0 l1 : AV} {st : List AV} {a b : Int} {σ : Sg} {Q : AV → Sg → Prop}  : Rn d m_X4_isPresent 9 [l0, l1] (vI b :: vI a :: st) σ Q ↔ if ¬ w32 a = w32 b then Rn d m_X4_isPresent 16 [l0, l1] st σ Q else Rn d m_X4_isPresent 12 [l0, l1] st σ Q := q20_1 (show fnd (pgm m_X4_isPresent) 9 = some (12, 20, 0, 1, 16, []) from rfl)
set_option maxRecDepth 100000 in
theorem s_X4_isPresent_12 {d : Nat} {l0 l1 : AV} {st : List AV} {σ : Sg} {Q : AV → Sg → Prop}  : Rn d m_X4_isPresent 12 [l0, l1] st σ Q ↔ Rn d m_X4_isPresent 13 [l0, l1] (vI 1 :: st) σ Q := q0 (show fnd (pgm m_X4_isPresent) 12 = some (13, 0, 1, 0, 0, []) from rfl)
set_option maxRecDepth 100000 in
theorem s_X4_isPresent_13 {d : Nat} {l0 l1 : AV} {st : List AV} {σ : Sg} {Q : AV → Sg → Prop}  : Rn d m_X4_isPresent 13 [l0, l1] st σ Q ↔ Rn d m_X4_isPresent 17 [l0, l1] st σ Q := q21 (show fnd (pgm m_X4_isPresent) 13 = some (16, 21, 0, 0, 17, []) from rfl)
set_option maxRecDepth 100000 in
theorem s_X4_isPresent_16 {d : Nat} {l0 l1 : AV} {st : List AV} {σ : Sg} {Q : AV → Sg → Prop}  : Rn d m_X4_isPresent 16 [l0, l1] st σ Q ↔ Rn d m_X4_isPresent 17 [l0, l1] (vI 0 :: st) σ Q := q0 (show fnd (pgm m_X4_isPresent) 16 = some (17, 0, 0, 0, 0, []) from rfl)
set_option maxRecDepth 100000 in
theorem s_X4_isPresent_17 {d : Nat} {l0 l1 : AV} {x : Int} {σ : Sg} {Q : AV → Sg → Prop} (hx : x = 0 ∨ x = 1) : Rn d m_X4_isPresent 17 [l0, l1] [vI x] σ Q ↔ Q (vI x) σ := q37_2 (st := []) (show fnd (pgm m_X4_isPresent) 17 = some (18, 37, 0, 2, 0, []) from rfl) hx
set_option maxRecDepth 100000 in
theorem en_X4_roll {d : Nat} {o : Nat} {a0 : Int} {σ σ0 : Sg} {r0 : AV} (h : Rn d m_X4_roll 0 [vR o, vI a0, none, none, none, none, none, none] [] σ (fun r σ1 => r = r0 ∧ σ1 = σ0)) : Ev (d + 1) m_X4_roll [vR o, vI a0] σ r0 σ0 := Ev_is (Nat.le_of_ble_eq_true rfl) h
set_option maxRecDepth 100000 in
theorem eo_X4_roll {d : Nat} {o : Nat} {a0 : Int} {σ : Sg} {Q : AV → Sg → Prop} (h : Rn d m_X4_roll 0 [vR o, vI a0, none, none, none, none, none, none] [] σ Q) : ∃ r σ1, Ev (d + 1) m_X4_roll [vR o, vI a0] σ r σ1 ∧ Q r σ1 := Ev_of (Nat.le_of_ble_eq_true rfl) h
set_option maxRecDepth 100000 in
theorem s_X4_roll_0 {d : Nat} {l1 l2 l3 l4 l5 l6 l7 : AV} {st : List AV} {o : Nat} {σ : Sg} {Q : AV → Sg → Prop} (ho : o ≠ 0) : Rn d m_X4_roll 0 [vR o, l1, l2, l3, l4, l5, l6, l7] st σ Q ↔ Rn d m_X4_roll 1 [vR o, l1, l2, l3, l4, l5, l6, l7] (vR o :: st) σ Q := q5 (show fnd (pgm m_X4_roll) 0 = some (1, 5, 0, 0, 0, []) from rfl) rfl ho
set_option maxRecDepth 100000 in
theorem s_X4_roll_1 {d : Nat} {l0 l1 l2 l3 l4 l5 l6 l7 : AV} {st : List AV} {o : Nat} {σ : Sg} {Q : AV → Sg → Prop} (hk : kn σ o = (0, 4)) : Rn d m_X4_roll 1 [l0, l1, l2, l3, l4, l5, l6, l7] (vR o :: st) σ Q ↔ Rn d m_X4_roll 4 [l0, l1, l2, l3, l4, l5, l6, l7] (vR (σ o 8).toNat :: st) σ Q := q33 (show fnd (pgm m_X4_roll) 1 = some (4, 33, 38, 4, 8, []) from rfl) hk
set_option maxRecDepth 100000 in
theorem s_X4_roll_4 {d : Nat} {l0 l1 l2 l3 l4 l5 l6 l7 : AV} {st : List AV} {o : Nat} {σ : Sg} {Q : AV → Sg → Prop}  : Rn d m_X4_roll 4 [l0, l1, l2, l3, l4, l5, l6, l7] (vR o :: st) σ Q ↔ if o = 0 then Rn d m_X4_roll 7 [l0, l1, l2, l3, l4, l5, l6, l7] st σ Q else Rn d m_X4_roll 8 [l0, l1, l2, l3, l4, l5, l6, l7] st σ Q := q23 (show fnd (pgm m_X4_roll) 4 = some (7, 23, 0, 0, 8, []) from rfl)
set_option maxRecDepth 100000 in
theorem s_X4_roll_7 {d : Nat} {l0 l1 l2 l3 l4 l5 l6 l7 : AV} {σ : Sg} {Q : AV → Sg → Prop}  : Rn d m_X4_roll 7 [l0, l1, l2, l3, l4, l5, l6, l7] [] σ Q ↔ Q none σ := q37_0 (st := []) (show fnd (pgm m_X4_roll) 7 = some (8, 37, 0, 0, 0, []) from rfl)
set_option maxRecDepth 100000 in
theorem s_X4_roll_8 {d : Nat} {l0 l2 l3 l4 l5 l6 l7 : AV} {st : List AV} {x : Int} {σ : Sg} {Q : AV → Sg → Prop}  : Rn d m_X4_roll 8 [l0, vI x, l2, l3, l4, l5, l6, l7] st σ Q ↔ Rn d m_X4_roll 9 [l0, vI x, l2, l3, l4, l5, l6, l7] (vI x :: st) σ Q := q3 (show fnd (pgm m_X4_roll) 8 = some (9, 3, 0, 1, 0, []) from rfl) rfl
set_option maxRecDepth 100000 in
theorem s_X4_roll_9 {d : Nat} {l0 l1 l2 l3 l4 l5 l6 l7 : AV} {st : List AV} {x : Int} {σ : Sg} {Q : AV → Sg → Prop}  : Rn d m_X4_roll 9 [l0, l1, l2, l3, l4, l5, l6, l7] (vI x :: st) σ Q ↔ Rn d m_X4_roll 10 [l0, l1, vI x, l3, l4, l5, l6, l7] st σ Q := q6 (show fnd (pgm m_X4_roll) 9 = some (10, 6, 0, 2, 0, []) from rfl) (by decide : 2 < 8)
set_option maxRecDepth 100000 in
theorem s_X4_roll_10 {d : Nat} {l1 l2 l3 l4 l5 l6 l7 : AV} {st : List AV} {o : Nat} {σ : Sg} {Q : AV → Sg → Prop} (ho : o ≠ 0) : Rn d m_X4_roll 10 [vR o, l1, l2, l3, l4, l5, l6, l7] st σ Q ↔ Rn d m_X4_roll 11 [vR o, l1, l2, l3, l4, l5, l6, l7] (vR o :: st) σ Q := q5 (show fnd (pgm m_X4_roll) 10 = some (11, 5, 0, 0, 0, []) from rfl) rfl ho
set_option maxRecDepth 100000 in
theorem s_X4_roll_11 {d : Nat} {l0 l1 l2 l3 l4 l5 l6 l7 : AV} {st : List AV} {o : Nat} {σ : Sg} {Q : AV → Sg → Prop} (hk : kn σ o = (0, 4)) : Rn d m_X4_roll 11 [l0, l1, l2, l3, l4, l5, l6, l7] (vR o :: st) σ Q ↔ Rn d m_X4_roll 14 [l0, l1, l2, l3, l4, l5, l6, l7] (vI (σ o 11) :: st) σ Q := q33 (show fnd (pgm m_X4_roll) 11 = some (14, 33, 48, 4, 11, []) from rfl) hk
set_option maxRecDepth 100000 in
theorem s_X4_roll_14 {d : Nat} {l0 l1 l2 l3 l4 l5 l6 l7 : AV} {st : List AV} {x : Int} {σ : Sg} {Q : AV → Sg → Prop}  : Rn d m_X4_roll 14 [l0, l1, l2, l3, l4, l5, l6, l7] (vI x :: st) σ Q ↔ Rn d m_X4_roll 15 [l0, l1, l2, vI x, l4, l5, l6, l7] st σ Q := q6 (show fnd (pgm m_X4_roll) 14 = some (15, 6, 0, 3, 0, []) from rfl) (by decide : 3 < 8)
set_option maxRecDepth 100000 in
theorem s_X4_roll_15 {d : Nat} {l1 l2 l3 l4 l5 l6 l7 : AV} {st : List AV} {o : Nat} {σ : Sg} {Q : AV → Sg → Prop} (ho : o ≠ 0) : Rn d m_X4_roll 15 [vR o, l1, l2, l3, l4, l5, l6, l7] st σ Q ↔ Rn d m_X4_roll 16 [vR o, l1, l2, l3, l4, l5, l6, l7] (vR o :: st) σ Q := q5 (show fnd (pgm m_X4_roll) 15 = some (16, 5, 0, 0, 0, []) from rfl) rfl ho
set_option maxRecDepth 100000 in
theorem s_X4_roll_16 {d : Nat} {l0 l1 l2 l3 l4 l5 l6 l7 : AV} {st : List AV} {o : Nat} {σ : Sg} {Q : AV → Sg → Prop} (hk : kn σ o = (0, 4)) : Rn d m_X4_roll 16 [l0, l1, l2, l3, l4, l5, l6, l7] (vR o :: st) σ Q ↔ Rn d m_X4_roll 19 [l0, l1, l2, l3, l4, l5, l6, l7] (vR (σ o 8).toNat :: st) σ Q := q33 (show fnd (pgm m_X4_roll) 16 = some (19, 33, 38, 4, 8, []) from rfl) hk
set_option maxRecDepth 100000 in
theorem s_X4_roll_19 {d : Nat} {l0 l1 l3 l4 l5 l6 l7 : AV} {st : List AV} {x : Int} {σ : Sg} {Q : AV → Sg → Prop}  : Rn d m_X4_roll 19 [l0, l1, vI x, l3, l4, l5, l6, l7] st σ Q ↔ Rn d m_X4_roll 20 [l0, l1, vI x, l3, l4, l5, l6, l7] (vI x :: st) σ Q := q3 (show fnd (pgm m_X4_roll) 19 = some (20, 3, 0, 2, 0, []) from rfl) rfl
set_option maxRecDepth 100000 in
theorem s_X4_roll_20 {d : Nat} {l0 l1 l2 l4 l5 l6 l7 : AV} {st : List AV} {x : Int} {σ : Sg} {Q : AV → Sg → Prop}  : Rn d m_X4_roll 20 [l0, l1, l2, vI x, l4, l5, l6, l7] st σ Q ↔ Rn d m_X4_roll 21 [l0, l1, l2, vI x, l4, l5, l6, l7] (vI x :: st) σ Q := q3 (show fnd (pgm m_X4_roll) 20 = some (21, 3, 0, 3, 0, []) from rfl) rfl
set_option maxRecDepth 100000 in
theorem s_X4_roll_21 {d : Nat} {l1 l2 l3 l4 l5 l6 l7 : AV} {st : List AV} {o : Nat} {σ : Sg} {Q : AV → Sg → Prop} (ho : o ≠ 0) : Rn d m_X4_roll 21 [vR o, l1, l2, l3, l4, l5, l6, l7] st σ Q ↔ Rn d m_X4_roll 22 [vR o, l1, l2, l3, l4, l5, l6, l7] (vR o :: st) σ Q := q5 (show fnd (pgm m_X4_roll) 21 = some (22, 5, 0, 0, 0, []) from rfl) rfl ho
set_option maxRecDepth 100000 in
theorem s_X4_roll_22 {d : Nat} {l0 l1 l2 l3 l4 l5 l6 l7 : AV} {st : List AV} {o : Nat} {σ : Sg} {Q : AV → Sg → Prop} (hk : kn σ o = (0, 4)) : Rn d m_X4_roll 22 [l0, l1, l2, l3, l4, l5, l6, l7] (vR o :: st) σ Q ↔ Rn d m_X4_roll 25 [l0, l1, l2, l3, l4, l5, l6, l7] (vI (σ o 12) :: st) σ Q := q33 (show fnd (pgm m_X4_roll) 22 = some (25, 33, 51, 4, 12, []) from rfl) hk
set_option maxRecDepth 100000 in
theorem s_X4_roll_25 {d : Nat} {l0 l1 l2 l3 l4 l5 l6 l7 : AV} {st : List AV} {o : Nat} {a0 : Int} {a1 : Int} {a2 : Int} {σ : Sg} {Q : AV → Sg → Prop} (h4 : st.length ≤ 4) (hk : kn σ o = (0, 0)) : Rn d m_X4_roll 25 [l0, l1, l2, l3, l4, l5, l6, l7] (vI a2 :: vI a1 :: vI a0 :: vR o :: st) σ Q ↔ ∃ r σ1, Ev d m_X0_stepsBy [vR o, vI a0, vI a1, vI a2] σ r σ1 ∧ Rn d m_X4_roll 28 [l0, l1, l2, l3, l4, l5, l6, l7] (psh r st) σ1 Q := q35 (show fnd (pgm m_X4_roll) 25 = some (28, 35, 91, 3, 4, []) from rfl) ⟨⟨by simp, by simpa using h4⟩, (by simp only [List.take, List.reverse, List.reverseAux, rcv]; rw [if_neg (by decide +kernel)]; exact decide_eq_true hk)⟩
set_option maxRecDepth 100000 in
theorem s_X4_roll_28 {d : Nat} {l0 l1 l2 l3 l4 l5 l6 l7 : AV} {st : List AV} {x : Int} {σ : Sg} {Q : AV → Sg → Prop}  : Rn d m_X4_roll 28 [l0, l1, l2, l3, l4, l5, l6, l7] (vI x :: st) σ Q ↔ Rn d m_X4_roll 30 [l0, l1, l2, l3, vI x, l5, l6, l7] st σ Q := q6 (show fnd (pgm m_X4_roll) 28 = some (30, 6, 0, 4, 1, []) from rfl) (by decide : 4 < 8)
set_option maxRecDepth 100000 in
theorem s_X4_roll_30 {d : Nat} {l0 l1 l2 l3 l4 l5 l6 l7 : AV} {st : List AV} {σ : Sg} {Q : AV → Sg → Prop}  : Rn d m_X4_roll 30 [l0, l1, l2, l3, l4, l5, l6, l7] st σ Q ↔ Rn d m_X4_roll 31 [l0, l1, l2, l3, l4, l5, l6, l7] (vI 0 :: st) σ Q := q0 (show fnd (pgm m_X4_roll) 30 = some (31, 0, 0, 0, 0, []) from rfl)
set_option maxRecDepth 100000 in
theorem s_X4_roll_31 {d : Nat} {l0 l1 l2 l3 l4 l5 l6 l7 : AV} {st : List AV} {x : Int} {σ : Sg} {Q : AV → Sg → Prop}  : Rn d m_X4_roll 31 [l0, l1, l2, l3, l4, l5, l6, l7] (vI x :: st) σ Q ↔ Rn d m_X4_roll 33 [l0, l1, l2, l3, l4, vI x, l6, l7] st σ Q := q6 (show fnd (pgm m_X4_roll) 31 = some (33, 6, 0, 5, 1, []) from rfl) (by decide : 5 < 8)
set_option maxRecDepth 100000 in
theorem s_X4_roll_33 {d : Nat} {l0 l1 l2 l3 l5 l6 l7 : AV} {st : List AV} {x : Int} {σ : Sg} {Q : AV → Sg → Prop}  : Rn d m_X4_roll 33 [l0, l1, l2, l3, vI x, l5, l6, l7] st σ Q ↔ Rn d m_X4_roll 35 [l0, l1, l2, l3, vI x, l5, l6, l7] (vI x :: st) σ Q := q3 (show fnd (pgm m_X4_roll) 33 = some (35, 3, 0, 4, 1, []) from rfl) rfl
set_option maxRecDepth 100000 in
theorem s_X4_roll_35 {d : Nat} {l0 l1 l2 l3 l4 l5 l6 l7 : AV} {st : List AV} {a : Int} {σ : Sg} {Q : AV → Sg → Prop}  : Rn d m_X4_roll 35 [l0, l1, l2, l3, l4, l5, l6, l7] (vI a :: st) σ Q ↔ if w32 a ≤ 0 then Rn d m_X4_roll 209 [l0, l1, l2, l3, l4, l5, l6, l7] st σ Q else Rn d m_X4_roll 38 [l0, l1, l2, l3, l4, l5, l6, l7] st σ Q := q19_5 (show fnd (pgm m_X4_roll) 35 = some (38, 19, 0, 5, 209, []) from rfl)
set_option maxRecDepth 100000 in
theorem s_X4_roll_38 {d : Nat} {l0 l1 l2 l3 l4 l6 l7 : AV} {st : List AV} {x : Int} {σ : Sg} {Q : AV → Sg → Prop}  : Rn d m_X4_roll 38 [l0, l1, l2, l3, l4, vI x, l6, l7] st σ Q ↔ Rn d m_X4_roll 40 [l0, l1, l2, l3, l4, vI x, l6, l7] (vI x :: st) σ Q := q3 (show fnd (pgm m_X4_roll) 38 = some (40, 3, 0, 5, 1, []) from rfl) rfl
set_option maxRecDepth 100000 in
theorem s_X4_roll_40 {d : Nat} {l0 l1 l2 l3 l4 l5 l6 l7 : AV} {st : List AV} {σ : Sg} {Q : AV → Sg → Prop}  : Rn d m_X4_roll 40 [l0, l1, l2, l3, l4, l5, l6, l7] st σ Q ↔ Rn d m_X4_roll 42 [l0, l1, l2, l3, l4, l5, l6, l7] (vI 60 :: st) σ Q := q0 (show fnd (pgm m_X4_roll) 40 = some (42, 0, 60, 1, 0, []) from rfl)
set_option maxRecDepth 100000 in
theorem s_X4_roll_42 {d : Nat} {l0 l1 l2 l3 l4 l5 l6 l7 : AV} {st : List AV} {a b : Int} {σ : Sg} {Q : AV → Sg → Prop}  : Rn d m_X4_roll 42 [l0, l1, l2, l3, l4, l5, l6, l7] (vI b :: vI a :: st) σ Q ↔ if w32 b ≤ w32 a then Rn d m_X4_roll 209 [l0, l1, l2, l3, l4, l5, l6, l7] st σ Q else Rn d m_X4_roll 45 [l0, l1, l2, l3, l4, l5, l6, l7] st σ Q := q20_3 (show fnd (pgm m_X4_roll) 42 = some (45, 20, 0, 3, 209, []) from rfl)
set_option maxRecDepth 100000 in
theorem s_X4_roll_45 {d : Nat} {l1 l2 l3 l4 l5 l6 l7 : AV} {st : List AV} {o : Nat} {σ : Sg} {Q : AV → Sg → Prop} (ho : o ≠ 0) : Rn d m_X4_roll 45 [vR o, l1, l2, l3, l4, l5, l6, l7] st σ Q ↔ Rn d m_X4_roll 46 [vR o, l1, l2, l3, l4, l5, l6, l7] (vR o :: st) σ Q := q5 (show fnd (pgm m_X4_roll) 45 = some (46, 5, 0, 0, 0, []) from rfl) rfl ho
set_option maxRecDepth 100000 in
theorem s_X4_roll_46 {d : Nat} {l0 l1 l2 l3 l4 l5 l6 l7 : AV} {st : List AV} {o : Nat} {σ : Sg} {Q : AV → Sg → Prop} (hk : kn σ o = (0, 4)) : Rn d m_X4_roll 46 [l0, l1, l2, l3, l4, l5, l6, l7] (vR o :: st) σ Q ↔ Rn d m_X4_roll 49 [l0, l1, l2, l3, l4, l5, l6, l7] (vR (tp o 0) :: st) σ Q := q33 (show fnd (pgm m_X4_roll) 46 = some (49, 33, 9, 4, 0, []) from rfl) hk
set_option maxRecDepth 100000 in
theorem s_X4_roll_49 {d : Nat} {l0 l1 l3 l4 l5 l6 l7 : AV} {st : List AV} {x : Int} {σ : Sg} {Q : AV → Sg → Prop}  : Rn d m_X4_roll 49 [l0, l1, vI x, l3, l4, l5, l6, l7] st σ Q ↔ Rn d m_X4_roll 50 [l0, l1, vI x, l3, l4, l5, l6, l7] (vI x :: st) σ Q := q3 (show fnd (pgm m_X4_roll) 49 = some (50, 3, 0, 2, 0, []) from rfl) rfl
set_option maxRecDepth 100000 in
theorem s_X4_roll_50 {d : Nat} {l0 l1 l2 l3 l4 l5 l6 l7 : AV} {st : List AV} {i : Int} {o : Nat} {σ : Sg} {Q : AV → Sg → Prop} (hi : 0 ≤ w32 i ∧ w32 i < al σ 1 o) : Rn d m_X4_roll 50 [l0, l1, l2, l3, l4, l5, l6, l7] (vI i :: vR o :: st) σ Q ↔ Rn d m_X4_roll 51 [l0, l1, l2, l3, l4, l5, l6, l7] (vI (σ o (w32 i)) :: st) σ Q := q25 (show fnd (pgm m_X4_roll) 50 = some (51, 25, 0, 0, 0, []) from rfl) hi
set_option maxRecDepth 100000 in
theorem s_X4_roll_51 {d : Nat} {l0 l1 l2 l4 l5 l6 l7 : AV} {st : List AV} {x : Int} {σ : Sg} {Q : AV → Sg → Prop}  : Rn d m_X4_roll 51 [l0, l1, l2, vI x, l4, l5, l6, l7] st σ Q ↔ Rn d m_X4_roll 52 [l0, l1, l2, vI x, l4, l5, l6, l7] (vI x :: st) σ Q := q3 (show fnd (pgm m_X4_roll) 51 = some (52, 3, 0, 3, 0, []) from rfl) rfl
set_option maxRecDepth 100000 in
theorem s_X4_roll_52 {d : Nat} {l0 l1 l2 l3 l4 l5 l6 l7 : AV} {st : List AV}  {a0 : Int} {a1 : Int} {σ : Sg} {Q : AV → Sg → Prop} (h4 : st.length ≤ 4) : Rn d m_X4_roll 52 [l0, l1, l2, l3, l4, l5, l6, l7] (vI a1 :: vI a0 :: st) σ Q ↔ ∃ r σ1, Ev d m_X4_nextCell [vI a0, vI a1] σ r σ1 ∧ Rn d m_X4_roll 55 [l0, l1, l2, l3, l4, l5, l6, l7] (psh r st) σ1 Q := q35 (show fnd (pgm m_X4_roll) 52 = some (55, 35, 95, 41, 2, []) from rfl) ⟨⟨by simp, by simpa using h4⟩, rfl⟩
set_option maxRecDepth 100000 in
theorem s_X4_roll_55 {d : Nat} {l0 l1 l2 l3 l4 l5 l6 l7 : AV} {st : List AV} {x : Int} {σ : Sg} {Q : AV → Sg → Prop}  : Rn d m_X4_roll 55 [l0, l1, l2, l3, l4, l5, l6, l7] (vI x :: st) σ Q ↔ Rn d m_X4_roll 57 [l0, l1, l2, l3, l4, l5, vI x, l7] st σ Q := q6 (show fnd (pgm m_X4_roll) 55 = some (57, 6, 0, 6, 1, []) from rfl) (by decide : 6 < 8)
set_option maxRecDepth 100000 in
theorem s_X4_roll_57 {d : Nat} {l0 l1 l2 l3 l4 l5 l7 : AV} {st : List AV} {x : Int} {σ : Sg} {Q : AV → Sg → Prop}  : Rn d m_X4_roll 57 [l0, l1, l2, l3, l4, l5, vI x, l7] st σ Q ↔ Rn d m_X4_roll 59 [l0, l1, l2, l3, l4, l5, vI x, l7] (vI x :: st) σ Q := q3 (show fnd (pgm m_X4_roll) 57 = some (59, 3, 0, 6, 1, []) from rfl) rfl
set_option maxRecDepth 100000 in
theorem s_X4_roll_59 {d : Nat} {l0 l1 l2 l3 l4 l5 l6 l7 : AV} {st : List AV} {σ : Sg} {Q : AV → Sg → Prop}  : Rn d m_X4_roll 59 [l0, l1, l2, l3, l4, l5, l6, l7] st σ Q ↔ Rn d m_X4_roll 62 [l0, l1, l2, l3, l4, l5, l6, l7] (vI 144 :: st) σ Q := q0 (show fnd (pgm m_X4_roll) 59 = some (62, 0, 144, 2, 0, []) from rfl)
set_option maxRecDepth 100000 in
theorem s_X4_roll_62 {d : Nat} {l0 l1 l2 l3 l4 l5 l6 l7 : AV} {st : List AV}  {a0 : Int} {a1 : Int} {σ : Sg} {Q : AV → Sg → Prop} (h4 : st.length ≤ 4) : Rn d m_X4_roll 62 [l0, l1, l2, l3, l4, l5, l6, l7] (vI a1 :: vI a0 :: st) σ Q ↔ ∃ r σ1, Ev d m_X5_within [vI a0, vI a1] σ r σ1 ∧ Rn d m_X4_roll 65 [l0, l1, l2, l3, l4, l5, l6, l7] (psh r st) σ1 Q := q35 (show fnd (pgm m_X4_roll) 62 = some (65, 35, 98, 89, 2, []) from rfl) ⟨⟨by simp, by simpa using h4⟩, rfl⟩
set_option maxRecDepth 100000 in
theorem s_X4_roll_65 {d : Nat} {l0 l1 l2 l3 l4 l5 l6 l7 : AV} {st : List AV} {a : Int} {σ : Sg} {Q : AV → Sg → Prop}  : Rn d m_X4_roll 65 [l0, l1, l2, l3, l4, l5, l6, l7] (vI a :: st) σ Q ↔ if w32 a = 0 then Rn d m_X4_roll 82 [l0, l1, l2, l3, l4, l5, l6, l7] st σ Q else Rn d m_X4_roll 68 [l0, l1, l2, l3, l4, l5, l6, l7] st σ Q := q19_0 (show fnd (pgm m_X4_roll) 65 = some (68, 19, 0, 0, 82, []) from rfl)
set_option maxRecDepth 100000 in
theorem s_X4_roll_68 {d : Nat} {l1 l2 l3 l4 l5 l6 l7 : AV} {st : List AV} {o : Nat} {σ : Sg} {Q : AV → Sg → Prop} (ho : o ≠ 0) : Rn d m_X4_roll 68 [vR o, l1, l2, l3, l4, l5, l6, l7] st σ Q ↔ Rn d m_X4_roll 69 [vR o, l1, l2, l3, l4, l5, l6, l7] (vR o :: st) σ Q := q5 (show fnd (pgm m_X4_roll) 68 = some (69, 5, 0, 0, 0, []) from rfl) rfl ho
set_option maxRecDepth 100000 in
theorem s_X4_roll_69 {d : Nat} {l0 l1 l2 l3 l4 l5 l6 l7 : AV} {st : List AV} {o : Nat} {σ : Sg} {Q : AV → Sg → Prop} (hk : kn σ o = (0, 4)) : Rn d m_X4_roll 69 [l0, l1, l2, l3, l4, l5, l6, l7] (vR o :: st) σ Q ↔ Rn d m_X4_roll 72 [l0, l1, l2, l3, l4, l5, l6, l7] (vR (σ o 8).toNat :: st) σ Q := q33 (show fnd (pgm m_X4_roll) 69 = some (72, 33, 38, 4, 8, []) from rfl) hk
set_option maxRecDepth 100000 in
theorem s_X4_roll_72 {d : Nat} {l0 l1 l2 l3 l4 l5 l6 l7 : AV} {st : List AV} {o : Nat} {σ : Sg} {Q : AV → Sg → Prop} (hk : kn σ o = (0, 0)) : Rn d m_X4_roll 72 [l0, l1, l2, l3, l4, l5, l6, l7] (vR o :: st) σ Q ↔ Rn d m_X4_roll 75 [l0, l1, l2, l3, l4, l5, l6, l7] (vR (tp o 6) :: st) σ Q := q33 (show fnd (pgm m_X4_roll) 72 = some (75, 33, 102, 0, 6, []) from rfl) hk
set_option maxRecDepth 100000 in
theorem s_X4_roll_75 {d : Nat} {l0 l1 l2 l3 l4 l5 l7 : AV} {st : List AV} {x : Int} {σ : Sg} {Q : AV → Sg → Prop}  : Rn d m_X4_roll 75 [l0, l1, l2, l3, l4, l5, vI x, l7] st σ Q ↔ Rn d m_X4_roll 77 [l0, l1, l2, l3, l4, l5, vI x, l7] (vI x :: st) σ Q := q3 (show fnd (pgm m_X4_roll) 75 = some (77, 3, 0, 6, 1, []) from rfl) rfl
set_option maxRecDepth 100000 in
theorem s_X4_roll_77 {d : Nat} {l0 l1 l2 l3 l4 l5 l6 l7 : AV} {st : List AV} {i : Int} {o : Nat} {σ : Sg} {Q : AV → Sg → Prop} (hi : 0 ≤ w32 i ∧ w32 i < al σ 1 o) : Rn d m_X4_roll 77 [l0, l1, l2, l3, l4, l5, l6, l7] (vI i :: vR o :: st) σ Q ↔ Rn d m_X4_roll 78 [l0, l1, l2, l3, l4, l5, l6, l7] (vI (σ o (w32 i)) :: st) σ Q := q25 (show fnd (pgm m_X4_roll) 77 = some (78, 25, 0, 0, 0, []) from rfl) hi
set_option maxRecDepth 100000 in
theorem s_X4_roll_78 {d : Nat} {l0 l1 l2 l3 l4 l5 l6 l7 : AV} {st : List AV} {σ : Sg} {Q : AV → Sg → Prop}  : Rn d m_X4_roll 78 [l0, l1, l2, l3, l4, l5, l6, l7] st σ Q ↔ Rn d m_X4_roll 79 [l0, l1, l2, l3, l4, l5, l6, l7] (vI 1 :: st) σ Q := q0 (show fnd (pgm m_X4_roll) 78 = some (79, 0, 1, 0, 0, []) from rfl)
set_option maxRecDepth 100000 in
theorem s_X4_roll_79 {d : Nat} {l0 l1 l2 l3 l4 l5 l6 l7 : AV} {st : List AV} {a b : Int} {σ : Sg} {Q : AV → Sg → Prop}  : Rn d m_X4_roll 79 [l0, l1, l2, l3, l4, l5, l6, l7] (vI b :: vI a :: st) σ Q ↔ if ¬ w32 a = w32 b then Rn d m_X4_roll 83 [l0, l1, l2, l3, l4, l5, l6, l7] st σ Q else Rn d m_X4_roll 82 [l0, l1, l2, l3, l4, l5, l6, l7] st σ Q := q20_1 (show fnd (pgm m_X4_roll) 79 = some (82, 20, 0, 1, 83, []) from rfl)
set_option maxRecDepth 100000 in
theorem s_X4_roll_82 {d : Nat} {l0 l1 l2 l3 l4 l5 l6 l7 : AV} {σ : Sg} {Q : AV → Sg → Prop}  : Rn d m_X4_roll 82 [l0, l1, l2, l3, l4, l5, l6, l7] [] σ Q ↔ Q none σ := q37_0 (st := []) (show fnd (pgm m_X4_roll) 82 = some (83, 37, 0, 0, 0, []) from rfl)
set_option maxRecDepth 100000 in
theorem s_X4_roll_83 {d : Nat} {l1 l2 l3 l4 l5 l6 l7 : AV} {st : List AV} {o : Nat} {σ : Sg} {Q : AV → Sg → Prop} (ho : o ≠ 0) : Rn d m_X4_roll 83 [vR o, l1, l2, l3, l4, l5, l6, l7] st σ Q ↔ Rn d m_X4_roll 84 [vR o, l1, l2, l3, l4, l5, l6, l7] (vR o :: st) σ Q := q5 (show fnd (pgm m_X4_roll) 83 = some (84, 5, 0, 0, 0, []) from rfl) rfl ho
set_option maxRecDepth 100000 in
theorem s_X4_roll_84 {d : Nat} {l0 l1 l2 l3 l4 l5 l7 : AV} {st : List AV} {x : Int} {σ : Sg} {Q : AV → Sg → Prop}  : Rn d m_X4_roll 84 [l0, l1, l2, l3, l4, l5, vI x, l7] st σ Q ↔ Rn d m_X4_roll 86 [l0, l1, l2, l3, l4, l5, vI x, l7] (vI x :: st) σ Q := q3 (show fnd (pgm m_X4_roll) 84 = some (86, 3, 0, 6, 1, []) from rfl) rfl
set_option maxRecDepth 100000 in
theorem s_X4_roll_86 {d : Nat} {l0 l1 l2 l3 l4 l5 l6 l7 : AV} {st : List AV} {o : Nat} {a0 : Int} {σ : Sg} {Q : AV → Sg → Prop} (h4 : st.length ≤ 4) (hk : kn σ o = (0, 4)) : Rn d m_X4_roll 86 [l0, l1, l2, l3, l4, l5, l6, l7] (vI a0 :: vR o :: st) σ Q ↔ ∃ r σ1, Ev d m_X4_stoneIn [vR o, vI a0] σ r σ1 ∧ Rn d m_X4_roll 89 [l0, l1, l2, l3, l4, l5, l6, l7] (psh r st) σ1 Q := q35 (show fnd (pgm m_X4_roll) 86 = some (89, 35, 105, 42, 2, []) from rfl) ⟨⟨by simp, by simpa using h4⟩, (by simp only [List.take, List.reverse, List.reverseAux, rcv]; rw [if_neg (by decide +kernel)]; exact decide_eq_true hk)⟩
set_option maxRecDepth 100000 in
theorem s_X4_roll_89 {d : Nat} {l0 l1 l2 l3 l4 l5 l6 l7 : AV} {st : List AV} {x : Int} {σ : Sg} {Q : AV → Sg → Prop}  : Rn d m_X4_roll 89 [l0, l1, l2, l3, l4, l5, l6, l7] (vI x :: st) σ Q ↔ Rn d m_X4_roll 91 [l0, l1, l2, l3, l4, l5, l6, vI x] st σ Q := q6 (show fnd (pgm m_X4_roll) 89 = some (91, 6, 0, 7, 1, []) from rfl) (by decide : 7 < 8)
set_option maxRecDepth 100000 in
theorem s_X4_roll_91 {d : Nat} {l0 l1 l2 l3 l4 l5 l6 : AV} {st : List AV} {x : Int} {σ : Sg} {Q : AV → Sg → Prop}  : Rn d m_X4_roll 91 [l0, l1, l2, l3, l4, l5, l6, vI x] st σ Q ↔ Rn d m_X4_roll 93 [l0, l1, l2, l3, l4, l5, l6, vI x] (vI x :: st) σ Q := q3 (show fnd (pgm m_X4_roll) 91 = some (93, 3, 0, 7, 1, []) from rfl) rfl
set_option maxRecDepth 100000 in
theorem s_X4_roll_93 {d : Nat} {l0 l1 l2 l3 l4 l5 l6 l7 : AV} {st : List AV} {σ : Sg} {Q : AV → Sg → Prop}  : Rn d m_X4_roll 93 [l0, l1, l2, l3, l4, l5, l6, l7] st σ Q ↔ Rn d m_X4_roll 94 [l0, l1, l2, l3, l4, l5, l6, l7] (vI (-1) :: st) σ Q := q0 (show fnd (pgm m_X4_roll) 93 = some (94, 0, (-1), 0, 0, []) from rfl)
set_option maxRecDepth 100000 in
theorem s_X4_roll_94 {d : Nat} {l0 l1 l2 l3 l4 l5 l6 l7 : AV} {st : List AV} {a b : Int} {σ : Sg} {Q : AV → Sg → Prop}  : Rn d m_X4_roll 94 [l0, l1, l2, l3, l4, l5, l6, l7] (vI b :: vI a :: st) σ Q ↔ if ¬ w32 a = w32 b then Rn d m_X4_roll 159 [l0, l1, l2, l3, l4, l5, l6, l7] st σ Q else Rn d m_X4_roll 97 [l0, l1, l2, l3, l4, l5, l6, l7] st σ Q := q20_1 (show fnd (pgm m_X4_roll) 94 = some (97, 20, 0, 1, 159, []) from rfl)
set_option maxRecDepth 100000 in
theorem s_X4_roll_97 {d : Nat} {l1 l2 l3 l4 l5 l6 l7 : AV} {st : List AV} {o : Nat} {σ : Sg} {Q : AV → Sg → Prop} (ho : o ≠ 0) : Rn d m_X4_roll 97 [vR o, l1, l2, l3, l4, l5, l6, l7] st σ Q ↔ Rn d m_X4_roll 98 [vR o, l1, l2, l3, l4, l5, l6, l7] (vR o :: st) σ Q := q5 (show fnd (pgm m_X4_roll) 97 = some (98, 5, 0, 0, 0, []) from rfl) rfl ho
set_option maxRecDepth 100000 in
theorem s_X4_roll_98 {d : Nat} {l1 l2 l3 l4 l5 l6 l7 : AV} {st : List AV} {o : Nat} {σ : Sg} {Q : AV → Sg → Prop} (ho : o ≠ 0) : Rn d m_X4_roll 98 [vR o, l1, l2, l3, l4, l5, l6, l7] st σ Q ↔ Rn d m_X4_roll 99 [vR o, l1, l2, l3, l4, l5, l6, l7] (vR o :: st) σ Q := q5 (show fnd (pgm m_X4_roll) 98 = some (99, 5, 0, 0, 0, []) from rfl) rfl ho
set_option maxRecDepth 100000 in
theorem s_X4_roll_99 {d : Nat} {l0 l1 l2 l3 l4 l5 l6 l7 : AV} {st : List AV} {o : Nat} {σ : Sg} {Q : AV → Sg → Prop} (hk : kn σ o = (0, 4)) : Rn d m_X4_roll 99 [l0, l1, l2, l3, l4, l5, l6, l7] (vR o :: st) σ Q ↔ Rn d m_X4_roll 102 [l0, l1, l2, l3, l4, l5, l6, l7] (vR (tp o 0) :: st) σ Q := q33 (show fnd (pgm m_X4_roll) 99 = some (102, 33, 9, 4, 0, []) from rfl) hk
set_option maxRecDepth 100000 in
theorem s_X4_roll_102 {d : Nat} {l0 l1 l3 l4 l5 l6 l7 : AV} {st : List AV} {x : Int} {σ : Sg} {Q : AV → Sg → Prop}  : Rn d m_X4_roll 102 [l0, l1, vI x, l3, l4, l5, l6, l7] st σ Q ↔ Rn d m_X4_roll 103 [l0, l1, vI x, l3, l4, l5, l6, l7] (vI x :: st) σ Q := q3 (show fnd (pgm m_X4_roll) 102 = some (103, 3, 0, 2, 0, []) from rfl) rfl
set_option maxRecDepth 100000 in
theorem s_X4_roll_103 {d : Nat} {l0 l1 l2 l3 l4 l5 l6 l7 : AV} {st : List AV} {i : Int} {o : Nat} {σ : Sg} {Q : AV → Sg → Prop} (hi : 0 ≤ w32 i ∧ w32 i < al σ 1 o) : Rn d m_X4_roll 103 [l0, l1, l2, l3, l4, l5, l6, l7] (vI i :: vR o :: st) σ Q ↔ Rn d m_X4_roll 104 [l0, l1, l2, l3, l4, l5, l6, l7] (vI (σ o (w32 i)) :: st) σ Q := q25 (show fnd (pgm m_X4_roll) 103 = some (104, 25, 0, 0, 0, []) from rfl) hi
set_option maxRecDepth 100000 in
theorem s_X4_roll_104 {d : Nat} {l0 l1 l3 l4 l5 l6 l7 : AV} {st : List AV} {x : Int} {σ : Sg} {Q : AV → Sg → Prop}  : Rn d m_X4_roll 104 [l0, l1, vI x, l3, l4, l5, l6, l7] st σ Q ↔ Rn d m_X4_roll 105 [l0, l1, vI x, l3, l4, l5, l6, l7] (vI x :: st) σ Q := q3 (show fnd (pgm m_X4_roll) 104 = some (105, 3, 0, 2, 0, []) from rfl) rfl
set_option maxRecDepth 100000 in
theorem s_X4_roll_105 {d : Nat} {l0 l1 l2 l4 l5 l6 l7 : AV} {st : List AV} {x : Int} {σ : Sg} {Q : AV → Sg → Prop}  : Rn d m_X4_roll 105 [l0, l1, l2, vI x, l4, l5, l6, l7] st σ Q ↔ Rn d m_X4_roll 106 [l0, l1, l2, vI x, l4, l5, l6, l7] (vI x :: st) σ Q := q3 (show fnd (pgm m_X4_roll) 105 = some (106, 3, 0, 3, 0, []) from rfl) rfl
set_option maxRecDepth 100000 in
theorem s_X4_roll_106 {d : Nat} {l0 l1 l2 l3 l4 l5 l6 l7 : AV} {st : List AV} {o : Nat} {a0 : Int} {a1 : Int} {a2 : Int} {σ : Sg} {Q : AV → Sg → Prop} (h4 : st.length ≤ 4) (hk : kn σ o = (0, 4)) : Rn d m_X4_roll 106 [l0, l1, l2, l3, l4, l5, l6, l7] (vI a2 :: vI a1 :: vI a0 :: vR o :: st) σ Q ↔ ∃ r σ1, Ev d m_X4_log [vR o, vI a0, vI a1, vI a2] σ r σ1 ∧ Rn d m_X4_roll 109 [l0, l1, l2, l3, l4, l5, l6, l7] (psh r st) σ1 Q := q35 (show fnd (pgm m_X4_roll) 106 = some (109, 35, 108, 43, 4, []) from rfl) ⟨⟨by simp, by simpa using h4⟩, (by simp only [List.take, List.reverse, List.reverseAux, rcv]; rw [if_neg (by decide +kernel)]; exact decide_eq_true hk)⟩
set_option maxRecDepth 100000 in
theorem s_X4_roll_109 {d : Nat} {l1 l2 l3 l4 l5 l6 l7 : AV} {st : List AV} {o : Nat} {σ : Sg} {Q : AV → Sg → Prop} (ho : o ≠ 0) : Rn d m_X4_roll 109 [vR o, l1, l2, l3, l4, l5, l6, l7] st σ Q ↔ Rn d m_X4_roll 110 [vR o, l1, l2, l3, l4, l5, l6, l7] (vR o :: st) σ Q := q5 (show fnd (pgm m_X4_roll) 109 = some (110, 5, 0, 0, 0, []) from rfl) rfl ho
set_option maxRecDepth 100000 in
theorem s_X4_roll_110 {d : Nat} {l0 l1 l2 l3 l4 l5 l6 l7 : AV} {st : List AV} {o : Nat} {σ : Sg} {Q : AV → Sg → Prop} (hk : kn σ o = (0, 4)) : Rn d m_X4_roll 110 [l0, l1, l2, l3, l4, l5, l6, l7] (vR o :: st) σ Q ↔ Rn d m_X4_roll 113 [l0, l1, l2, l3, l4, l5, l6, l7] (vR (tp o 0) :: st) σ Q := q33 (show fnd (pgm m_X4_roll) 110 = some (113, 33, 9, 4, 0, []) from rfl) hk
set_option maxRecDepth 100000 in
theorem s_X4_roll_113 {d : Nat} {l0 l1 l3 l4 l5 l6 l7 : AV} {st : List AV} {x : Int} {σ : Sg} {Q : AV → Sg → Prop}  : Rn d m_X4_roll 113 [l0, l1, vI x, l3, l4, l5, l6, l7] st σ Q ↔ Rn d m_X4_roll 114 [l0, l1, vI x, l3, l4, l5, l6, l7] (vI x :: st) σ Q := q3 (show fnd (pgm m_X4_roll) 113 = some (114, 3, 0, 2, 0, []) from rfl) rfl
set_option maxRecDepth 100000 in
theorem s_X4_roll_114 {d : Nat} {l0 l1 l2 l3 l4 l5 l7 : AV} {st : List AV} {x : Int} {σ : Sg} {Q : AV → Sg → Prop}  : Rn d m_X4_roll 114 [l0, l1, l2, l3, l4, l5, vI x, l7] st σ Q ↔ Rn d m_X4_roll 116 [l0, l1, l2, l3, l4, l5, vI x, l7] (vI x :: st) σ Q := q3 (show fnd (pgm m_X4_roll) 114 = some (116, 3, 0, 6, 1, []) from rfl) rfl
set_option maxRecDepth 100000 in
theorem s_X4_roll_116 {d : Nat} {l0 l1 l2 l3 l4 l5 l6 l7 : AV} {st : List AV} {i x : Int} {o : Nat} {σ : Sg} {Q : AV → Sg → Prop} (hi : 0 ≤ w32 i ∧ w32 i < al σ 1 o) : Rn d m_X4_roll 116 [l0, l1, l2, l3, l4, l5, l6, l7] (vI x :: vI i :: vR o :: st) σ Q ↔ Rn d m_X4_roll 117 [l0, l1, l2, l3, l4, l5, l6, l7] st (up σ o (w32 i) x) Q := q29 (show fnd (pgm m_X4_roll) 116 = some (117, 29, 0, 0, 0, []) from rfl) hi
set_option maxRecDepth 100000 in
theorem s_X4_roll_117 {d : Nat} {l1 l2 l3 l4 l5 l6 l7 : AV} {st : List AV} {o : Nat} {σ : Sg} {Q : AV → Sg → Prop} (ho : o ≠ 0) : Rn d m_X4_roll 117 [vR o, l1, l2, l3, l4, l5, l6, l7] st σ Q ↔ Rn d m_X4_roll 118 [vR o, l1, l2, l3, l4, l5, l6, l7] (vR o :: st) σ Q := q5 (show fnd (pgm m_X4_roll) 117 = some (118, 5, 0, 0, 0, []) from rfl) rfl ho
set_option maxRecDepth 100000 in
theorem s_X4_roll_118 {d : Nat} {l0 l1 l2 l3 l4 l5 l6 l7 : AV} {st : List AV} {o : Nat} {σ : Sg} {Q : AV → Sg → Prop} (hk : kn σ o = (0, 4)) : Rn d m_X4_roll 118 [l0, l1, l2, l3, l4, l5, l6, l7] (vR o :: st) σ Q ↔ Rn d m_X4_roll 121 [l0, l1, l2, l3, l4, l5, l6, l7] (vR (σ o 8).toNat :: st) σ Q := q33 (show fnd (pgm m_X4_roll) 118 = some (121, 33, 38, 4, 8, []) from rfl) hk
set_option maxRecDepth 100000 in
theorem s_X4_roll_121 {d : Nat} {l0 l1 l2 l3 l4 l5 l6 l7 : AV} {st : List AV} {o : Nat} {σ : Sg} {Q : AV → Sg → Prop} (hk : kn σ o = (0, 0)) : Rn d m_X4_roll 121 [l0, l1, l2, l3, l4, l5, l6, l7] (vR o :: st) σ Q ↔ Rn d m_X4_roll 124 [l0, l1, l2, l3, l4, l5, l6, l7] (vR (tp o 5) :: st) σ Q := q33 (show fnd (pgm m_X4_roll) 121 = some (124, 33, 112, 0, 5, []) from rfl) hk
set_option maxRecDepth 100000 in
theorem s_X4_roll_124 {d : Nat} {l0 l1 l2 l3 l4 l5 l7 : AV} {st : List AV} {x : Int} {σ : Sg} {Q : AV → Sg → Prop}  : Rn d m_X4_roll 124 [l0, l1, l2, l3, l4, l5, vI x, l7] st σ Q ↔ Rn d m_X4_roll 126 [l0, l1, l2, l3, l4, l5, vI x, l7] (vI x :: st) σ Q := q3 (show fnd (pgm m_X4_roll) 124 = some (126, 3, 0, 6, 1, []) from rfl) rfl
set_option maxRecDepth 100000 in
theorem s_X4_roll_126 {d : Nat} {l0 l1 l2 l3 l4 l5 l6 l7 : AV} {st : List AV} {i : Int} {o : Nat} {σ : Sg} {Q : AV → Sg → Prop} (hi : 0 ≤ w32 i ∧ w32 i < al σ 1 o) : Rn d m_X4_roll 126 [l0, l1, l2, l3, l4, l5, l6, l7] (vI i :: vR o :: st) σ Q ↔ Rn d m_X4_roll 127 [l0, l1, l2, l3, l4, l5, l6, l7] (vI (σ o (w32 i)) :: st) σ Q := q25 (show fnd (pgm m_X4_roll) 126 = some (127, 25, 0, 0, 0, []) from rfl) hi
set_option maxRecDepth 100000 in
theorem s_X4_roll_127 {d : Nat} {l0 l1 l2 l3 l4 l5 l6 l7 : AV} {st : List AV} {σ : Sg} {Q : AV → Sg → Prop}  : Rn d m_X4_roll 127 [l0, l1, l2, l3, l4, l5, l6, l7] st σ Q ↔ Rn d m_X4_roll 128 [l0, l1, l2, l3, l4, l5, l6, l7] (vI 3 :: st) σ Q := q0 (show fnd (pgm m_X4_roll) 127 = some (128, 0, 3, 0, 0, []) from rfl)
set_option maxRecDepth 100000 in
theorem s_X4_roll_128 {d : Nat} {l0 l1 l2 l3 l4 l5 l6 l7 : AV} {st : List AV} {a b : Int} {σ : Sg} {Q : AV → Sg → Prop}  : Rn d m_X4_roll 128 [l0, l1, l2, l3, l4, l5, l6, l7] (vI b :: vI a :: st) σ Q ↔ if ¬ w32 a = w32 b then Rn d m_X4_roll 135 [l0, l1, l2, l3, l4, l5, l6, l7] st σ Q else Rn d m_X4_roll 131 [l0, l1, l2, l3, l4, l5, l6, l7] st σ Q := q20_1 (show fnd (pgm m_X4_roll) 128 = some (131, 20, 0, 1, 135, []) from rfl)
set_option maxRecDepth 100000 in
theorem s_X4_roll_131 {d : Nat} {l0 l1 l2 l3 l4 l5 l6 l7 : AV} {st : List AV} {σ : Sg} {Q : AV → Sg → Prop}  : Rn d m_X4_roll 131 [l0, l1, l2, l3, l4, l5, l6, l7] st σ Q ↔ Rn d m_X4_roll 132 [l0, l1, l2, l3, l4, l5, l6, l7] (vI 0 :: st) σ Q := q0 (show fnd (pgm m_X4_roll) 131 = some (132, 0, 0, 0, 0, []) from rfl)
set_option maxRecDepth 100000 in
theorem s_X4_roll_132 {d : Nat} {l0 l1 l2 l3 l4 l5 l6 l7 : AV} {st : List AV} {σ : Sg} {Q : AV → Sg → Prop}  : Rn d m_X4_roll 132 [l0, l1, l2, l3, l4, l5, l6, l7] st σ Q ↔ Rn d m_X4_roll 139 [l0, l1, l2, l3, l4, l5, l6, l7] st σ Q := q21 (show fnd (pgm m_X4_roll) 132 = some (135, 21, 0, 0, 139, []) from rfl)
set_option maxRecDepth 100000 in
theorem s_X4_roll_135 {d : Nat} {l0 l1 l2 l3 l5 l6 l7 : AV} {st : List AV} {x : Int} {σ : Sg} {Q : AV → Sg → Prop}  : Rn d m_X4_roll 135 [l0, l1, l2, l3, vI x, l5, l6, l7] st σ Q ↔ Rn d m_X4_roll 137 [l0, l1, l2, l3, vI x, l5, l6, l7] (vI x :: st) σ Q := q3 (show fnd (pgm m_X4_roll) 135 = some (137, 3, 0, 4, 1, []) from rfl) rfl
set_option maxRecDepth 100000 in
theorem s_X4_roll_137 {d : Nat} {l0 l1 l2 l3 l4 l5 l6 l7 : AV} {st : List AV} {σ : Sg} {Q : AV → Sg → Prop}  : Rn d m_X4_roll 137 [l0, l1, l2, l3, l4, l5, l6, l7] st σ Q ↔ Rn d m_X4_roll 138 [l0, l1, l2, l3, l4, l5, l6, l7] (vI 1 :: st) σ Q := q0 (show fnd (pgm m_X4_roll) 137 = some (138, 0, 1, 0, 0, []) from rfl)
set_option maxRecDepth 100000 in
theorem s_X4_roll_138 {d : Nat} {l0 l1 l2 l3 l4 l5 l6 l7 : AV} {st : List AV} {a b : Int} {σ : Sg} {Q : AV → Sg → Prop}  : Rn d m_X4_roll 138 [l0, l1, l2, l3, l4, l5, l6, l7] (vI b :: vI a :: st) σ Q ↔ Rn d m_X4_roll 139 [l0, l1, l2, l3, l4, l5, l6, l7] (vI (a - b) :: st) σ Q := q10_1 (show fnd (pgm m_X4_roll) 138 = some (139, 10, 0, 1, 0, []) from rfl)
set_option maxRecDepth 100000 in
theorem s_X4_roll_139 {d : Nat} {l0 l1 l2 l3 l4 l5 l6 l7 : AV} {st : List AV} {x : Int} {σ : Sg} {Q : AV → Sg → Prop}  : Rn d m_X4_roll 139 [l0, l1, l2, l3, l4, l5, l6, l7] (vI x :: st) σ Q ↔ Rn d m_X4_roll 141 [l0, l1, l2, l3, vI x, l5, l6, l7] st σ Q := q6 (show fnd (pgm m_X4_roll) 139 = some (141, 6, 0, 4, 1, []) from rfl) (by decide : 4 < 8)
set_option maxRecDepth 100000 in
theorem s_X4_roll_141 {d : Nat} {l0 l1 l2 l4 l5 l6 l7 : AV} {st : List AV} {x : Int} {σ : Sg} {Q : AV → Sg → Prop}  : Rn d m_X4_roll 141 [l0, l1, l2, vI x, l4, l5, l6, l7] st σ Q ↔ Rn d m_X4_roll 142 [l0, l1, l2, vI x, l4, l5, l6, l7] (vI x :: st) σ Q := q3 (show fnd (pgm m_X4_roll) 141 = some (142, 3, 0, 3, 0, []) from rfl) rfl
set_option maxRecDepth 100000 in
theorem s_X4_roll_142 {d : Nat} {l1 l2 l3 l4 l5 l6 l7 : AV} {st : List AV} {o : Nat} {σ : Sg} {Q : AV → Sg → Prop} (ho : o ≠ 0) : Rn d m_X4_roll 142 [vR o, l1, l2, l3, l4, l5, l6, l7] st σ Q ↔ Rn d m_X4_roll 143 [vR o, l1, l2, l3, l4, l5, l6, l7] (vR o :: st) σ Q := q5 (show fnd (pgm m_X4_roll) 142 = some (143, 5, 0, 0, 0, []) from rfl) rfl ho
set_option maxRecDepth 100000 in
theorem s_X4_roll_143 {d : Nat} {l0 l1 l2 l3 l4 l5 l6 l7 : AV} {st : List AV} {o : Nat} {σ : Sg} {Q : AV → Sg → Prop} (hk : kn σ o = (0, 4)) : Rn d m_X4_roll 143 [l0, l1, l2, l3, l4, l5, l6, l7] (vR o :: st) σ Q ↔ Rn d m_X4_roll 146 [l0, l1, l2, l3, l4, l5, l6, l7] (vR (σ o 8).toNat :: st) σ Q := q33 (show fnd (pgm m_X4_roll) 143 = some (146, 33, 38, 4, 8, []) from rfl) hk
set_option maxRecDepth 100000 in
theorem s_X4_roll_146 {d : Nat} {l0 l1 l2 l3 l4 l5 l6 l7 : AV} {st : List AV} {o : Nat} {σ : Sg} {Q : AV → Sg → Prop} (hk : kn σ o = (0, 0)) : Rn d m_X4_roll 146 [l0, l1, l2, l3, l4, l5, l6, l7] (vR o :: st) σ Q ↔ Rn d m_X4_roll 149 [l0, l1, l2, l3, l4, l5, l6, l7] (vR (tp o 5) :: st) σ Q := q33 (show fnd (pgm m_X4_roll) 146 = some (149, 33, 112, 0, 5, []) from rfl) hk
set_option maxRecDepth 100000 in
theorem s_X4_roll_149 {d : Nat} {l0 l1 l2 l3 l4 l5 l7 : AV} {st : List AV} {x : Int} {σ : Sg} {Q : AV → Sg → Prop}  : Rn d m_X4_roll 149 [l0, l1, l2, l3, l4, l5, vI x, l7] st σ Q ↔ Rn d m_X4_roll 151 [l0, l1, l2, l3, l4, l5, vI x, l7] (vI x :: st) σ Q := q3 (show fnd (pgm m_X4_roll) 149 = some (151, 3, 0, 6, 1, []) from rfl) rfl
set_option maxRecDepth 100000 in
theorem s_X4_roll_151 {d : Nat} {l0 l1 l2 l3 l4 l5 l6 l7 : AV} {st : List AV} {i : Int} {o : Nat} {σ : Sg} {Q : AV → Sg → Prop} (hi : 0 ≤ w32 i ∧ w32 i < al σ 1 o) : Rn d m_X4_roll 151 [l0, l1, l2, l3, l4, l5, l6, l7] (vI i :: vR o :: st) σ Q ↔ Rn d m_X4_roll 152 [l0, l1, l2, l3, l4, l5, l6, l7] (vI (σ o (w32 i)) :: st) σ Q := q25 (show fnd (pgm m_X4_roll) 151 = some (152, 25, 0, 0, 0, []) from rfl) hi
set_option maxRecDepth 100000 in
theorem s_X4_roll_152 {d : Nat} {l0 l1 l2 l3 l4 l5 l6 l7 : AV} {st : List AV}  {a0 : Int} {a1 : Int} {σ : Sg} {Q : AV → Sg → Prop} (h4 : st.length ≤ 4) : Rn d m_X4_roll 152 [l0, l1, l2, l3, l4, l5, l6, l7] (vI a1 :: vI a0 :: st) σ Q ↔ ∃ r σ1, Ev d m_X4_turned [vI a0, vI a1] σ r σ1 ∧ Rn d m_X4_roll 155 [l0, l1, l2, l3, l4, l5, l6, l7] (psh r st) σ1 Q := q35 (show fnd (pgm m_X4_roll) 152 = some (155, 35, 115, 40, 2, []) from rfl) ⟨⟨by simp, by simpa using h4⟩, rfl⟩
set_option maxRecDepth 100000 in
theorem s_X4_roll_155 {d : Nat} {l0 l1 l2 l3 l4 l5 l6 l7 : AV} {st : List AV} {x : Int} {σ : Sg} {Q : AV → Sg → Prop}  : Rn d m_X4_roll 155 [l0, l1, l2, l3, l4, l5, l6, l7] (vI x :: st) σ Q ↔ Rn d m_X4_roll 156 [l0, l1, l2, vI x, l4, l5, l6, l7] st σ Q := q6 (show fnd (pgm m_X4_roll) 155 = some (156, 6, 0, 3, 0, []) from rfl) (by decide : 3 < 8)
set_option maxRecDepth 100000 in
theorem s_X4_roll_156 {d : Nat} {l0 l1 l2 l3 l4 l5 l6 l7 : AV} {st : List AV} {σ : Sg} {Q : AV → Sg → Prop}  : Rn d m_X4_roll 156 [l0, l1, l2, l3, l4, l5, l6, l7] st σ Q ↔ Rn d m_X4_roll 203 [l0, l1, l2, l3, l4, l5, l6, l7] st σ Q := q21 (show fnd (pgm m_X4_roll) 156 = some (159, 21, 0, 0, 203, []) from rfl)
set_option maxRecDepth 100000 in
theorem s_X4_roll_159 {d : Nat} {l1 l2 l3 l4 l5 l6 l7 : AV} {st : List AV} {o : Nat} {σ : Sg} {Q : AV → Sg → Prop} (ho : o ≠ 0) : Rn d m_X4_roll 159 [vR o, l1, l2, l3, l4, l5, l6, l7] st σ Q ↔ Rn d m_X4_roll 160 [vR o, l1, l2, l3, l4, l5, l6, l7] (vR o :: st) σ Q := q5 (show fnd (pgm m_X4_roll) 159 = some (160, 5, 0, 0, 0, []) from rfl) rfl ho
set_option maxRecDepth 100000 in
theorem s_X4_roll_160 {d : Nat} {l0 l1 l2 l3 l4 l5 l6 l7 : AV} {st : List AV} {o : Nat} {σ : Sg} {Q : AV → Sg → Prop} (hk : kn σ o = (0, 4)) : Rn d m_X4_roll 160 [l0, l1, l2, l3, l4, l5, l6, l7] (vR o :: st) σ Q ↔ Rn d m_X4_roll 163 [l0, l1, l2, l3, l4, l5, l6, l7] (vI (σ o 12) :: st) σ Q := q33 (show fnd (pgm m_X4_roll) 160 = some (163, 33, 51, 4, 12, []) from rfl) hk
set_option maxRecDepth 100000 in
theorem s_X4_roll_163 {d : Nat} {l1 l2 l3 l4 l5 l6 l7 : AV} {st : List AV} {o : Nat} {σ : Sg} {Q : AV → Sg → Prop} (ho : o ≠ 0) : Rn d m_X4_roll 163 [vR o, l1, l2, l3, l4, l5, l6, l7] st σ Q ↔ Rn d m_X4_roll 164 [vR o, l1, l2, l3, l4, l5, l6, l7] (vR o :: st) σ Q := q5 (show fnd (pgm m_X4_roll) 163 = some (164, 5, 0, 0, 0, []) from rfl) rfl ho
set_option maxRecDepth 100000 in
theorem s_X4_roll_164 {d : Nat} {l0 l1 l2 l3 l4 l5 l6 l7 : AV} {st : List AV} {o : Nat} {σ : Sg} {Q : AV → Sg → Prop} (hk : kn σ o = (0, 4)) : Rn d m_X4_roll 164 [l0, l1, l2, l3, l4, l5, l6, l7] (vR o :: st) σ Q ↔ Rn d m_X4_roll 167 [l0, l1, l2, l3, l4, l5, l6, l7] (vR (σ o 8).toNat :: st) σ Q := q33 (show fnd (pgm m_X4_roll) 164 = some (167, 33, 38, 4, 8, []) from rfl) hk
set_option maxRecDepth 100000 in
theorem s_X4_roll_167 {d : Nat} {l0 l1 l2 l3 l4 l5 l6 l7 : AV} {st : List AV} {o : Nat} {σ : Sg} {Q : AV → Sg → Prop} (hk : kn σ o = (0, 0)) : Rn d m_X4_roll 167 [l0, l1, l2, l3, l4, l5, l6, l7] (vR o :: st) σ Q ↔ Rn d m_X4_roll 170 [l0, l1, l2, l3, l4, l5, l6, l7] (vR (tp o 4) :: st) σ Q := q33 (show fnd (pgm m_X4_roll) 167 = some (170, 33, 118, 0, 4, []) from rfl) hk
set_option maxRecDepth 100000 in
theorem s_X4_roll_170 {d : Nat} {l0 l1 l2 l3 l4 l5 l6 l7 : AV} {st : List AV} {σ : Sg} {Q : AV → Sg → Prop}  : Rn d m_X4_roll 170 [l0, l1, l2, l3, l4, l5, l6, l7] st σ Q ↔ Rn d m_X4_roll 171 [l0, l1, l2, l3, l4, l5, l6, l7] (vI 4 :: st) σ Q := q0 (show fnd (pgm m_X4_roll) 170 = some (171, 0, 4, 0, 0, []) from rfl)
set_option maxRecDepth 100000 in
theorem s_X4_roll_171 {d : Nat} {l0 l1 l2 l3 l4 l5 l6 : AV} {st : List AV} {x : Int} {σ : Sg} {Q : AV → Sg → Prop}  : Rn d m_X4_roll 171 [l0, l1, l2, l3, l4, l5, l6, vI x] st σ Q ↔ Rn d m_X4_roll 173 [l0, l1, l2, l3, l4, l5, l6, vI x] (vI x :: st) σ Q := q3 (show fnd (pgm m_X4_roll) 171 = some (173, 3, 0, 7, 1, []) from rfl) rfl
set_option maxRecDepth 100000 in
theorem s_X4_roll_173 {d : Nat} {l0 l1 l2 l3 l4 l5 l6 l7 : AV} {st : List AV} {a b : Int} {σ : Sg} {Q : AV → Sg → Prop}  : Rn d m_X4_roll 173 [l0, l1, l2, l3, l4, l5, l6, l7] (vI b :: vI a :: st) σ Q ↔ Rn d m_X4_roll 174 [l0, l1, l2, l3, l4, l5, l6, l7] (vI (a * b) :: st) σ Q := q10_2 (show fnd (pgm m_X4_roll) 173 = some (174, 10, 0, 2, 0, []) from rfl)
set_option maxRecDepth 100000 in
theorem s_X4_roll_174 {d : Nat} {l0 l1 l2 l4 l5 l6 l7 : AV} {st : List AV} {x : Int} {σ : Sg} {Q : AV → Sg → Prop}  : Rn d m_X4_roll 174 [l0, l1, l2, vI x, l4, l5, l6, l7] st σ Q ↔ Rn d m_X4_roll 175 [l0, l1, l2, vI x, l4, l5, l6, l7] (vI x :: st) σ Q := q3 (show fnd (pgm m_X4_roll) 174 = some (175, 3, 0, 3, 0, []) from rfl) rfl
set_option maxRecDepth 100000 in
theorem s_X4_roll_175 {d : Nat} {l0 l1 l2 l3 l4 l5 l6 l7 : AV} {st : List AV} {a b : Int} {σ : Sg} {Q : AV → Sg → Prop}  : Rn d m_X4_roll 175 [l0, l1, l2, l3, l4, l5, l6, l7] (vI b :: vI a :: st) σ Q ↔ Rn d m_X4_roll 176 [l0, l1, l2, l3, l4, l5, l6, l7] (vI (a + b) :: st) σ Q := q10_0 (show fnd (pgm m_X4_roll) 175 = some (176, 10, 0, 0, 0, []) from rfl)
set_option maxRecDepth 100000 in
theorem s_X4_roll_176 {d : Nat} {l0 l1 l2 l3 l4 l5 l6 l7 : AV} {st : List AV} {i : Int} {o : Nat} {σ : Sg} {Q : AV → Sg → Prop} (hi : 0 ≤ w32 i ∧ w32 i < al σ 1 o) : Rn d m_X4_roll 176 [l0, l1, l2, l3, l4, l5, l6, l7] (vI i :: vR o :: st) σ Q ↔ Rn d m_X4_roll 177 [l0, l1, l2, l3, l4, l5, l6, l7] (vI (σ o (w32 i)) :: st) σ Q := q25 (show fnd (pgm m_X4_roll) 176 = some (177, 25, 0, 0, 0, []) from rfl) hi
set_option maxRecDepth 100000 in
theorem s_X4_roll_177 {d : Nat} {l0 l1 l2 l3 l4 l5 l6 l7 : AV} {st : List AV} {a b : Int} {σ : Sg} {Q : AV → Sg → Prop}  : Rn d m_X4_roll 177 [l0, l1, l2, l3, l4, l5, l6, l7] (vI b :: vI a :: st) σ Q ↔ if w32 a < w32 b then Rn d m_X4_roll 202 [l0, l1, l2, l3, l4, l5, l6, l7] st σ Q else Rn d m_X4_roll 180 [l0, l1, l2, l3, l4, l5, l6, l7] st σ Q := q20_2 (show fnd (pgm m_X4_roll) 177 = some (180, 20, 0, 2, 202, []) from rfl)
set_option maxRecDepth 100000 in
theorem s_X4_roll_180 {d : Nat} {l1 l2 l3 l4 l5 l6 l7 : AV} {st : List AV} {o : Nat} {σ : Sg} {Q : AV → Sg → Prop} (ho : o ≠ 0) : Rn d m_X4_roll 180 [vR o, l1, l2, l3, l4, l5, l6, l7] st σ Q ↔ Rn d m_X4_roll 181 [vR o, l1, l2, l3, l4, l5, l6, l7] (vR o :: st) σ Q := q5 (show fnd (pgm m_X4_roll) 180 = some (181, 5, 0, 0, 0, []) from rfl) rfl ho
set_option maxRecDepth 100000 in
theorem s_X4_roll_181 {d : Nat} {l0 l1 l2 l3 l4 l5 l6 l7 : AV} {st : List AV} {o : Nat} {σ : Sg} {Q : AV → Sg → Prop} (hk : kn σ o = (0, 4)) : Rn d m_X4_roll 181 [l0, l1, l2, l3, l4, l5, l6, l7] (vR o :: st) σ Q ↔ Rn d m_X4_roll 184 [l0, l1, l2, l3, l4, l5, l6, l7] (vR (tp o 2) :: st) σ Q := q33 (show fnd (pgm m_X4_roll) 181 = some (184, 33, 18, 4, 2, []) from rfl) hk
set_option maxRecDepth 100000 in
theorem s_X4_roll_184 {d : Nat} {l1 l2 l3 l4 l5 l6 l7 : AV} {st : List AV} {o : Nat} {σ : Sg} {Q : AV → Sg → Prop} (ho : o ≠ 0) : Rn d m_X4_roll 184 [vR o, l1, l2, l3, l4, l5, l6, l7] st σ Q ↔ Rn d m_X4_roll 185 [vR o, l1, l2, l3, l4, l5, l6, l7] (vR o :: st) σ Q := q5 (show fnd (pgm m_X4_roll) 184 = some (185, 5, 0, 0, 0, []) from rfl) rfl ho
set_option maxRecDepth 100000 in
theorem s_X4_roll_185 {d : Nat} {l0 l1 l2 l3 l4 l5 l6 l7 : AV} {st : List AV} {o : Nat} {σ : Sg} {Q : AV → Sg → Prop} (hk : kn σ o = (0, 4)) : Rn d m_X4_roll 185 [l0, l1, l2, l3, l4, l5, l6, l7] (vR o :: st) σ Q ↔ Rn d m_X4_roll 188 [l0, l1, l2, l3, l4, l5, l6, l7] (vI (σ o 10) :: st) σ Q := q33 (show fnd (pgm m_X4_roll) 185 = some (188, 33, 45, 4, 10, []) from rfl) hk
set_option maxRecDepth 100000 in
theorem s_X4_roll_188 {d : Nat} {l0 l1 l2 l3 l4 l5 l6 l7 : AV} {st : List AV} {a : Int} {o : Nat} {σ : Sg} {Q : AV → Sg → Prop}  : Rn d m_X4_roll 188 [l0, l1, l2, l3, l4, l5, l6, l7] (vI a :: vR o :: st) σ Q ↔ Rn d m_X4_roll 189 [l0, l1, l2, l3, l4, l5, l6, l7] (vI a :: vR o :: vI a :: vR o :: st) σ Q := q18 (show fnd (pgm m_X4_roll) 188 = some (189, 18, 0, 0, 0, []) from rfl)
set_option maxRecDepth 100000 in
theorem s_X4_roll_189 {d : Nat} {l0 l1 l2 l3 l4 l5 l6 l7 : AV} {st : List AV} {i : Int} {o : Nat} {σ : Sg} {Q : AV → Sg → Prop} (hi : 0 ≤ w32 i ∧ w32 i < al σ 1 o) : Rn d m_X4_roll 189 [l0, l1, l2, l3, l4, l5, l6, l7] (vI i :: vR o :: st) σ Q ↔ Rn d m_X4_roll 190 [l0, l1, l2, l3, l4, l5, l6, l7] (vI (σ o (w32 i)) :: st) σ Q := q25 (show fnd (pgm m_X4_roll) 189 = some (190, 25, 0, 0, 0, []) from rfl) hi
set_option maxRecDepth 100000 in
theorem s_X4_roll_190 {d : Nat} {l0 l1 l2 l3 l4 l5 l6 l7 : AV} {st : List AV} {σ : Sg} {Q : AV → Sg → Prop}  : Rn d m_X4_roll 190 [l0, l1, l2, l3, l4, l5, l6, l7] st σ Q ↔ Rn d m_X4_roll 191 [l0, l1, l2, l3, l4, l5, l6, l7] (vI 1 :: st) σ Q := q0 (show fnd (pgm m_X4_roll) 190 = some (191, 0, 1, 0, 0, []) from rfl)
set_option maxRecDepth 100000 in
theorem s_X4_roll_191 {d : Nat} {l0 l1 l2 l3 l4 l5 l6 : AV} {st : List AV} {x : Int} {σ : Sg} {Q : AV → Sg → Prop}  : Rn d m_X4_roll 191 [l0, l1, l2, l3, l4, l5, l6, vI x] st σ Q ↔ Rn d m_X4_roll 193 [l0, l1, l2, l3, l4, l5, l6, vI x] (vI x :: st) σ Q := q3 (show fnd (pgm m_X4_roll) 191 = some (193, 3, 0, 7, 1, []) from rfl) rfl
set_option maxRecDepth 100000 in
theorem s_X4_roll_193 {d : Nat} {l0 l1 l2 l3 l4 l5 l6 l7 : AV} {st : List AV} {a b : Int} {σ : Sg} {Q : AV → Sg → Prop}  : Rn d m_X4_roll 193 [l0, l1, l2, l3, l4, l5, l6, l7] (vI b :: vI a :: st) σ Q ↔ Rn d m_X4_roll 194 [l0, l1, l2, l3, l4, l5, l6, l7] (vI (shl32 a b) :: st) σ Q := q10_8 (show fnd (pgm m_X4_roll) 193 = some (194, 10, 0, 8, 0, []) from rfl)
set_option maxRecDepth 100000 in
theorem s_X4_roll_194 {d : Nat} {l0 l1 l2 l3 l4 l5 l6 l7 : AV} {st : List AV} {a b : Int} {σ : Sg} {Q : AV → Sg → Prop}  : Rn d m_X4_roll 194 [l0, l1, l2, l3, l4, l5, l6, l7] (vI b :: vI a :: st) σ Q ↔ Rn d m_X4_roll 195 [l0, l1, l2, l3, l4, l5, l6, l7] (vI (or32 a b) :: st) σ Q := q10_6 (show fnd (pgm m_X4_roll) 194 = some (195, 10, 0, 6, 0, []) from rfl)
set_option maxRecDepth 100000 in
theorem s_X4_roll_195 {d : Nat} {l0 l1 l2 l3 l4 l5 l6 l7 : AV} {st : List AV} {i x : Int} {o : Nat} {σ : Sg} {Q : AV → Sg → Prop} (hi : 0 ≤ w32 i ∧ w32 i < al σ 1 o) : Rn d m_X4_roll 195 [l0, l1, l2, l3, l4, l5, l6, l7] (vI x :: vI i :: vR o :: st) σ Q ↔ Rn d m_X4_roll 196 [l0, l1, l2, l3, l4, l5, l6, l7] st (up σ o (w32 i) x) Q := q29 (show fnd (pgm m_X4_roll) 195 = some (196, 29, 0, 0, 0, []) from rfl) hi
set_option maxRecDepth 100000 in
theorem s_X4_roll_196 {d : Nat} {l0 l1 l2 l3 l4 l5 l6 : AV} {st : List AV} {x : Int} {σ : Sg} {Q : AV → Sg → Prop}  : Rn d m_X4_roll 196 [l0, l1, l2, l3, l4, l5, l6, vI x] st σ Q ↔ Rn d m_X4_roll 198 [l0, l1, l2, l3, l4, l5, l6, vI x] (vI x :: st) σ Q := q3 (show fnd (pgm m_X4_roll) 196 = some (198, 3, 0, 7, 1, []) from rfl) rfl
set_option maxRecDepth 100000 in
theorem s_X4_roll_198 {d : Nat} {l0 l1 l2 l3 l4 l5 l6 l7 : AV} {st : List AV} {x : Int} {σ : Sg} {Q : AV → Sg → Prop}  : Rn d m_X4_roll 198 [l0, l1, l2, l3, l4, l5, l6, l7] (vI x :: st) σ Q ↔ Rn d m_X4_roll 199 [l0, l1, vI x, l3, l4, l5, l6, l7] st σ Q := q6 (show fnd (pgm m_X4_roll) 198 = some (199, 6, 0, 2, 0, []) from rfl) (by decide : 2 < 8)
set_option maxRecDepth 100000 in
theorem s_X4_roll_199 {d : Nat} {l0 l1 l2 l3 l4 l5 l6 l7 : AV} {st : List AV} {σ : Sg} {Q : AV → Sg → Prop}  : Rn d m_X4_roll 199 [l0, l1, l2, l3, l4, l5, l6, l7] st σ Q ↔ Rn d m_X4_roll 203 [l0, l1, l2, l3, l4, l5, l6, l7] st σ Q := q21 (show fnd (pgm m_X4_roll) 199 = some (202, 21, 0, 0, 203, []) from rfl)
set_option maxRecDepth 100000 in
theorem s_X4_roll_202 {d : Nat} {l0 l1 l2 l3 l4 l5 l6 l7 : AV} {σ : Sg} {Q : AV → Sg → Prop}  : Rn d m_X4_roll 202 [l0, l1, l2, l3, l4, l5, l6, l7] [] σ Q ↔ Q none σ := q37_0 (st := []) (show fnd (pgm m_X4_roll) 202 = some (203, 37, 0, 0, 0, []) from rfl)
set_option maxRecDepth 100000 in
theorem s_X4_roll_203 {d : Nat} {l0 l1 l2 l3 l4 l6 l7 : AV} {st : List AV} {x : Int} {σ : Sg} {Q : AV → Sg → Prop}  : Rn d m_X4_roll 203 [l0, l1, l2, l3, l4, vI x, l6, l7] st σ Q ↔ Rn d m_X4_roll 206 [l0, l1, l2, l3, l4, vI (x + 1), l6, l7] st σ Q := q9 (show fnd (pgm m_X4_roll) 203 = some (206, 9, 1, 5, 0, []) from rfl) rfl
set_option maxRecDepth 100000 in
theorem s_X4_roll_206 {d : Nat} {l0 l1 l2 l3 l4 l5 l6 l7 : AV} {st : List AV} {σ : Sg} {Q : AV → Sg → Prop}  : Rn d m_X4_roll 206 [l0, l1, l2, l3, l4, l5, l6, l7] st σ Q ↔ Rn d m_X4_roll 33 [l0, l1, l2, l3, l4, l5, l6, l7] st σ Q := q21 (show fnd (pgm m_X4_roll) 206 = some (209, 21, 0, 0, 33, []) from rfl)
set_option maxRecDepth 100000 in
theorem s_X4_roll_209 {d : Nat} {l0 l1 l2 l3 l4 l5 l6 l7 : AV} {σ : Sg} {Q : AV → Sg → Prop}  : Rn d m_X4_roll 209 [l0, l1, l2, l3, l4, l5, l6, l7] [] σ Q ↔ Q none σ := q37_0 (st := []) (show fnd (pgm m_X4_roll) 209 = some (210, 37, 0, 0, 0, []) from rfl)
set_option maxRecDepth 100000 in
theorem en_X4_turned {d : Nat} {a0 : Int} {a1 : Int} {σ σ0 : Sg} {r0 : AV} (h : Rn d m_X4_turned 0 [vI a0, vI a1] [] σ (fun r σ1 => r = r0 ∧ σ1 = σ0)) : Ev (d + 1) m_X4_turned [vI a0, vI a1] σ r0 σ0 := Ev_is (Nat.le_of_ble_eq_true rfl) h
set_option maxRecDepth 100000 in
theorem eo_X4_turned {d : Nat} {a0 : Int} {a1 : Int} {σ : Sg} {Q : AV → Sg → Prop} (h : Rn d m_X4_turned 0 [vI a0, vI a1] [] σ Q) : ∃ r σ1, Ev (d + 1) m_X4_turned [vI a0, vI a1] σ r σ1 ∧ Q r σ1 := Ev_of (Nat.le_of_ble_eq_true rfl) h
set_option maxRecDepth 100000 in
theorem s_X4_turned_0 {d : Nat} {l0 : AV} {st : List AV} {x : Int} {σ : Sg} {Q : AV → Sg → Prop}  : Rn d m_X4_turned 0 [l0, vI x] st σ Q ↔ Rn d m_X4_turned 1 [l0, vI x] (vI x :: st) σ Q := q3 (show fnd (pgm m_X4_turned) 0 = some (1, 3, 0, 1, 0, []) from rfl) rfl
set_option maxRecDepth 100000 in
theorem s_X4_turned_1 {d : Nat} {l0 l1 : AV} {st : List AV} {a : Int} {σ : Sg} {Q : AV → Sg → Prop}  : Rn d m_X4_turned 1 [l0, l1] (vI a :: st) σ Q ↔ Rn d m_X4_turned (swt [(1, 28), (2, 34)] 40 (w32 a)) [l0, l1] st σ Q := q24 (show fnd (pgm m_X4_turned) 1 = some (28, 24, 0, 1, 40, [(1, 28), (2, 34)]) from rfl)
set_option maxRecDepth 100000 in
theorem s_X4_turned_28 {d : Nat} {l1 : AV} {st : List AV} {x : Int} {σ : Sg} {Q : AV → Sg → Prop}  : Rn d m_X4_turned 28 [vI x, l1] st σ Q ↔ Rn d m_X4_turned 29 [vI x, l1] (vI x :: st) σ Q := q3 (show fnd (pgm m_X4_turned) 28 = some (29, 3, 0, 0, 0, []) from rfl) rfl
set_option maxRecDepth 100000 in
theorem s_X4_turned_29 {d : Nat} {l0 l1 : AV} {st : List AV} {σ : Sg} {Q : AV → Sg → Prop}  : Rn d m_X4_turned 29 [l0, l1] st σ Q ↔ Rn d m_X4_turned 30 [l0, l1] (vI 1 :: st) σ Q := q0 (show fnd (pgm m_X4_turned) 29 = some (30, 0, 1, 0, 0, []) from rfl)
set_option maxRecDepth 100000 in
theorem s_X4_turned_30 {d : Nat} {l0 l1 : AV} {st : List AV} {a b : Int} {σ : Sg} {Q : AV → Sg → Prop}  : Rn d m_X4_turned 30 [l0, l1] (vI b :: vI a :: st) σ Q ↔ Rn d m_X4_turned 31 [l0, l1] (vI (a + b) :: st) σ Q := q10_0 (show fnd (pgm m_X4_turned) 30 = some (31, 10, 0, 0, 0, []) from rfl)
set_option maxRecDepth 100000 in
theorem s_X4_turned_31 {d : Nat} {l0 l1 : AV} {st : List AV} {σ : Sg} {Q : AV → Sg → Prop}  : Rn d m_X4_turned 31 [l0, l1] st σ Q ↔ Rn d m_X4_turned 32 [l0, l1] (vI 4 :: st) σ Q := q0 (show fnd (pgm m_X4_turned) 31 = some (32, 0, 4, 0, 0, []) from rfl)
set_option maxRecDepth 100000 in
theorem s_X4_turned_32 {d : Nat} {l0 l1 : AV} {st : List AV} {a b : Int} {σ : Sg} {Q : AV → Sg → Prop} (h0 : w32 b ≠ 0) : Rn d m_X4_turned 32 [l0, l1] (vI b :: vI a :: st) σ Q ↔ Rn d m_X4_turned 33 [l0, l1] (vI (rem32 a b) :: st) σ Q := q10_4 (show fnd (pgm m_X4_turned) 32 = some (33, 10, 0, 4, 0, []) from rfl) h0
set_option maxRecDepth 100000 in
theorem s_X4_turned_33 {d : Nat} {l0 l1 : AV} {x : Int} {σ : Sg} {Q : AV → Sg → Prop}  : Rn d m_X4_turned 33 [l0, l1] [vI x] σ Q ↔ Q (vI x) σ := q37_1 (st := []) (show fnd (pgm m_X4_turned) 33 = some (34, 37, 0, 1, 0, []) from rfl)
set_option maxRecDepth 100000 in
theorem s_X4_turned_34 {d : Nat} {l1 : AV} {st : List AV} {x : Int} {σ : Sg} {Q : AV → Sg → Prop}  : Rn d m_X4_turned 34 [vI x, l1] st σ Q ↔ Rn d m_X4_turned 35 [vI x, l1] (vI x :: st) σ Q := q3 (show fnd (pgm m_X4_turned) 34 = some (35, 3, 0, 0, 0, []) from rfl) rfl
set_option maxRecDepth 100000 in
theorem s_X4_turned_35 {d : Nat} {l0 l1 : AV} {st : List AV} {σ : Sg} {Q : AV → Sg → Prop}  : Rn d m_X4_turned 35 [l0, l1] st σ Q ↔ Rn d m_X4_turned 36 [l0, l1] (vI 3 :: st) σ Q := q0 (show fnd (pgm m_X4_turned) 35 = some (36, 0, 3, 0, 0, []) from rfl)
set_option maxRecDepth 100000 in
theorem s_X4_turned_36 {d : Nat} {l0 l1 : AV} {st : List AV} {a b : Int} {σ : Sg} {Q : AV → Sg → Prop}  : Rn d m_X4_turned 36 [l0, l1] (vI b :: vI a :: st) σ Q ↔ Rn d m_X4_turned 37 [l0, l1] (vI (a + b) :: st) σ Q := q10_0 (show fnd (pgm m_X4_turned) 36 = some (37, 10, 0, 0, 0, []) from rfl)
set_option maxRecDepth 100000 in
theorem s_X4_turned_37 {d : Nat} {l0 l1 : AV} {st : List AV} {σ : Sg} {Q : AV → Sg → Prop}  : Rn d m_X4_turned 37 [l0, l1] st σ Q ↔ Rn d m_X4_turned 38 [l0, l1] (vI 4 :: st) σ Q := q0 (show fnd (pgm m_X4_turned) 37 = some (38, 0, 4, 0, 0, []) from rfl)
set_option maxRecDepth 100000 in
theorem s_X4_turned_38 {d : Nat} {l0 l1 : AV} {st : List AV} {a b : Int} {σ : Sg} {Q : AV → Sg → Prop} (h0 : w32 b ≠ 0) : Rn d m_X4_turned 38 [l0, l1] (vI b :: vI a :: st) σ Q ↔ Rn d m_X4_turned 39 [l0, l1] (vI (rem32 a b) :: st) σ Q := q10_4 (show fnd (pgm m_X4_turned) 38 = some (39, 10, 0, 4, 0, []) from rfl) h0
set_option maxRecDepth 100000 in
theorem s_X4_turned_39 {d : Nat} {l0 l1 : AV} {x : Int} {σ : Sg} {Q : AV → Sg → Prop}  : Rn d m_X4_turned 39 [l0, l1] [vI x] σ Q ↔ Q (vI x) σ := q37_1 (st := []) (show fnd (pgm m_X4_turned) 39 = some (40, 37, 0, 1, 0, []) from rfl)
set_option maxRecDepth 100000 in
theorem s_X4_turned_40 {d : Nat} {l1 : AV} {st : List AV} {x : Int} {σ : Sg} {Q : AV → Sg → Prop}  : Rn d m_X4_turned 40 [vI x, l1] st σ Q ↔ Rn d m_X4_turned 41 [vI x, l1] (vI x :: st) σ Q := q3 (show fnd (pgm m_X4_turned) 40 = some (41, 3, 0, 0, 0, []) from rfl) rfl
set_option maxRecDepth 100000 in
theorem s_X4_turned_41 {d : Nat} {l0 l1 : AV} {x : Int} {σ : Sg} {Q : AV → Sg → Prop}  : Rn d m_X4_turned 41 [l0, l1] [vI x] σ Q ↔ Q (vI x) σ := q37_1 (st := []) (show fnd (pgm m_X4_turned) 41 = some (42, 37, 0, 1, 0, []) from rfl)
set_option maxRecDepth 100000 in
theorem en_X4_nextCell {d : Nat} {a0 : Int} {a1 : Int} {σ σ0 : Sg} {r0 : AV} (h : Rn d m_X4_nextCell 0 [vI a0, vI a1, none] [] σ (fun r σ1 => r = r0 ∧ σ1 = σ0)) : Ev (d + 1) m_X4_nextCell [vI a0, vI a1] σ r0 σ0 := Ev_is (Nat.le_of_ble_eq_true rfl) h
set_option maxRecDepth 100000 in
theorem eo_X4_nextCell {d : Nat} {a0 : Int} {a1 : Int} {σ : Sg} {Q : AV → Sg → Prop} (h : Rn d m_X4_nextCell 0 [vI a0, vI a1, none] [] σ Q) : ∃ r σ1, Ev (d + 1) m_X4_nextCell [vI a0, vI a1] σ r σ1 ∧ Q r σ1 := Ev_of (Nat.le_of_ble_eq_true rfl) h
set_option maxRecDepth 100000 in
theorem s_X4_nextCell_0 {d : Nat} {l1 l2 : AV} {st : List AV} {x : Int} {σ : Sg} {Q : AV → Sg → Prop}  : Rn d m_X4_nextCell 0 [vI x, l1, l2] st σ Q ↔ Rn d m_X4_nextCell 1 [vI x, l1, l2] (vI x :: st) σ Q := q3 (show fnd (pgm m_X4_nextCell) 0 = some (1, 3, 0, 0, 0, []) from rfl) rfl
set_option maxRecDepth 100000 in
theorem s_X4_nextCell_1 {d : Nat} {l0 l1 l2 : AV} {st : List AV} {σ : Sg} {Q : AV → Sg → Prop}  : Rn d m_X4_nextCell 1 [l0, l1, l2] st σ Q ↔ Rn d m_X4_nextCell 3 [l0, l1, l2] (vI 12 :: st) σ Q := q0 (show fnd (pgm m_X4_nextCell) 1 = some (3, 0, 12, 1, 0, []) from rfl)
set_option maxRecDepth 100000 in
theorem s_X4_nextCell_3 {d : Nat} {l0 l1 l2 : AV} {st : List AV} {a b : Int} {σ : Sg} {Q : AV → Sg → Prop} (h0 : w32 b ≠ 0) : Rn d m_X4_nextCell 3 [l0, l1, l2] (vI b :: vI a :: st) σ Q ↔ Rn d m_X4_nextCell 4 [l0, l1, l2] (vI (rem32 a b) :: st) σ Q := q10_4 (show fnd (pgm m_X4_nextCell) 3 = some (4, 10, 0, 4, 0, []) from rfl) h0
set_option maxRecDepth 100000 in
theorem s_X4_nextCell_4 {d : Nat} {l0 l1 l2 : AV} {st : List AV} {x : Int} {σ : Sg} {Q : AV → Sg → Prop}  : Rn d m_X4_nextCell 4 [l0, l1, l2] (vI x :: st) σ Q ↔ Rn d m_X4_nextCell 5 [l0, l1, vI x] st σ Q := q6 (show fnd (pgm m_X4_nextCell) 4 = some (5, 6, 0, 2, 0, []) from rfl) (by decide : 2 < 3)
set_option maxRecDepth 100000 in
theorem s_X4_nextCell_5 {d : Nat} {l0 l2 : AV} {st : List AV} {x : Int} {σ : Sg} {Q : AV → Sg → Prop}  : Rn d m_X4_nextCell 5 [l0, vI x, l2] st σ Q ↔ Rn d m_X4_nextCell 6 [l0, vI x, l2] (vI x :: st) σ Q := q3 (show fnd (pgm m_X4_nextCell) 5 = some (6, 3, 0, 1, 0, []) from rfl) rfl
set_option maxRecDepth 100000 in
theorem s_X4_nextCell_6 {d : Nat} {l0 l1 l2 : AV} {st : List AV} {a : Int} {σ : Sg} {Q : AV → Sg → Prop}  : Rn d m_X4_nextCell 6 [l0, l1, l2] (vI a :: st) σ Q ↔ Rn d m_X4_nextCell (swt [(0, 32), (1, 47), (2, 61)] 77 (w32 a)) [l0, l1, l2] st σ Q := q24 (show fnd (pgm m_X4_nextCell) 6 = some (32, 24, 0, 0, 77, [(0, 32), (1, 47), (2, 61)]) from rfl)
set_option maxRecDepth 100000 in
theorem s_X4_nextCell_32 {d : Nat} {l1 l2 : AV} {st : List AV} {x : Int} {σ : Sg} {Q : AV → Sg → Prop}  : Rn d m_X4_nextCell 32 [vI x, l1, l2] st σ Q ↔ Rn d m_X4_nextCell 33 [vI x, l1, l2] (vI x :: st) σ Q := q3 (show fnd (pgm m_X4_nextCell) 32 = some (33, 3, 0, 0, 0, []) from rfl) rfl
set_option maxRecDepth 100000 in
theorem s_X4_nextCell_33 {d : Nat} {l0 l1 l2 : AV} {st : List AV} {σ : Sg} {Q : AV → Sg → Prop}  : Rn d m_X4_nextCell 33 [l0, l1, l2] st σ Q ↔ Rn d m_X4_nextCell 35 [l0, l1, l2] (vI 12 :: st) σ Q := q0 (show fnd (pgm m_X4_nextCell) 33 = some (35, 0, 12, 1, 0, []) from rfl)
set_option maxRecDepth 100000 in
theorem s_X4_nextCell_35 {d : Nat} {l0 l1 l2 : AV} {st : List AV} {a b : Int} {σ : Sg} {Q : AV → Sg → Prop}  : Rn d m_X4_nextCell 35 [l0, l1, l2] (vI b :: vI a :: st) σ Q ↔ if w32 b ≤ w32 a then Rn d m_X4_nextCell 42 [l0, l1, l2] st σ Q else Rn d m_X4_nextCell 38 [l0, l1, l2] st σ Q := q20_3 (show fnd (pgm m_X4_nextCell) 35 = some (38, 20, 0, 3, 42, []) from rfl)
set_option maxRecDepth 100000 in
theorem s_X4_nextCell_38 {d : Nat} {l0 l1 l2 : AV} {st : List AV} {σ : Sg} {Q : AV → Sg → Prop}  : Rn d m_X4_nextCell 38 [l0, l1, l2] st σ Q ↔ Rn d m_X4_nextCell 39 [l0, l1, l2] (vI (-1) :: st) σ Q := q0 (show fnd (pgm m_X4_nextCell) 38 = some (39, 0, (-1), 0, 0, []) from rfl)
set_option maxRecDepth 100000 in
theorem s_X4_nextCell_39 {d : Nat} {l0 l1 l2 : AV} {st : List AV} {σ : Sg} {Q : AV → Sg → Prop}  : Rn d m_X4_nextCell 39 [l0, l1, l2] st σ Q ↔ Rn d m_X4_nextCell 46 [l0, l1, l2] st σ Q := q21 (show fnd (pgm m_X4_nextCell) 39 = some (42, 21, 0, 0, 46, []) from rfl)
set_option maxRecDepth 100000 in
theorem s_X4_nextCell_42 {d : Nat} {l1 l2 : AV} {st : List AV} {x : Int} {σ : Sg} {Q : AV → Sg → Prop}  : Rn d m_X4_nextCell 42 [vI x, l1, l2] st σ Q ↔ Rn d m_X4_nextCell 43 [vI x, l1, l2] (vI x :: st) σ Q := q3 (show fnd (pgm m_X4_nextCell) 42 = some (43, 3, 0, 0, 0, []) from rfl) rfl
set_option maxRecDepth 100000 in
theorem s_X4_nextCell_43 {d : Nat} {l0 l1 l2 : AV} {st : List AV} {σ : Sg} {Q : AV → Sg → Prop}  : Rn d m_X4_nextCell 43 [l0, l1, l2] st σ Q ↔ Rn d m_X4_nextCell 45 [l0, l1, l2] (vI 12 :: st) σ Q := q0 (show fnd (pgm m_X4_nextCell) 43 = some (45, 0, 12, 1, 0, []) from rfl)
set_option maxRecDepth 100000 in
theorem s_X4_nextCell_45 {d : Nat} {l0 l1 l2 : AV} {st : List AV} {a b : Int} {σ : Sg} {Q : AV → Sg → Prop}  : Rn d m_X4_nextCell 45 [l0, l1, l2] (vI b :: vI a :: st) σ Q ↔ Rn d m_X4_nextCell 46 [l0, l1, l2] (vI (a - b) :: st) σ Q := q10_1 (show fnd (pgm m_X4_nextCell) 45 = some (46, 10, 0, 1, 0, []) from rfl)
set_option maxRecDepth 100000 in
theorem s_X4_nextCell_46 {d : Nat} {l0 l1 l2 : AV} {x : Int} {σ : Sg} {Q : AV → Sg → Prop}  : Rn d m_X4_nextCell 46 [l0, l1, l2] [vI x] σ Q ↔ Q (vI x) σ := q37_1 (st := []) (show fnd (pgm m_X4_nextCell) 46 = some (47, 37, 0, 1, 0, []) from rfl)
set_option maxRecDepth 100000 in
theorem s_X4_nextCell_47 {d : Nat} {l0 l1 : AV} {st : List AV} {x : Int} {σ : Sg} {Q : AV → Sg → Prop}  : Rn d m_X4_nextCell 47 [l0, l1, vI x] st σ Q ↔ Rn d m_X4_nextCell 48 [l0, l1, vI x] (vI x :: st) σ Q := q3 (show fnd (pgm m_X4_nextCell) 47 = some (48, 3, 0, 2, 0, []) from rfl) rfl
set_option maxRecDepth 100000 in
theorem s_X4_nextCell_48 {d : Nat} {l0 l1 l2 : AV} {st : List AV} {σ : Sg} {Q : AV → Sg → Prop}  : Rn d m_X4_nextCell 48 [l0, l1, l2] st σ Q ↔ Rn d m_X4_nextCell 50 [l0, l1, l2] (vI 11 :: st) σ Q := q0 (show fnd (pgm m_X4_nextCell) 48 = some (50, 0, 11, 1, 0, []) from rfl)
set_option maxRecDepth 100000 in
theorem s_X4_nextCell_50 {d : Nat} {l0 l1 l2 : AV} {st : List AV} {a b : Int} {σ : Sg} {Q : AV → Sg → Prop}  : Rn d m_X4_nextCell 50 [l0, l1, l2] (vI b :: vI a :: st) σ Q ↔ if ¬ w32 a = w32 b then Rn d m_X4_nextCell 57 [l0, l1, l2] st σ Q else Rn d m_X4_nextCell 53 [l0, l1, l2] st σ Q := q20_1 (show fnd (pgm m_X4_nextCell) 50 = some (53, 20, 0, 1, 57, []) from rfl)
set_option maxRecDepth 100000 in
theorem s_X4_nextCell_53 {d : Nat} {l0 l1 l2 : AV} {st : List AV} {σ : Sg} {Q : AV → Sg → Prop}  : Rn d m_X4_nextCell 53 [l0, l1, l2] st σ Q ↔ Rn d m_X4_nextCell 54 [l0, l1, l2] (vI (-1) :: st) σ Q := q0 (show fnd (pgm m_X4_nextCell) 53 = some (54, 0, (-1), 0, 0, []) from rfl)
set_option maxRecDepth 100000 in
theorem s_X4_nextCell_54 {d : Nat} {l0 l1 l2 : AV} {st : List AV} {σ : Sg} {Q : AV → Sg → Prop}  : Rn d m_X4_nextCell 54 [l0, l1, l2] st σ Q ↔ Rn d m_X4_nextCell 60 [l0, l1, l2] st σ Q := q21 (show fnd (pgm m_X4_nextCell) 54 = some (57, 21, 0, 0, 60, []) from rfl)
set_option maxRecDepth 100000 in
theorem s_X4_nextCell_57 {d : Nat} {l1 l2 : AV} {st : List AV} {x : Int} {σ : Sg} {Q : AV → Sg → Prop}  : Rn d m_X4_nextCell 57 [vI x, l1, l2] st σ Q ↔ Rn d m_X4_nextCell 58 [vI x, l1, l2] (vI x :: st) σ Q := q3 (show fnd (pgm m_X4_nextCell) 57 = some (58, 3, 0, 0, 0, []) from rfl) rfl
set_option maxRecDepth 100000 in
theorem s_X4_nextCell_58 {d : Nat} {l0 l1 l2 : AV} {st : List AV} {σ : Sg} {Q : AV → Sg → Prop}  : Rn d m_X4_nextCell 58 [l0, l1, l2] st σ Q ↔ Rn d m_X4_nextCell 59 [l0, l1, l2] (vI 1 :: st) σ Q := q0 (show fnd (pgm m_X4_nextCell) 58 = some (59, 0, 1, 0, 0, []) from rfl)
set_option maxRecDepth 100000 in
theorem s_X4_nextCell_59 {d : Nat} {l0 l1 l2 : AV} {st : List AV} {a b : Int} {σ : Sg} {Q : AV → Sg → Prop}  : Rn d m_X4_nextCell 59 [l0, l1, l2] (vI b :: vI a :: st) σ Q ↔ Rn d m_X4_nextCell 60 [l0, l1, l2] (vI (a + b) :: st) σ Q := q10_0 (show fnd (pgm m_X4_nextCell) 59 = some (60, 10, 0, 0, 0, []) from rfl)
set_option maxRecDepth 100000 in
theorem s_X4_nextCell_60 {d : Nat} {l0 l1 l2 : AV} {x : Int} {σ : Sg} {Q : AV → Sg → Prop}  : Rn d m_X4_nextCell 60 [l0, l1, l2] [vI x] σ Q ↔ Q (vI x) σ := q37_1 (st := []) (show fnd (pgm m_X4_nextCell) 60 = some (61, 37, 0, 1, 0, []) from rfl)
set_option maxRecDepth 100000 in
theorem s_X4_nextCell_61 {d : Nat} {l1 l2 : AV} {st : List AV} {x : Int} {σ : Sg} {Q : AV → Sg → Prop}  : Rn d m_X4_nextCell 61 [vI x, l1, l2] st σ Q ↔ Rn d m_X4_nextCell 62 [vI x, l1, l2] (vI x :: st) σ Q := q3 (show fnd (pgm m_X4_nextCell) 61 = some (62, 3, 0, 0, 0, []) from rfl) rfl
set_option maxRecDepth 100000 in
theorem s_X4_nextCell_62 {d : Nat} {l0 l1 l2 : AV} {st : List AV} {σ : Sg} {Q : AV → Sg → Prop}  : Rn d m_X4_nextCell 62 [l0, l1, l2] st σ Q ↔ Rn d m_X4_nextCell 65 [l0, l1, l2] (vI 132 :: st) σ Q := q0 (show fnd (pgm m_X4_nextCell) 62 = some (65, 0, 132, 2, 0, []) from rfl)
set_option maxRecDepth 100000 in
theorem s_X4_nextCell_65 {d : Nat} {l0 l1 l2 : AV} {st : List AV} {a b : Int} {σ : Sg} {Q : AV → Sg → Prop}  : Rn d m_X4_nextCell 65 [l0, l1, l2] (vI b :: vI a :: st) σ Q ↔ if w32 a < w32 b then Rn d m_X4_nextCell 72 [l0, l1, l2] st σ Q else Rn d m_X4_nextCell 68 [l0, l1, l2] st σ Q := q20_2 (show fnd (pgm m_X4_nextCell) 65 = some (68, 20, 0, 2, 72, []) from rfl)
set_option maxRecDepth 100000 in
theorem s_X4_nextCell_68 {d : Nat} {l0 l1 l2 : AV} {st : List AV} {σ : Sg} {Q : AV → Sg → Prop}  : Rn d m_X4_nextCell 68 [l0, l1, l2] st σ Q ↔ Rn d m_X4_nextCell 69 [l0, l1, l2] (vI (-1) :: st) σ Q := q0 (show fnd (pgm m_X4_nextCell) 68 = some (69, 0, (-1), 0, 0, []) from rfl)
set_option maxRecDepth 100000 in
theorem s_X4_nextCell_69 {d : Nat} {l0 l1 l2 : AV} {st : List AV} {σ : Sg} {Q : AV → Sg → Prop}  : Rn d m_X4_nextCell 69 [l0, l1, l2] st σ Q ↔ Rn d m_X4_nextCell 76 [l0, l1, l2] st σ Q := q21 (show fnd (pgm m_X4_nextCell) 69 = some (72, 21, 0, 0, 76, []) from rfl)
set_option maxRecDepth 100000 in
theorem s_X4_nextCell_72 {d : Nat} {l1 l2 : AV} {st : List AV} {x : Int} {σ : Sg} {Q : AV → Sg → Prop}  : Rn d m_X4_nextCell 72 [vI x, l1, l2] st σ Q ↔ Rn d m_X4_nextCell 73 [vI x, l1, l2] (vI x :: st) σ Q := q3 (show fnd (pgm m_X4_nextCell) 72 = some (73, 3, 0, 0, 0, []) from rfl) rfl
set_option maxRecDepth 100000 in
theorem s_X4_nextCell_73 {d : Nat} {l0 l1 l2 : AV} {st : List AV} {σ : Sg} {Q : AV → Sg → Prop}  : Rn d m_X4_nextCell 73 [l0, l1, l2] st σ Q ↔ Rn d m_X4_nextCell 75 [l0, l1, l2] (vI 12 :: st) σ Q := q0 (show fnd (pgm m_X4_nextCell) 73 = some (75, 0, 12, 1, 0, []) from rfl)
set_option maxRecDepth 100000 in
theorem s_X4_nextCell_75 {d : Nat} {l0 l1 l2 : AV} {st : List AV} {a b : Int} {σ : Sg} {Q : AV → Sg → Prop}  : Rn d m_X4_nextCell 75 [l0, l1, l2] (vI b :: vI a :: st) σ Q ↔ Rn d m_X4_nextCell 76 [l0, l1, l2] (vI (a + b) :: st) σ Q := q10_0 (show fnd (pgm m_X4_nextCell) 75 = some (76, 10, 0, 0, 0, []) from rfl)
set_option maxRecDepth 100000 in
theorem s_X4_nextCell_76 {d : Nat} {l0 l1 l2 : AV} {x : Int} {σ : Sg} {Q : AV → Sg → Prop}  : Rn d m_X4_nextCell 76 [l0, l1, l2] [vI x] σ Q ↔ Q (vI x) σ := q37_1 (st := []) (show fnd (pgm m_X4_nextCell) 76 = some (77, 37, 0, 1, 0, []) from rfl)
set_option maxRecDepth 100000 in
theorem s_X4_nextCell_77 {d : Nat} {l0 l1 : AV} {st : List AV} {x : Int} {σ : Sg} {Q : AV → Sg → Prop}  : Rn d m_X4_nextCell 77 [l0, l1, vI x] st σ Q ↔ Rn d m_X4_nextCell 78 [l0, l1, vI x] (vI x :: st) σ Q := q3 (show fnd (pgm m_X4_nextCell) 77 = some (78, 3, 0, 2, 0, []) from rfl) rfl
set_option maxRecDepth 100000 in
theorem s_X4_nextCell_78 {d : Nat} {l0 l1 l2 : AV} {st : List AV} {a : Int} {σ : Sg} {Q : AV → Sg → Prop}  : Rn d m_X4_nextCell 78 [l0, l1, l2] (vI a :: st) σ Q ↔ if ¬ w32 a = 0 then Rn d m_X4_nextCell 85 [l0, l1, l2] st σ Q else Rn d m_X4_nextCell 81 [l0, l1, l2] st σ Q := q19_1 (show fnd (pgm m_X4_nextCell) 78 = some (81, 19, 0, 1, 85, []) from rfl)
set_option maxRecDepth 100000 in
theorem s_X4_nextCell_81 {d : Nat} {l0 l1 l2 : AV} {st : List AV} {σ : Sg} {Q : AV → Sg → Prop}  : Rn d m_X4_nextCell 81 [l0, l1, l2] st σ Q ↔ Rn d m_X4_nextCell 82 [l0, l1, l2] (vI (-1) :: st) σ Q := q0 (show fnd (pgm m_X4_nextCell) 81 = some (82, 0, (-1), 0, 0, []) from rfl)
set_option maxRecDepth 100000 in
theorem s_X4_nextCell_82 {d : Nat} {l0 l1 l2 : AV} {st : List AV} {σ : Sg} {Q : AV → Sg → Prop}  : Rn d m_X4_nextCell 82 [l0, l1, l2] st σ Q ↔ Rn d m_X4_nextCell 88 [l0, l1, l2] st σ Q := q21 (show fnd (pgm m_X4_nextCell) 82 = some (85, 21, 0, 0, 88, []) from rfl)
set_option maxRecDepth 100000 in
theorem s_X4_nextCell_85 {d : Nat} {l1 l2 : AV} {st : List AV} {x : Int} {σ : Sg} {Q : AV → Sg → Prop}  : Rn d m_X4_nextCell 85 [vI x, l1, l2] st σ Q ↔ Rn d m_X4_nextCell 86 [vI x, l1, l2] (vI x :: st) σ Q := q3 (show fnd (pgm m_X4_nextCell) 85 = some (86, 3, 0, 0, 0, []) from rfl) rfl
set_option maxRecDepth 100000 in
theorem s_X4_nextCell_86 {d : Nat} {l0 l1 l2 : AV} {st : List AV} {σ : Sg} {Q : AV → Sg → Prop}  : Rn d m_X4_nextCell 86 [l0, l1, l2] st σ Q ↔ Rn d m_X4_nextCell 87 [l0, l1, l2] (vI 1 :: st) σ Q := q0 (show fnd (pgm m_X4_nextCell) 86 = some (87, 0, 1, 0, 0, []) from rfl)
set_option maxRecDepth 100000 in
theorem s_X4_nextCell_87 {d : Nat} {l0 l1 l2 : AV} {st : List AV} {a b : Int} {σ : Sg} {Q : AV → Sg → Prop}  : Rn d m_X4_nextCell 87 [l0, l1, l2] (vI b :: vI a :: st) σ Q ↔ Rn d m_X4_nextCell 88 [l0, l1, l2] (vI (a - b) :: st) σ Q := q10_1 (show fnd (pgm m_X4_nextCell) 87 = some (88, 10, 0, 1, 0, []) from rfl)
set_option maxRecDepth 100000 in
theorem s_X4_nextCell_88 {d : Nat} {l0 l1 l2 : AV} {x : Int} {σ : Sg} {Q : AV → Sg → Prop}  : Rn d m_X4_nextCell 88 [l0, l1, l2] [vI x] σ Q ↔ Q (vI x) σ := q37_1 (st := []) (show fnd (pgm m_X4_nextCell) 88 = some (89, 37, 0, 1, 0, []) from rfl)
set_option maxRecDepth 100000 in
theorem en_X4_stoneIn {d : Nat} {o : Nat} {a0 : Int} {σ σ0 : Sg} {r0 : AV} (h : Rn d m_X4_stoneIn 0 [vR o, vI a0, none] [] σ (fun r σ1 => r = r0 ∧ σ1 = σ0)) : Ev (d + 1) m_X4_stoneIn [vR o, vI a0] σ r0 σ0 := Ev_is (Nat.le_of_ble_eq_true rfl) h
set_option maxRecDepth 100000 in
theorem eo_X4_stoneIn {d : Nat} {o : Nat} {a0 : Int} {σ : Sg} {Q : AV → Sg → Prop} (h : Rn d m_X4_stoneIn 0 [vR o, vI a0, none] [] σ Q) : ∃ r σ1, Ev (d + 1) m_X4_stoneIn [vR o, vI a0] σ r σ1 ∧ Q r σ1 := Ev_of (Nat.le_of_ble_eq_true rfl) h
set_option maxRecDepth 100000 in
theorem s_X4_stoneIn_0 {d : Nat} {l0 l1 l2 : AV} {st : List AV} {σ : Sg} {Q : AV → Sg → Prop}  : Rn d m_X4_stoneIn 0 [l0, l1, l2] st σ Q ↔ Rn d m_X4_stoneIn 1 [l0, l1, l2] (vI 0 :: st) σ Q := q0 (show fnd (pgm m_X4_stoneIn) 0 = some (1, 0, 0, 0, 0, []) from rfl)
set_option maxRecDepth 100000 in
theorem s_X4_stoneIn_1 {d : Nat} {l0 l1 l2 : AV} {st : List AV} {x : Int} {σ : Sg} {Q : AV → Sg → Prop}  : Rn d m_X4_stoneIn 1 [l0, l1, l2] (vI x :: st) σ Q ↔ Rn d m_X4_stoneIn 2 [l0, l1, vI x] st σ Q := q6 (show fnd (pgm m_X4_stoneIn) 1 = some (2, 6, 0, 2, 0, []) from rfl) (by decide : 2 < 3)
set_option maxRecDepth 100000 in
theorem s_X4_stoneIn_2 {d : Nat} {l0 l1 : AV} {st : List AV} {x : Int} {σ : Sg} {Q : AV → Sg → Prop}  : Rn d m_X4_stoneIn 2 [l0, l1, vI x] st σ Q ↔ Rn d m_X4_stoneIn 3 [l0, l1, vI x] (vI x :: st) σ Q := q3 (show fnd (pgm m_X4_stoneIn) 2 = some (3, 3, 0, 2, 0, []) from rfl) rfl
set_option maxRecDepth 100000 in
theorem s_X4_stoneIn_3 {d : Nat} {l0 l1 l2 : AV} {st : List AV} {σ : Sg} {Q : AV → Sg → Prop}  : Rn d m_X4_stoneIn 3 [l0, l1, l2] st σ Q ↔ Rn d m_X4_stoneIn 5 [l0, l1, l2] (vI 6 :: st) σ Q := q0 (show fnd (pgm m_X4_stoneIn) 3 = some (5, 0, 6, 1, 0, []) from rfl)
set_option maxRecDepth 100000 in
theorem s_X4_stoneIn_5 {d : Nat} {l0 l1 l2 : AV} {st : List AV} {a b : Int} {σ : Sg} {Q : AV → Sg → Prop}  : Rn d m_X4_stoneIn 5 [l0, l1, l2] (vI b :: vI a :: st) σ Q ↔ if w32 b ≤ w32 a then Rn d m_X4_stoneIn 34 [l0, l1, l2] st σ Q else Rn d m_X4_stoneIn 8 [l0, l1, l2] st σ Q := q20_3 (show fnd (pgm m_X4_stoneIn) 5 = some (8, 20, 0, 3, 34, []) from rfl)
set_option maxRecDepth 100000 in
theorem s_X4_stoneIn_8 {d : Nat} {l1 l2 : AV} {st : List AV} {o : Nat} {σ : Sg} {Q : AV → Sg → Prop} (ho : o ≠ 0) : Rn d m_X4_stoneIn 8 [vR o, l1, l2] st σ Q ↔ Rn d m_X4_stoneIn 9 [vR o, l1, l2] (vR o :: st) σ Q := q5 (show fnd (pgm m_X4_stoneIn) 8 = some (9, 5, 0, 0, 0, []) from rfl) rfl ho
set_option maxRecDepth 100000 in
theorem s_X4_stoneIn_9 {d : Nat} {l0 l1 : AV} {st : List AV} {x : Int} {σ : Sg} {Q : AV → Sg → Prop}  : Rn d m_X4_stoneIn 9 [l0, l1, vI x] st σ Q ↔ Rn d m_X4_stoneIn 10 [l0, l1, vI x] (vI x :: st) σ Q := q3 (show fnd (pgm m_X4_stoneIn) 9 = some (10, 3, 0, 2, 0, []) from rfl) rfl
set_option maxRecDepth 100000 in
theorem s_X4_stoneIn_10 {d : Nat} {l0 l1 l2 : AV} {st : List AV} {o : Nat} {a0 : Int} {σ : Sg} {Q : AV → Sg → Prop} (h4 : st.length ≤ 4) (hk : kn σ o = (0, 4)) : Rn d m_X4_stoneIn 10 [l0, l1, l2] (vI a0 :: vR o :: st) σ Q ↔ ∃ r σ1, Ev d m_X4_isPresent [vR o, vI a0] σ r σ1 ∧ Rn d m_X4_stoneIn 13 [l0, l1, l2] (psh r st) σ1 Q := q35 (show fnd (pgm m_X4_stoneIn) 10 = some (13, 35, 83, 38, 2, []) from rfl) ⟨⟨by simp, by simpa using h4⟩, (by simp only [List.take, List.reverse, List.reverseAux, rcv]; rw [if_neg (by decide +kernel)]; exact decide_eq_true hk)⟩
set_option maxRecDepth 100000 in
theorem s_X4_stoneIn_13 {d : Nat} {l0 l1 l2 : AV} {st : List AV} {a : Int} {σ : Sg} {Q : AV → Sg → Prop}  : Rn d m_X4_stoneIn 13 [l0, l1, l2] (vI a :: st) σ Q ↔ if w32 a = 0 then Rn d m_X4_stoneIn 28 [l0, l1, l2] st σ Q else Rn d m_X4_stoneIn 16 [l0, l1, l2] st σ Q := q19_0 (show fnd (pgm m_X4_stoneIn) 13 = some (16, 19, 0, 0, 28, []) from rfl)
set_option maxRecDepth 100000 in
theorem s_X4_stoneIn_16 {d : Nat} {l1 l2 : AV} {st : List AV} {o : Nat} {σ : Sg} {Q : AV → Sg → Prop} (ho : o ≠ 0) : Rn d m_X4_stoneIn 16 [vR o, l1, l2] st σ Q ↔ Rn d m_X4_stoneIn 17 [vR o, l1, l2] (vR o :: st) σ Q := q5 (show fnd (pgm m_X4_stoneIn) 16 = some (17, 5, 0, 0, 0, []) from rfl) rfl ho
set_option maxRecDepth 100000 in
theorem s_X4_stoneIn_17 {d : Nat} {l0 l1 l2 : AV} {st : List AV} {o : Nat} {σ : Sg} {Q : AV → Sg → Prop} (hk : kn σ o = (0, 4)) : Rn d m_X4_stoneIn 17 [l0, l1, l2] (vR o :: st) σ Q ↔ Rn d m_X4_stoneIn 20 [l0, l1, l2] (vR (tp o 0) :: st) σ Q := q33 (show fnd (pgm m_X4_stoneIn) 17 = some (20, 33, 9, 4, 0, []) from rfl) hk
set_option maxRecDepth 100000 in
theorem s_X4_stoneIn_20 {d : Nat} {l0 l1 : AV} {st : List AV} {x : Int} {σ : Sg} {Q : AV → Sg → Prop}  : Rn d m_X4_stoneIn 20 [l0, l1, vI x] st σ Q ↔ Rn d m_X4_stoneIn 21 [l0, l1, vI x] (vI x :: st) σ Q := q3 (show fnd (pgm m_X4_stoneIn) 20 = some (21, 3, 0, 2, 0, []) from rfl) rfl
set_option maxRecDepth 100000 in
theorem s_X4_stoneIn_21 {d : Nat} {l0 l1 l2 : AV} {st : List AV} {i : Int} {o : Nat} {σ : Sg} {Q : AV → Sg → Prop} (hi : 0 ≤ w32 i ∧ w32 i < al σ 1 o) : Rn d m_X4_stoneIn 21 [l0, l1, l2] (vI i :: vR o :: st) σ Q ↔ Rn d m_X4_stoneIn 22 [l0, l1, l2] (vI (σ o (w32 i)) :: st) σ Q := q25 (show fnd (pgm m_X4_stoneIn) 21 = some (22, 25, 0, 0, 0, []) from rfl) hi
set_option maxRecDepth 100000 in
theorem s_X4_stoneIn_22 {d : Nat} {l0 l2 : AV} {st : List AV} {x : Int} {σ : Sg} {Q : AV → Sg → Prop}  : Rn d m_X4_stoneIn 22 [l0, vI x, l2] st σ Q ↔ Rn d m_X4_stoneIn 23 [l0, vI x, l2] (vI x :: st) σ Q := q3 (show fnd (pgm m_X4_stoneIn) 22 = some (23, 3, 0, 1, 0, []) from rfl) rfl
set_option maxRecDepth 100000 in
theorem s_X4_stoneIn_23 {d : Nat} {l0 l1 l2 : AV} {st : List AV} {a b : Int} {σ : Sg} {Q : AV → Sg → Prop}  : Rn d m_X4_stoneIn 23 [l0, l1, l2] (vI b :: vI a :: st) σ Q ↔ if ¬ w32 a = w32 b then Rn d m_X4_stoneIn 28 [l0, l1, l2] st σ Q else Rn d m_X4_stoneIn 26 [l0, l1, l2] st σ Q := q20_1 (show fnd (pgm m_X4_stoneIn) 23 = some (26, 20, 0, 1, 28, []) from rfl)
set_option maxRecDepth 100000 in
theorem s_X4_stoneIn_26 {d : Nat} {l0 l1 : AV} {st : List AV} {x : Int} {σ : Sg} {Q : AV → Sg → Prop}  : Rn d m_X4_stoneIn 26 [l0, l1, vI x] st σ Q ↔ Rn d m_X4_stoneIn 27 [l0, l1, vI x] (vI x :: st) σ Q := q3 (show fnd (pgm m_X4_stoneIn) 26 = some (27, 3, 0, 2, 0, []) from rfl) rfl
set_option maxRecDepth 100000 in
theorem s_X4_stoneIn_27 {d : Nat} {l0 l1 l2 : AV} {x : Int} {σ : Sg} {Q : AV → Sg → Prop}  : Rn d m_X4_stoneIn 27 [l0, l1, l2] [vI x] σ Q ↔ Q (vI x) σ := q37_1 (st := []) (show fnd (pgm m_X4_stoneIn) 27 = some (28, 37, 0, 1, 0, []) from rfl)
set_option maxRecDepth 100000 in
theorem s_X4_stoneIn_28 {d : Nat} {l0 l1 : AV} {st : List AV} {x : Int} {σ : Sg} {Q : AV → Sg → Prop}  : Rn d m_X4_stoneIn 28 [l0, l1, vI x] st σ Q ↔ Rn d m_X4_stoneIn 31 [l0, l1, vI (x + 1)] st σ Q := q9 (show fnd (pgm m_X4_stoneIn) 28 = some (31, 9, 1, 2, 0, []) from rfl) rfl
set_option maxRecDepth 100000 in
theorem s_X4_stoneIn_31 {d : Nat} {l0 l1 l2 : AV} {st : List AV} {σ : Sg} {Q : AV → Sg → Prop}  : Rn d m_X4_stoneIn 31 [l0, l1, l2] st σ Q ↔ Rn d m_X4_stoneIn 2 [l0, l1, l2] st σ Q := q21 (show fnd (pgm m_X4_stoneIn) 31 = some (34, 21, 0, 0, 2, []) from rfl)
set_option maxRecDepth 100000 in
theorem s_X4_stoneIn_34 {d : Nat} {l0 l1 l2 : AV} {st : List AV} {σ : Sg} {Q : AV → Sg → Prop}  : Rn d m_X4_stoneIn 34 [l0, l1, l2] st σ Q ↔ Rn d m_X4_stoneIn 35 [l0, l1, l2] (vI (-1) :: st) σ Q := q0 (show fnd (pgm m_X4_stoneIn) 34 = some (35, 0, (-1), 0, 0, []) from rfl)
set_option maxRecDepth 100000 in
theorem s_X4_stoneIn_35 {d : Nat} {l0 l1 l2 : AV} {x : Int} {σ : Sg} {Q : AV → Sg → Prop}  : Rn d m_X4_stoneIn 35 [l0, l1, l2] [vI x] σ Q ↔ Q (vI x) σ := q37_1 (st := []) (show fnd (pgm m_X4_stoneIn) 35 = some (36, 37, 0, 1, 0, []) from rfl)
set_option maxRecDepth 100000 in
theorem en_X4_log {d : Nat} {o : Nat} {a0 : Int} {a1 : Int} {a2 : Int} {σ σ0 : Sg} {r0 : AV} (h : Rn d m_X4_log 0 [vR o, vI a0, vI a1, vI a2] [] σ (fun r σ1 => r = r0 ∧ σ1 = σ0)) : Ev (d + 1) m_X4_log [vR o, vI a0, vI a1, vI a2] σ r0 σ0 := Ev_is (Nat.le_of_ble_eq_true rfl) h
set_option maxRecDepth 100000 in
theorem eo_X4_log {d : Nat} {o : Nat} {a0 : Int} {a1 : Int} {a2 : Int} {σ : Sg} {Q : AV → Sg → Prop} (h : Rn d m_X4_log 0 [vR o, vI a0, vI a1, vI a2] [] σ Q) : ∃ r σ1, Ev (d + 1) m_X4_log [vR o, vI a0, vI a1, vI a2] σ r σ1 ∧ Q r σ1 := Ev_of (Nat.le_of_ble_eq_true rfl) h
set_option maxRecDepth 100000 in
theorem s_X4_log_0 {d : Nat} {l1 l2 l3 : AV} {st : List AV} {o : Nat} {σ : Sg} {Q : AV → Sg → Prop} (ho : o ≠ 0) : Rn d m_X4_log 0 [vR o, l1, l2, l3] st σ Q ↔ Rn d m_X4_log 1 [vR o, l1, l2, l3] (vR o :: st) σ Q := q5 (show fnd (pgm m_X4_log) 0 = some (1, 5, 0, 0, 0, []) from rfl) rfl ho
set_option maxRecDepth 100000 in
theorem s_X4_log_1 {d : Nat} {l0 l1 l2 l3 : AV} {st : List AV} {o : Nat} {σ : Sg} {Q : AV → Sg → Prop} (hk : kn σ o = (0, 4)) : Rn d m_X4_log 1 [l0, l1, l2, l3] (vR o :: st) σ Q ↔ Rn d m_X4_log 4 [l0, l1, l2, l3] (vI (σ o 6) :: st) σ Q := q33 (show fnd (pgm m_X4_log) 1 = some (4, 33, 30, 4, 6, []) from rfl) hk
set_option maxRecDepth 100000 in
theorem s_X4_log_4 {d : Nat} {l0 l1 l2 l3 : AV} {st : List AV} {σ : Sg} {Q : AV → Sg → Prop}  : Rn d m_X4_log 4 [l0, l1, l2, l3] st σ Q ↔ Rn d m_X4_log 7 [l0, l1, l2, l3] (vI 1080 :: st) σ Q := q0 (show fnd (pgm m_X4_log) 4 = some (7, 0, 1080, 2, 0, []) from rfl)
set_option maxRecDepth 100000 in
theorem s_X4_log_7 {d : Nat} {l0 l1 l2 l3 : AV} {st : List AV} {a b : Int} {σ : Sg} {Q : AV → Sg → Prop}  : Rn d m_X4_log 7 [l0, l1, l2, l3] (vI b :: vI a :: st) σ Q ↔ if w32 b ≤ w32 a then Rn d m_X4_log 53 [l0, l1, l2, l3] st σ Q else Rn d m_X4_log 10 [l0, l1, l2, l3] st σ Q := q20_3 (show fnd (pgm m_X4_log) 7 = some (10, 20, 0, 3, 53, []) from rfl)
set_option maxRecDepth 100000 in
theorem s_X4_log_10 {d : Nat} {l1 l2 l3 : AV} {st : List AV} {o : Nat} {σ : Sg} {Q : AV → Sg → Prop} (ho : o ≠ 0) : Rn d m_X4_log 10 [vR o, l1, l2, l3] st σ Q ↔ Rn d m_X4_log 11 [vR o, l1, l2, l3] (vR o :: st) σ Q := q5 (show fnd (pgm m_X4_log) 10 = some (11, 5, 0, 0, 0, []) from rfl) rfl ho
set_option maxRecDepth 100000 in
theorem s_X4_log_11 {d : Nat} {l0 l1 l2 l3 : AV} {st : List AV} {o : Nat} {σ : Sg} {Q : AV → Sg → Prop} (hk : kn σ o = (0, 4)) : Rn d m_X4_log 11 [l0, l1, l2, l3] (vR o :: st) σ Q ↔ Rn d m_X4_log 14 [l0, l1, l2, l3] (vR (tp o 4) :: st) σ Q := q33 (show fnd (pgm m_X4_log) 11 = some (14, 33, 24, 4, 4, []) from rfl) hk
set_option maxRecDepth 100000 in
theorem s_X4_log_14 {d : Nat} {l1 l2 l3 : AV} {st : List AV} {o : Nat} {σ : Sg} {Q : AV → Sg → Prop} (ho : o ≠ 0) : Rn d m_X4_log 14 [vR o, l1, l2, l3] st σ Q ↔ Rn d m_X4_log 15 [vR o, l1, l2, l3] (vR o :: st) σ Q := q5 (show fnd (pgm m_X4_log) 14 = some (15, 5, 0, 0, 0, []) from rfl) rfl ho
set_option maxRecDepth 100000 in
theorem s_X4_log_15 {d : Nat} {l0 l1 l2 l3 : AV} {st : List AV} {o : Nat} {σ : Sg} {Q : AV → Sg → Prop} (hk : kn σ o = (0, 4)) : Rn d m_X4_log 15 [l0, l1, l2, l3] (vR o :: st) σ Q ↔ Rn d m_X4_log 18 [l0, l1, l2, l3] (vI (σ o 6) :: st) σ Q := q33 (show fnd (pgm m_X4_log) 15 = some (18, 33, 30, 4, 6, []) from rfl) hk
set_option maxRecDepth 100000 in
theorem s_X4_log_18 {d : Nat} {l0 l2 l3 : AV} {st : List AV} {x : Int} {σ : Sg} {Q : AV → Sg → Prop}  : Rn d m_X4_log 18 [l0, vI x, l2, l3] st σ Q ↔ Rn d m_X4_log 19 [l0, vI x, l2, l3] (vI x :: st) σ Q := q3 (show fnd (pgm m_X4_log) 18 = some (19, 3, 0, 1, 0, []) from rfl) rfl
set_option maxRecDepth 100000 in
theorem s_X4_log_19 {d : Nat} {l0 l1 l2 l3 : AV} {st : List AV} {i x : Int} {o : Nat} {σ : Sg} {Q : AV → Sg → Prop} (hi : 0 ≤ w32 i ∧ w32 i < al σ 1 o) : Rn d m_X4_log 19 [l0, l1, l2, l3] (vI x :: vI i :: vR o :: st) σ Q ↔ Rn d m_X4_log 20 [l0, l1, l2, l3] st (up σ o (w32 i) x) Q := q29 (show fnd (pgm m_X4_log) 19 = some (20, 29, 0, 0, 0, []) from rfl) hi
set_option maxRecDepth 100000 in
theorem s_X4_log_20 {d : Nat} {l1 l2 l3 : AV} {st : List AV} {o : Nat} {σ : Sg} {Q : AV → Sg → Prop} (ho : o ≠ 0) : Rn d m_X4_log 20 [vR o, l1, l2, l3] st σ Q ↔ Rn d m_X4_log 21 [vR o, l1, l2, l3] (vR o :: st) σ Q := q5 (show fnd (pgm m_X4_log) 20 = some (21, 5, 0, 0, 0, []) from rfl) rfl ho
set_option maxRecDepth 100000 in
theorem s_X4_log_21 {d : Nat} {l0 l1 l2 l3 : AV} {st : List AV} {o : Nat} {σ : Sg} {Q : AV → Sg → Prop} (hk : kn σ o = (0, 4)) : Rn d m_X4_log 21 [l0, l1, l2, l3] (vR o :: st) σ Q ↔ Rn d m_X4_log 24 [l0, l1, l2, l3] (vR (tp o 5) :: st) σ Q := q33 (show fnd (pgm m_X4_log) 21 = some (24, 33, 27, 4, 5, []) from rfl) hk
set_option maxRecDepth 100000 in
theorem s_X4_log_24 {d : Nat} {l1 l2 l3 : AV} {st : List AV} {o : Nat} {σ : Sg} {Q : AV → Sg → Prop} (ho : o ≠ 0) : Rn d m_X4_log 24 [vR o, l1, l2, l3] st σ Q ↔ Rn d m_X4_log 25 [vR o, l1, l2, l3] (vR o :: st) σ Q := q5 (show fnd (pgm m_X4_log) 24 = some (25, 5, 0, 0, 0, []) from rfl) rfl ho
set_option maxRecDepth 100000 in
theorem s_X4_log_25 {d : Nat} {l0 l1 l2 l3 : AV} {st : List AV} {o : Nat} {σ : Sg} {Q : AV → Sg → Prop} (hk : kn σ o = (0, 4)) : Rn d m_X4_log 25 [l0, l1, l2, l3] (vR o :: st) σ Q ↔ Rn d m_X4_log 28 [l0, l1, l2, l3] (vI (σ o 6) :: st) σ Q := q33 (show fnd (pgm m_X4_log) 25 = some (28, 33, 30, 4, 6, []) from rfl) hk
set_option maxRecDepth 100000 in
theorem s_X4_log_28 {d : Nat} {l0 l1 l2 l3 : AV} {st : List AV} {σ : Sg} {Q : AV → Sg → Prop}  : Rn d m_X4_log 28 [l0, l1, l2, l3] st σ Q ↔ Rn d m_X4_log 30 [l0, l1, l2, l3] (vI 100 :: st) σ Q := q0 (show fnd (pgm m_X4_log) 28 = some (30, 0, 100, 1, 0, []) from rfl)
set_option maxRecDepth 100000 in
theorem s_X4_log_30 {d : Nat} {l1 l2 l3 : AV} {st : List AV} {o : Nat} {σ : Sg} {Q : AV → Sg → Prop} (ho : o ≠ 0) : Rn d m_X4_log 30 [vR o, l1, l2, l3] st σ Q ↔ Rn d m_X4_log 31 [vR o, l1, l2, l3] (vR o :: st) σ Q := q5 (show fnd (pgm m_X4_log) 30 = some (31, 5, 0, 0, 0, []) from rfl) rfl ho
set_option maxRecDepth 100000 in
theorem s_X4_log_31 {d : Nat} {l0 l1 l2 l3 : AV} {st : List AV} {o : Nat} {σ : Sg} {Q : AV → Sg → Prop} (hk : kn σ o = (0, 4)) : Rn d m_X4_log 31 [l0, l1, l2, l3] (vR o :: st) σ Q ↔ Rn d m_X4_log 34 [l0, l1, l2, l3] (vI (σ o 10) :: st) σ Q := q33 (show fnd (pgm m_X4_log) 31 = some (34, 33, 45, 4, 10, []) from rfl) hk
set_option maxRecDepth 100000 in
theorem s_X4_log_34 {d : Nat} {l0 l1 l2 l3 : AV} {st : List AV} {a b : Int} {σ : Sg} {Q : AV → Sg → Prop}  : Rn d m_X4_log 34 [l0, l1, l2, l3] (vI b :: vI a :: st) σ Q ↔ Rn d m_X4_log 35 [l0, l1, l2, l3] (vI (a * b) :: st) σ Q := q10_2 (show fnd (pgm m_X4_log) 34 = some (35, 10, 0, 2, 0, []) from rfl)
set_option maxRecDepth 100000 in
theorem s_X4_log_35 {d : Nat} {l0 l1 l2 l3 : AV} {st : List AV} {σ : Sg} {Q : AV → Sg → Prop}  : Rn d m_X4_log 35 [l0, l1, l2, l3] st σ Q ↔ Rn d m_X4_log 37 [l0, l1, l2, l3] (vI 10 :: st) σ Q := q0 (show fnd (pgm m_X4_log) 35 = some (37, 0, 10, 1, 0, []) from rfl)
set_option maxRecDepth 100000 in
theorem s_X4_log_37 {d : Nat} {l0 l1 l3 : AV} {st : List AV} {x : Int} {σ : Sg} {Q : AV → Sg → Prop}  : Rn d m_X4_log 37 [l0, l1, vI x, l3] st σ Q ↔ Rn d m_X4_log 38 [l0, l1, vI x, l3] (vI x :: st) σ Q := q3 (show fnd (pgm m_X4_log) 37 = some (38, 3, 0, 2, 0, []) from rfl) rfl
set_option maxRecDepth 100000 in
theorem s_X4_log_38 {d : Nat} {l0 l1 l2 l3 : AV} {st : List AV} {a b : Int} {σ : Sg} {Q : AV → Sg → Prop}  : Rn d m_X4_log 38 [l0, l1, l2, l3] (vI b :: vI a :: st) σ Q ↔ Rn d m_X4_log 39 [l0, l1, l2, l3] (vI (a * b) :: st) σ Q := q10_2 (show fnd (pgm m_X4_log) 38 = some (39, 10, 0, 2, 0, []) from rfl)
set_option maxRecDepth 100000 in
theorem s_X4_log_39 {d : Nat} {l0 l1 l2 l3 : AV} {st : List AV} {a b : Int} {σ : Sg} {Q : AV → Sg → Prop}  : Rn d m_X4_log 39 [l0, l1, l2, l3] (vI b :: vI a :: st) σ Q ↔ Rn d m_X4_log 40 [l0, l1, l2, l3] (vI (a + b) :: st) σ Q := q10_0 (show fnd (pgm m_X4_log) 39 = some (40, 10, 0, 0, 0, []) from rfl)
set_option maxRecDepth 100000 in
theorem s_X4_log_40 {d : Nat} {l0 l1 l2 : AV} {st : List AV} {x : Int} {σ : Sg} {Q : AV → Sg → Prop}  : Rn d m_X4_log 40 [l0, l1, l2, vI x] st σ Q ↔ Rn d m_X4_log 41 [l0, l1, l2, vI x] (vI x :: st) σ Q := q3 (show fnd (pgm m_X4_log) 40 = some (41, 3, 0, 3, 0, []) from rfl) rfl
set_option maxRecDepth 100000 in
theorem s_X4_log_41 {d : Nat} {l0 l1 l2 l3 : AV} {st : List AV} {a b : Int} {σ : Sg} {Q : AV → Sg → Prop}  : Rn d m_X4_log 41 [l0, l1, l2, l3] (vI b :: vI a :: st) σ Q ↔ Rn d m_X4_log 42 [l0, l1, l2, l3] (vI (a + b) :: st) σ Q := q10_0 (show fnd (pgm m_X4_log) 41 = some (42, 10, 0, 0, 0, []) from rfl)
set_option maxRecDepth 100000 in
theorem s_X4_log_42 {d : Nat} {l0 l1 l2 l3 : AV} {st : List AV} {i x : Int} {o : Nat} {σ : Sg} {Q : AV → Sg → Prop} (hi : 0 ≤ w32 i ∧ w32 i < al σ 1 o) : Rn d m_X4_log 42 [l0, l1, l2, l3] (vI x :: vI i :: vR o :: st) σ Q ↔ Rn d m_X4_log 43 [l0, l1, l2, l3] st (up σ o (w32 i) x) Q := q29 (show fnd (pgm m_X4_log) 42 = some (43, 29, 0, 0, 0, []) from rfl) hi
set_option maxRecDepth 100000 in
theorem s_X4_log_43 {d : Nat} {l1 l2 l3 : AV} {st : List AV} {o : Nat} {σ : Sg} {Q : AV → Sg → Prop} (ho : o ≠ 0) : Rn d m_X4_log 43 [vR o, l1, l2, l3] st σ Q ↔ Rn d m_X4_log 44 [vR o, l1, l2, l3] (vR o :: st) σ Q := q5 (show fnd (pgm m_X4_log) 43 = some (44, 5, 0, 0, 0, []) from rfl) rfl ho
set_option maxRecDepth 100000 in
theorem s_X4_log_44 {d : Nat} {l0 l1 l2 l3 : AV} {st : List AV} {a : Int} {σ : Sg} {Q : AV → Sg → Prop} : Rn d m_X4_log 44 [l0, l1, l2, l3] (vI a :: st) σ Q ↔ Rn d m_X4_log 45 [l0, l1, l2, l3] (vI a :: vI a :: st) σ Q := q17i (show fnd (pgm m_X4_log) 44 = some (45, 17, 0, 0, 0, []) from rfl)
set_option maxRecDepth 100000 in
theorem s_X4_log_44r {d : Nat} {l0 l1 l2 l3 : AV} {st : List AV} {o : Nat} {σ : Sg} {Q : AV → Sg → Prop} : Rn d m_X4_log 44 [l0, l1, l2, l3] (vR o :: st) σ Q ↔ Rn d m_X4_log 45 [l0, l1, l2, l3] (vR o :: vR o :: st) σ Q := q17r (show fnd (pgm m_X4_log) 44 = some (45, 17, 0, 0, 0, []) from rfl)
set_option maxRecDepth 100000 in
theorem s_X4_log_45 {d : Nat} {l0 l1 l2 l3 : AV} {st : List AV} {o : Nat} {σ : Sg} {Q : AV → Sg → Prop} (hk : kn σ o = (0, 4)) : Rn d m_X4_log 45 [l0, l1, l2, l3] (vR o :: st) σ Q ↔ Rn d m_X4_log 48 [l0, l1, l2, l3] (vI (σ o 6) :: st) σ Q := q33 (show fnd (pgm m_X4_log) 45 = some (48, 33, 30, 4, 6, []) from rfl) hk
set_option maxRecDepth 100000 in
theorem s_X4_log_48 {d : Nat} {l0 l1 l2 l3 : AV} {st : List AV} {σ : Sg} {Q : AV → Sg → Prop}  : Rn d m_X4_log 48 [l0, l1, l2, l3] st σ Q ↔ Rn d m_X4_log 49 [l0, l1, l2, l3] (vI 1 :: st) σ Q := q0 (show fnd (pgm m_X4_log) 48 = some (49, 0, 1, 0, 0, []) from rfl)
set_option maxRecDepth 100000 in
theorem s_X4_log_49 {d : Nat} {l0 l1 l2 l3 : AV} {st : List AV} {a b : Int} {σ : Sg} {Q : AV → Sg → Prop}  : Rn d m_X4_log 49 [l0, l1, l2, l3] (vI b :: vI a :: st) σ Q ↔ Rn d m_X4_log 50 [l0, l1, l2, l3] (vI (a + b) :: st) σ Q := q10_0 (show fnd (pgm m_X4_log) 49 = some (50, 10, 0, 0, 0, []) from rfl)
set_option maxRecDepth 100000 in
theorem s_X4_log_50 {d : Nat} {l0 l1 l2 l3 : AV} {st : List AV} {o : Nat} {x : Int} {σ : Sg} {Q : AV → Sg → Prop} (hk : kn σ o = (0, 4)) : Rn d m_X4_log 50 [l0, l1, l2, l3] (vI x :: vR o :: st) σ Q ↔ Rn d m_X4_log 53 [l0, l1, l2, l3] st (up σ o 6 x) Q := q34i (show fnd (pgm m_X4_log) 50 = some (53, 34, 30, 4, 6, []) from rfl) hk rfl
set_option maxRecDepth 100000 in
theorem s_X4_log_53 {d : Nat} {l0 l1 l2 l3 : AV} {σ : Sg} {Q : AV → Sg → Prop}  : Rn d m_X4_log 53 [l0, l1, l2, l3] [] σ Q ↔ Q none σ := q37_0 (st := []) (show fnd (pgm m_X4_log) 53 = some (54, 37, 0, 0, 0, []) from rfl)
set_option maxRecDepth 100000 in
theorem en_X4_nightOf {d : Nat} {o : Nat} {a0 : Int} {σ σ0 : Sg} {r0 : AV} (h : Rn d m_X4_nightOf 0 [vR o, vI a0] [] σ (fun r σ1 => r = r0 ∧ σ1 = σ0)) : Ev (d + 1) m_X4_nightOf [vR o, vI a0] σ r0 σ0 := Ev_is (Nat.le_of_ble_eq_true rfl) h
set_option maxRecDepth 100000 in
theorem eo_X4_nightOf {d : Nat} {o : Nat} {a0 : Int} {σ : Sg} {Q : AV → Sg → Prop} (h : Rn d m_X4_nightOf 0 [vR o, vI a0] [] σ Q) : ∃ r σ1, Ev (d + 1) m_X4_nightOf [vR o, vI a0] σ r σ1 ∧ Q r σ1 := Ev_of (Nat.le_of_ble_eq_true rfl) h
set_option maxRecDepth 100000 in
theorem s_X4_nightOf_0 {d : Nat} {l1 : AV} {st : List AV} {o : Nat} {σ : Sg} {Q : AV → Sg → Prop} (ho : o ≠ 0) : Rn d m_X4_nightOf 0 [vR o, l1] st σ Q ↔ Rn d m_X4_nightOf 1 [vR o, l1] (vR o :: st) σ Q := q5 (show fnd (pgm m_X4_nightOf) 0 = some (1, 5, 0, 0, 0, []) from rfl) rfl ho
set_option maxRecDepth 100000 in
theorem s_X4_nightOf_1 {d : Nat} {l0 l1 : AV} {st : List AV} {o : Nat} {σ : Sg} {Q : AV → Sg → Prop} (hk : kn σ o = (0, 4)) : Rn d m_X4_nightOf 1 [l0, l1] (vR o :: st) σ Q ↔ Rn d m_X4_nightOf 4 [l0, l1] (vR (tp o 5) :: st) σ Q := q33 (show fnd (pgm m_X4_nightOf) 1 = some (4, 33, 27, 4, 5, []) from rfl) hk
set_option maxRecDepth 100000 in
theorem s_X4_nightOf_4 {d : Nat} {l0 : AV} {st : List AV} {x : Int} {σ : Sg} {Q : AV → Sg → Prop}  : Rn d m_X4_nightOf 4 [l0, vI x] st σ Q ↔ Rn d m_X4_nightOf 5 [l0, vI x] (vI x :: st) σ Q := q3 (show fnd (pgm m_X4_nightOf) 4 = some (5, 3, 0, 1, 0, []) from rfl) rfl
set_option maxRecDepth 100000 in
theorem s_X4_nightOf_5 {d : Nat} {l0 l1 : AV} {st : List AV} {i : Int} {o : Nat} {σ : Sg} {Q : AV → Sg → Prop} (hi : 0 ≤ w32 i ∧ w32 i < al σ 1 o) : Rn d m_X4_nightOf 5 [l0, l1] (vI i :: vR o :: st) σ Q ↔ Rn d m_X4_nightOf 6 [l0, l1] (vI (σ o (w32 i)) :: st) σ Q := q25 (show fnd (pgm m_X4_nightOf) 5 = some (6, 25, 0, 0, 0, []) from rfl) hi
set_option maxRecDepth 100000 in
theorem s_X4_nightOf_6 {d : Nat} {l0 l1 : AV} {st : List AV} {σ : Sg} {Q : AV → Sg → Prop}  : Rn d m_X4_nightOf 6 [l0, l1] st σ Q ↔ Rn d m_X4_nightOf 8 [l0, l1] (vI 100 :: st) σ Q := q0 (show fnd (pgm m_X4_nightOf) 6 = some (8, 0, 100, 1, 0, []) from rfl)
set_option maxRecDepth 100000 in
theorem s_X4_nightOf_8 {d : Nat} {l0 l1 : AV} {st : List AV} {a b : Int} {σ : Sg} {Q : AV → Sg → Prop} (h0 : w32 b ≠ 0) : Rn d m_X4_nightOf 8 [l0, l1] (vI b :: vI a :: st) σ Q ↔ Rn d m_X4_nightOf 9 [l0, l1] (vI (div32 a b) :: st) σ Q := q10_3 (show fnd (pgm m_X4_nightOf) 8 = some (9, 10, 0, 3, 0, []) from rfl) h0
set_option maxRecDepth 100000 in
theorem s_X4_nightOf_9 {d : Nat} {l0 l1 : AV} {x : Int} {σ : Sg} {Q : AV → Sg → Prop}  : Rn d m_X4_nightOf 9 [l0, l1] [vI x] σ Q ↔ Q (vI x) σ := q37_1 (st := []) (show fnd (pgm m_X4_nightOf) 9 = some (10, 37, 0, 1, 0, []) from rfl)
set_option maxRecDepth 100000 in
theorem en_X4_stoneOf {d : Nat} {o : Nat} {a0 : Int} {σ σ0 : Sg} {r0 : AV} (h : Rn d m_X4_stoneOf 0 [vR o, vI a0] [] σ (fun r σ1 => r = r0 ∧ σ1 = σ0)) : Ev (d + 1) m_X4_stoneOf [vR o, vI a0] σ r0 σ0 := Ev_is (Nat.le_of_ble_eq_true rfl) h
set_option maxRecDepth 100000 in
theorem eo_X4_stoneOf {d : Nat} {o : Nat} {a0 : Int} {σ : Sg} {Q : AV → Sg → Prop} (h : Rn d m_X4_stoneOf 0 [vR o, vI a0] [] σ Q) : ∃ r σ1, Ev (d + 1) m_X4_stoneOf [vR o, vI a0] σ r σ1 ∧ Q r σ1 := Ev_of (Nat.le_of_ble_eq_true rfl) h
set_option maxRecDepth 100000 in
theorem s_X4_stoneOf_0 {d : Nat} {l1 : AV} {st : List AV} {o : Nat} {σ : Sg} {Q : AV → Sg → Prop} (ho : o ≠ 0) : Rn d m_X4_stoneOf 0 [vR o, l1] st σ Q ↔ Rn d m_X4_stoneOf 1 [vR o, l1] (vR o :: st) σ Q := q5 (show fnd (pgm m_X4_stoneOf) 0 = some (1, 5, 0, 0, 0, []) from rfl) rfl ho
set_option maxRecDepth 100000 in
theorem s_X4_stoneOf_1 {d : Nat} {l0 l1 : AV} {st : List AV} {o : Nat} {σ : Sg} {Q : AV → Sg → Prop} (hk : kn σ o = (0, 4)) : Rn d m_X4_stoneOf 1 [l0, l1] (vR o :: st) σ Q ↔ Rn d m_X4_stoneOf 4 [l0, l1] (vR (tp o 5) :: st) σ Q := q33 (show fnd (pgm m_X4_stoneOf) 1 = some (4, 33, 27, 4, 5, []) from rfl) hk
set_option maxRecDepth 100000 in
theorem s_X4_stoneOf_4 {d : Nat} {l0 : AV} {st : List AV} {x : Int} {σ : Sg} {Q : AV → Sg → Prop}  : Rn d m_X4_stoneOf 4 [l0, vI x] st σ Q ↔ Rn d m_X4_stoneOf 5 [l0, vI x] (vI x :: st) σ Q := q3 (show fnd (pgm m_X4_stoneOf) 4 = some (5, 3, 0, 1, 0, []) from rfl) rfl
set_option maxRecDepth 100000 in
theorem s_X4_stoneOf_5 {d : Nat} {l0 l1 : AV} {st : List AV} {i : Int} {o : Nat} {σ : Sg} {Q : AV → Sg → Prop} (hi : 0 ≤ w32 i ∧ w32 i < al σ 1 o) : Rn d m_X4_stoneOf 5 [l0, l1] (vI i :: vR o :: st) σ Q ↔ Rn d m_X4_stoneOf 6 [l0, l1] (vI (σ o (w32 i)) :: st) σ Q := q25 (show fnd (pgm m_X4_stoneOf) 5 = some (6, 25, 0, 0, 0, []) from rfl) hi
set_option maxRecDepth 100000 in
theorem s_X4_stoneOf_6 {d : Nat} {l0 l1 : AV} {st : List AV} {σ : Sg} {Q : AV → Sg → Prop}  : Rn d m_X4_stoneOf 6 [l0, l1] st σ Q ↔ Rn d m_X4_stoneOf 8 [l0, l1] (vI 10 :: st) σ Q := q0 (show fnd (pgm m_X4_stoneOf) 6 = some (8, 0, 10, 1, 0, []) from rfl)
set_option maxRecDepth 100000 in
theorem s_X4_stoneOf_8 {d : Nat} {l0 l1 : AV} {st : List AV} {a b : Int} {σ : Sg} {Q : AV → Sg → Prop} (h0 : w32 b ≠ 0) : Rn d m_X4_stoneOf 8 [l0, l1] (vI b :: vI a :: st) σ Q ↔ Rn d m_X4_stoneOf 9 [l0, l1] (vI (div32 a b) :: st) σ Q := q10_3 (show fnd (pgm m_X4_stoneOf) 8 = some (9, 10, 0, 3, 0, []) from rfl) h0
set_option maxRecDepth 100000 in
theorem s_X4_stoneOf_9 {d : Nat} {l0 l1 : AV} {st : List AV} {σ : Sg} {Q : AV → Sg → Prop}  : Rn d m_X4_stoneOf 9 [l0, l1] st σ Q ↔ Rn d m_X4_stoneOf 11 [l0, l1] (vI 10 :: st) σ Q := q0 (show fnd (pgm m_X4_stoneOf) 9 = some (11, 0, 10, 1, 0, []) from rfl)
set_option maxRecDepth 100000 in
theorem s_X4_stoneOf_11 {d : Nat} {l0 l1 : AV} {st : List AV} {a b : Int} {σ : Sg} {Q : AV → Sg → Prop} (h0 : w32 b ≠ 0) : Rn d m_X4_stoneOf 11 [l0, l1] (vI b :: vI a :: st) σ Q ↔ Rn d m_X4_stoneOf 12 [l0, l1] (vI (rem32 a b) :: st) σ Q := q10_4 (show fnd (pgm m_X4_stoneOf) 11 = some (12, 10, 0, 4, 0, []) from rfl) h0
set_option maxRecDepth 100000 in
theorem s_X4_stoneOf_12 {d : Nat} {l0 l1 : AV} {x : Int} {σ : Sg} {Q : AV → Sg → Prop}  : Rn d m_X4_stoneOf 12 [l0, l1] [vI x] σ Q ↔ Q (vI x) σ := q37_1 (st := []) (show fnd (pgm m_X4_stoneOf) 12 = some (13, 37, 0, 1, 0, []) from rfl)
set_option maxRecDepth 100000 in
theorem en_X4_wayOfStep {d : Nat} {o : Nat} {a0 : Int} {σ σ0 : Sg} {r0 : AV} (h : Rn d m_X4_wayOfStep 0 [vR o, vI a0] [] σ (fun r σ1 => r = r0 ∧ σ1 = σ0)) : Ev (d + 1) m_X4_wayOfStep [vR o, vI a0] σ r0 σ0 := Ev_is (Nat.le_of_ble_eq_true rfl) h
set_option maxRecDepth 100000 in
theorem eo_X4_wayOfStep {d : Nat} {o : Nat} {a0 : Int} {σ : Sg} {Q : AV → Sg → Prop} (h : Rn d m_X4_wayOfStep 0 [vR o, vI a0] [] σ Q) : ∃ r σ1, Ev (d + 1) m_X4_wayOfStep [vR o, vI a0] σ r σ1 ∧ Q r σ1 := Ev_of (Nat.le_of_ble_eq_true rfl) h
set_option maxRecDepth 100000 in
theorem s_X4_wayOfStep_0 {d : Nat} {l1 : AV} {st : List AV} {o : Nat} {σ : Sg} {Q : AV → Sg → Prop} (ho : o ≠ 0) : Rn d m_X4_wayOfStep 0 [vR o, l1] st σ Q ↔ Rn d m_X4_wayOfStep 1 [vR o, l1] (vR o :: st) σ Q := q5 (show fnd (pgm m_X4_wayOfStep) 0 = some (1, 5, 0, 0, 0, []) from rfl) rfl ho
set_option maxRecDepth 100000 in
theorem s_X4_wayOfStep_1 {d : Nat} {l0 l1 : AV} {st : List AV} {o : Nat} {σ : Sg} {Q : AV → Sg → Prop} (hk : kn σ o = (0, 4)) : Rn d m_X4_wayOfStep 1 [l0, l1] (vR o :: st) σ Q ↔ Rn d m_X4_wayOfStep 4 [l0, l1] (vR (tp o 5) :: st) σ Q := q33 (show fnd (pgm m_X4_wayOfStep) 1 = some (4, 33, 27, 4, 5, []) from rfl) hk
set_option maxRecDepth 100000 in
theorem s_X4_wayOfStep_4 {d : Nat} {l0 : AV} {st : List AV} {x : Int} {σ : Sg} {Q : AV → Sg → Prop}  : Rn d m_X4_wayOfStep 4 [l0, vI x] st σ Q ↔ Rn d m_X4_wayOfStep 5 [l0, vI x] (vI x :: st) σ Q := q3 (show fnd (pgm m_X4_wayOfStep) 4 = some (5, 3, 0, 1, 0, []) from rfl) rfl
set_option maxRecDepth 100000 in
theorem s_X4_wayOfStep_5 {d : Nat} {l0 l1 : AV} {st : List AV} {i : Int} {o : Nat} {σ : Sg} {Q : AV → Sg → Prop} (hi : 0 ≤ w32 i ∧ w32 i < al σ 1 o) : Rn d m_X4_wayOfStep 5 [l0, l1] (vI i :: vR o :: st) σ Q ↔ Rn d m_X4_wayOfStep 6 [l0, l1] (vI (σ o (w32 i)) :: st) σ Q := q25 (show fnd (pgm m_X4_wayOfStep) 5 = some (6, 25, 0, 0, 0, []) from rfl) hi
set_option maxRecDepth 100000 in
theorem s_X4_wayOfStep_6 {d : Nat} {l0 l1 : AV} {st : List AV} {σ : Sg} {Q : AV → Sg → Prop}  : Rn d m_X4_wayOfStep 6 [l0, l1] st σ Q ↔ Rn d m_X4_wayOfStep 8 [l0, l1] (vI 10 :: st) σ Q := q0 (show fnd (pgm m_X4_wayOfStep) 6 = some (8, 0, 10, 1, 0, []) from rfl)
set_option maxRecDepth 100000 in
theorem s_X4_wayOfStep_8 {d : Nat} {l0 l1 : AV} {st : List AV} {a b : Int} {σ : Sg} {Q : AV → Sg → Prop} (h0 : w32 b ≠ 0) : Rn d m_X4_wayOfStep 8 [l0, l1] (vI b :: vI a :: st) σ Q ↔ Rn d m_X4_wayOfStep 9 [l0, l1] (vI (rem32 a b) :: st) σ Q := q10_4 (show fnd (pgm m_X4_wayOfStep) 8 = some (9, 10, 0, 4, 0, []) from rfl) h0
set_option maxRecDepth 100000 in
theorem s_X4_wayOfStep_9 {d : Nat} {l0 l1 : AV} {x : Int} {σ : Sg} {Q : AV → Sg → Prop}  : Rn d m_X4_wayOfStep 9 [l0, l1] [vI x] σ Q ↔ Q (vI x) σ := q37_1 (st := []) (show fnd (pgm m_X4_wayOfStep) 9 = some (10, 37, 0, 1, 0, []) from rfl)
set_option maxRecDepth 100000 in
theorem en_X4_stepsOf {d : Nat} {o : Nat} {a0 : Int} {σ σ0 : Sg} {r0 : AV} (h : Rn d m_X4_stepsOf 0 [vR o, vI a0, none, none] [] σ (fun r σ1 => r = r0 ∧ σ1 = σ0)) : Ev (d + 1) m_X4_stepsOf [vR o, vI a0] σ r0 σ0 := Ev_is (Nat.le_of_ble_eq_true rfl) h
set_option maxRecDepth 100000 in
theorem eo_X4_stepsOf {d : Nat} {o : Nat} {a0 : Int} {σ : Sg} {Q : AV → Sg → Prop} (h : Rn d m_X4_stepsOf 0 [vR o, vI a0, none, none] [] σ Q) : ∃ r σ1, Ev (d + 1) m_X4_stepsOf [vR o, vI a0] σ r σ1 ∧ Q r σ1 := Ev_of (Nat.le_of_ble_eq_true rfl) h
set_option maxRecDepth 100000 in
theorem s_X4_stepsOf_0 {d : Nat} {l0 l1 l2 l3 : AV} {st : List AV} {σ : Sg} {Q : AV → Sg → Prop}  : Rn d m_X4_stepsOf 0 [l0, l1, l2, l3] st σ Q ↔ Rn d m_X4_stepsOf 1 [l0, l1, l2, l3] (vI 0 :: st) σ Q := q0 (show fnd (pgm m_X4_stepsOf) 0 = some (1, 0, 0, 0, 0, []) from rfl)
set_option maxRecDepth 100000 in
theorem s_X4_stepsOf_1 {d : Nat} {l0 l1 l2 l3 : AV} {st : List AV} {x : Int} {σ : Sg} {Q : AV → Sg → Prop}  : Rn d m_X4_stepsOf 1 [l0, l1, l2, l3] (vI x :: st) σ Q ↔ Rn d m_X4_stepsOf 2 [l0, l1, vI x, l3] st σ Q := q6 (show fnd (pgm m_X4_stepsOf) 1 = some (2, 6, 0, 2, 0, []) from rfl) (by decide : 2 < 4)
set_option maxRecDepth 100000 in
theorem s_X4_stepsOf_2 {d : Nat} {l0 l1 l2 l3 : AV} {st : List AV} {σ : Sg} {Q : AV → Sg → Prop}  : Rn d m_X4_stepsOf 2 [l0, l1, l2, l3] st σ Q ↔ Rn d m_X4_stepsOf 3 [l0, l1, l2, l3] (vI 0 :: st) σ Q := q0 (show fnd (pgm m_X4_stepsOf) 2 = some (3, 0, 0, 0, 0, []) from rfl)
set_option maxRecDepth 100000 in
theorem s_X4_stepsOf_3 {d : Nat} {l0 l1 l2 l3 : AV} {st : List AV} {x : Int} {σ : Sg} {Q : AV → Sg → Prop}  : Rn d m_X4_stepsOf 3 [l0, l1, l2, l3] (vI x :: st) σ Q ↔ Rn d m_X4_stepsOf 4 [l0, l1, l2, vI x] st σ Q := q6 (show fnd (pgm m_X4_stepsOf) 3 = some (4, 6, 0, 3, 0, []) from rfl) (by decide : 3 < 4)
set_option maxRecDepth 100000 in
theorem s_X4_stepsOf_4 {d : Nat} {l0 l1 l2 : AV} {st : List AV} {x : Int} {σ : Sg} {Q : AV → Sg → Prop}  : Rn d m_X4_stepsOf 4 [l0, l1, l2, vI x] st σ Q ↔ Rn d m_X4_stepsOf 5 [l0, l1, l2, vI x] (vI x :: st) σ Q := q3 (show fnd (pgm m_X4_stepsOf) 4 = some (5, 3, 0, 3, 0, []) from rfl) rfl
set_option maxRecDepth 100000 in
theorem s_X4_stepsOf_5 {d : Nat} {l1 l2 l3 : AV} {st : List AV} {o : Nat} {σ : Sg} {Q : AV → Sg → Prop} (ho : o ≠ 0) : Rn d m_X4_stepsOf 5 [vR o, l1, l2, l3] st σ Q ↔ Rn d m_X4_stepsOf 6 [vR o, l1, l2, l3] (vR o :: st) σ Q := q5 (show fnd (pgm m_X4_stepsOf) 5 = some (6, 5, 0, 0, 0, []) from rfl) rfl ho
set_option maxRecDepth 100000 in
theorem s_X4_stepsOf_6 {d : Nat} {l0 l1 l2 l3 : AV} {st : List AV} {o : Nat} {σ : Sg} {Q : AV → Sg → Prop} (hk : kn σ o = (0, 4)) : Rn d m_X4_stepsOf 6 [l0, l1, l2, l3] (vR o :: st) σ Q ↔ Rn d m_X4_stepsOf 9 [l0, l1, l2, l3] (vI (σ o 6) :: st) σ Q := q33 (show fnd (pgm m_X4_stepsOf) 6 = some (9, 33, 30, 4, 6, []) from rfl) hk
set_option maxRecDepth 100000 in
theorem s_X4_stepsOf_9 {d : Nat} {l0 l1 l2 l3 : AV} {st : List AV} {a b : Int} {σ : Sg} {Q : AV → Sg → Prop}  : Rn d m_X4_stepsOf 9 [l0, l1, l2, l3] (vI b :: vI a :: st) σ Q ↔ if w32 b ≤ w32 a then Rn d m_X4_stepsOf 30 [l0, l1, l2, l3] st σ Q else Rn d m_X4_stepsOf 12 [l0, l1, l2, l3] st σ Q := q20_3 (show fnd (pgm m_X4_stepsOf) 9 = some (12, 20, 0, 3, 30, []) from rfl)
set_option maxRecDepth 100000 in
theorem s_X4_stepsOf_12 {d : Nat} {l1 l2 l3 : AV} {st : List AV} {o : Nat} {σ : Sg} {Q : AV → Sg → Prop} (ho : o ≠ 0) : Rn d m_X4_stepsOf 12 [vR o, l1, l2, l3] st σ Q ↔ Rn d m_X4_stepsOf 13 [vR o, l1, l2, l3] (vR o :: st) σ Q := q5 (show fnd (pgm m_X4_stepsOf) 12 = some (13, 5, 0, 0, 0, []) from rfl) rfl ho
set_option maxRecDepth 100000 in
theorem s_X4_stepsOf_13 {d : Nat} {l0 l1 l2 : AV} {st : List AV} {x : Int} {σ : Sg} {Q : AV → Sg → Prop}  : Rn d m_X4_stepsOf 13 [l0, l1, l2, vI x] st σ Q ↔ Rn d m_X4_stepsOf 14 [l0, l1, l2, vI x] (vI x :: st) σ Q := q3 (show fnd (pgm m_X4_stepsOf) 13 = some (14, 3, 0, 3, 0, []) from rfl) rfl
set_option maxRecDepth 100000 in
theorem s_X4_stepsOf_14 {d : Nat} {l0 l1 l2 l3 : AV} {st : List AV} {o : Nat} {a0 : Int} {σ : Sg} {Q : AV → Sg → Prop} (h4 : st.length ≤ 4) (hk : kn σ o = (0, 4)) : Rn d m_X4_stepsOf 14 [l0, l1, l2, l3] (vI a0 :: vR o :: st) σ Q ↔ ∃ r σ1, Ev d m_X4_stoneOf [vR o, vI a0] σ r σ1 ∧ Rn d m_X4_stepsOf 17 [l0, l1, l2, l3] (psh r st) σ1 Q := q35 (show fnd (pgm m_X4_stepsOf) 14 = some (17, 35, 121, 45, 2, []) from rfl) ⟨⟨by simp, by simpa using h4⟩, (by simp only [List.take, List.reverse, List.reverseAux, rcv]; rw [if_neg (by decide +kernel)]; exact decide_eq_true hk)⟩
set_option maxRecDepth 100000 in
theorem s_X4_stepsOf_17 {d : Nat} {l0 l2 l3 : AV} {st : List AV} {x : Int} {σ : Sg} {Q : AV → Sg → Prop}  : Rn d m_X4_stepsOf 17 [l0, vI x, l2, l3] st σ Q ↔ Rn d m_X4_stepsOf 18 [l0, vI x, l2, l3] (vI x :: st) σ Q := q3 (show fnd (pgm m_X4_stepsOf) 17 = some (18, 3, 0, 1, 0, []) from rfl) rfl
set_option maxRecDepth 100000 in
theorem s_X4_stepsOf_18 {d : Nat} {l0 l1 l2 l3 : AV} {st : List AV} {a b : Int} {σ : Sg} {Q : AV → Sg → Prop}  : Rn d m_X4_stepsOf 18 [l0, l1, l2, l3] (vI b :: vI a :: st) σ Q ↔ if ¬ w32 a = w32 b then Rn d m_X4_stepsOf 24 [l0, l1, l2, l3] st σ Q else Rn d m_X4_stepsOf 21 [l0, l1, l2, l3] st σ Q := q20_1 (show fnd (pgm m_X4_stepsOf) 18 = some (21, 20, 0, 1, 24, []) from rfl)
set_option maxRecDepth 100000 in
theorem s_X4_stepsOf_21 {d : Nat} {l0 l1 l3 : AV} {st : List AV} {x : Int} {σ : Sg} {Q : AV → Sg → Prop}  : Rn d m_X4_stepsOf 21 [l0, l1, vI x, l3] st σ Q ↔ Rn d m_X4_stepsOf 24 [l0, l1, vI (x + 1), l3] st σ Q := q9 (show fnd (pgm m_X4_stepsOf) 21 = some (24, 9, 1, 2, 0, []) from rfl) rfl
set_option maxRecDepth 100000 in
theorem s_X4_stepsOf_24 {d : Nat} {l0 l1 l2 : AV} {st : List AV} {x : Int} {σ : Sg} {Q : AV → Sg → Prop}  : Rn d m_X4_stepsOf 24 [l0, l1, l2, vI x] st σ Q ↔ Rn d m_X4_stepsOf 27 [l0, l1, l2, vI (x + 1)] st σ Q := q9 (show fnd (pgm m_X4_stepsOf) 24 = some (27, 9, 1, 3, 0, []) from rfl) rfl
set_option maxRecDepth 100000 in
theorem s_X4_stepsOf_27 {d : Nat} {l0 l1 l2 l3 : AV} {st : List AV} {σ : Sg} {Q : AV → Sg → Prop}  : Rn d m_X4_stepsOf 27 [l0, l1, l2, l3] st σ Q ↔ Rn d m_X4_stepsOf 4 [l0, l1, l2, l3] st σ Q := q21 (show fnd (pgm m_X4_stepsOf) 27 = some (30, 21, 0, 0, 4, []) from rfl)
set_option maxRecDepth 100000 in
theorem s_X4_stepsOf_30 {d : Nat} {l0 l1 l3 : AV} {st : List AV} {x : Int} {σ : Sg} {Q : AV → Sg → Prop}  : Rn d m_X4_stepsOf 30 [l0, l1, vI x, l3] st σ Q ↔ Rn d m_X4_stepsOf 31 [l0, l1, vI x, l3] (vI x :: st) σ Q := q3 (show fnd (pgm m_X4_stepsOf) 30 = some (31, 3, 0, 2, 0, []) from rfl) rfl
set_option maxRecDepth 100000 in
theorem s_X4_stepsOf_31 {d : Nat} {l0 l1 l2 l3 : AV} {x : Int} {σ : Sg} {Q : AV → Sg → Prop}  : Rn d m_X4_stepsOf 31 [l0, l1, l2, l3] [vI x] σ Q ↔ Q (vI x) σ := q37_1 (st := []) (show fnd (pgm m_X4_stepsOf) 31 = some (32, 37, 0, 1, 0, []) from rfl)
set_option maxRecDepth 100000 in
theorem en_X4_nightsOfStep {d : Nat} {o : Nat} {a0 : Int} {a1 : Int} {a2 : Int} {σ σ0 : Sg} {r0 : AV} (h : Rn d m_X4_nightsOfStep 0 [vR o, vI a0, vI a1, vI a2, none, none] [] σ (fun r σ1 => r = r0 ∧ σ1 = σ0)) : Ev (d + 1) m_X4_nightsOfStep [vR o, vI a0, vI a1, vI a2] σ r0 σ0 := Ev_is (Nat.le_of_ble_eq_true rfl) h
set_option maxRecDepth 100000 in
theorem eo_X4_nightsOfStep {d : Nat} {o : Nat} {a0 : Int} {a1 : Int} {a2 : Int} {σ : Sg} {Q : AV → Sg → Prop} (h : Rn d m_X4_nightsOfStep 0 [vR o, vI a0, vI a1, vI a2, none, none] [] σ Q) : ∃ r σ1, Ev (d + 1) m_X4_nightsOfStep [vR o, vI a0, vI a1, vI a2] σ r σ1 ∧ Q r σ1 := Ev_of (Nat.le_of_ble_eq_true rfl) h
set_option maxRecDepth 100000 in
theorem s_X4_nightsOfStep_0 {d : Nat} {l0 l1 l2 l3 l4 l5 : AV} {st : List AV} {σ : Sg} {Q : AV → Sg → Prop}  : Rn d m_X4_nightsOfStep 0 [l0, l1, l2, l3, l4, l5] st σ Q ↔ Rn d m_X4_nightsOfStep 1 [l0, l1, l2, l3, l4, l5] (vI 0 :: st) σ Q := q0 (show fnd (pgm m_X4_nightsOfStep) 0 = some (1, 0, 0, 0, 0, []) from rfl)
set_option maxRecDepth 100000 in
theorem s_X4_nightsOfStep_1 {d : Nat} {l0 l1 l2 l3 l4 l5 : AV} {st : List AV} {x : Int} {σ : Sg} {Q : AV → Sg → Prop}  : Rn d m_X4_nightsOfStep 1 [l0, l1, l2, l3, l4, l5] (vI x :: st) σ Q ↔ Rn d m_X4_nightsOfStep 3 [l0, l1, l2, l3, vI x, l5] st σ Q := q6 (show fnd (pgm m_X4_nightsOfStep) 1 = some (3, 6, 0, 4, 1, []) from rfl) (by decide : 4 < 6)
set_option maxRecDepth 100000 in
theorem s_X4_nightsOfStep_3 {d : Nat} {l0 l1 l2 l3 l4 l5 : AV} {st : List AV} {σ : Sg} {Q : AV → Sg → Prop}  : Rn d m_X4_nightsOfStep 3 [l0, l1, l2, l3, l4, l5] st σ Q ↔ Rn d m_X4_nightsOfStep 4 [l0, l1, l2, l3, l4, l5] (vI 0 :: st) σ Q := q0 (show fnd (pgm m_X4_nightsOfStep) 3 = some (4, 0, 0, 0, 0, []) from rfl)
set_option maxRecDepth 100000 in
theorem s_X4_nightsOfStep_4 {d : Nat} {l0 l1 l2 l3 l4 l5 : AV} {st : List AV} {x : Int} {σ : Sg} {Q : AV → Sg → Prop}  : Rn d m_X4_nightsOfStep 4 [l0, l1, l2, l3, l4, l5] (vI x :: st) σ Q ↔ Rn d m_X4_nightsOfStep 6 [l0, l1, l2, l3, l4, vI x] st σ Q := q6 (show fnd (pgm m_X4_nightsOfStep) 4 = some (6, 6, 0, 5, 1, []) from rfl) (by decide : 5 < 6)
set_option maxRecDepth 100000 in
theorem s_X4_nightsOfStep_6 {d : Nat} {l0 l1 l2 l3 l4 : AV} {st : List AV} {x : Int} {σ : Sg} {Q : AV → Sg → Prop}  : Rn d m_X4_nightsOfStep 6 [l0, l1, l2, l3, l4, vI x] st σ Q ↔ Rn d m_X4_nightsOfStep 8 [l0, l1, l2, l3, l4, vI x] (vI x :: st) σ Q := q3 (show fnd (pgm m_X4_nightsOfStep) 6 = some (8, 3, 0, 5, 1, []) from rfl) rfl
set_option maxRecDepth 100000 in
theorem s_X4_nightsOfStep_8 {d : Nat} {l1 l2 l3 l4 l5 : AV} {st : List AV} {o : Nat} {σ : Sg} {Q : AV → Sg → Prop} (ho : o ≠ 0) : Rn d m_X4_nightsOfStep 8 [vR o, l1, l2, l3, l4, l5] st σ Q ↔ Rn d m_X4_nightsOfStep 9 [vR o, l1, l2, l3, l4, l5] (vR o :: st) σ Q := q5 (show fnd (pgm m_X4_nightsOfStep) 8 = some (9, 5, 0, 0, 0, []) from rfl) rfl ho
set_option maxRecDepth 100000 in
theorem s_X4_nightsOfStep_9 {d : Nat} {l0 l1 l2 l3 l4 l5 : AV} {st : List AV} {o : Nat} {σ : Sg} {Q : AV → Sg → Prop} (hk : kn σ o = (0, 4)) : Rn d m_X4_nightsOfStep 9 [l0, l1, l2, l3, l4, l5] (vR o :: st) σ Q ↔ Rn d m_X4_nightsOfStep 12 [l0, l1, l2, l3, l4, l5] (vI (σ o 6) :: st) σ Q := q33 (show fnd (pgm m_X4_nightsOfStep) 9 = some (12, 33, 30, 4, 6, []) from rfl) hk
set_option maxRecDepth 100000 in
theorem s_X4_nightsOfStep_12 {d : Nat} {l0 l1 l2 l3 l4 l5 : AV} {st : List AV} {a b : Int} {σ : Sg} {Q : AV → Sg → Prop}  : Rn d m_X4_nightsOfStep 12 [l0, l1, l2, l3, l4, l5] (vI b :: vI a :: st) σ Q ↔ if w32 b ≤ w32 a then Rn d m_X4_nightsOfStep 65 [l0, l1, l2, l3, l4, l5] st σ Q else Rn d m_X4_nightsOfStep 15 [l0, l1, l2, l3, l4, l5] st σ Q := q20_3 (show fnd (pgm m_X4_nightsOfStep) 12 = some (15, 20, 0, 3, 65, []) from rfl)
set_option maxRecDepth 100000 in
theorem s_X4_nightsOfStep_15 {d : Nat} {l1 l2 l3 l4 l5 : AV} {st : List AV} {o : Nat} {σ : Sg} {Q : AV → Sg → Prop} (ho : o ≠ 0) : Rn d m_X4_nightsOfStep 15 [vR o, l1, l2, l3, l4, l5] st σ Q ↔ Rn d m_X4_nightsOfStep 16 [vR o, l1, l2, l3, l4, l5] (vR o :: st) σ Q := q5 (show fnd (pgm m_X4_nightsOfStep) 15 = some (16, 5, 0, 0, 0, []) from rfl) rfl ho
set_option maxRecDepth 100000 in
theorem s_X4_nightsOfStep_16 {d : Nat} {l0 l1 l2 l3 l4 l5 : AV} {st : List AV} {o : Nat} {σ : Sg} {Q : AV → Sg → Prop} (hk : kn σ o = (0, 4)) : Rn d m_X4_nightsOfStep 16 [l0, l1, l2, l3, l4, l5] (vR o :: st) σ Q ↔ Rn d m_X4_nightsOfStep 19 [l0, l1, l2, l3, l4, l5] (vR (tp o 4) :: st) σ Q := q33 (show fnd (pgm m_X4_nightsOfStep) 16 = some (19, 33, 24, 4, 4, []) from rfl) hk
set_option maxRecDepth 100000 in
theorem s_X4_nightsOfStep_19 {d : Nat} {l0 l1 l2 l3 l4 : AV} {st : List AV} {x : Int} {σ : Sg} {Q : AV → Sg → Prop}  : Rn d m_X4_nightsOfStep 19 [l0, l1, l2, l3, l4, vI x] st σ Q ↔ Rn d m_X4_nightsOfStep 21 [l0, l1, l2, l3, l4, vI x] (vI x :: st) σ Q := q3 (show fnd (pgm m_X4_nightsOfStep) 19 = some (21, 3, 0, 5, 1, []) from rfl) rfl
set_option maxRecDepth 100000 in
theorem s_X4_nightsOfStep_21 {d : Nat} {l0 l1 l2 l3 l4 l5 : AV} {st : List AV} {i : Int} {o : Nat} {σ : Sg} {Q : AV → Sg → Prop} (hi : 0 ≤ w32 i ∧ w32 i < al σ 1 o) : Rn d m_X4_nightsOfStep 21 [l0, l1, l2, l3, l4, l5] (vI i :: vR o :: st) σ Q ↔ Rn d m_X4_nightsOfStep 22 [l0, l1, l2, l3, l4, l5] (vI (σ o (w32 i)) :: st) σ Q := q25 (show fnd (pgm m_X4_nightsOfStep) 21 = some (22, 25, 0, 0, 0, []) from rfl) hi
set_option maxRecDepth 100000 in
theorem s_X4_nightsOfStep_22 {d : Nat} {l0 l1 l3 l4 l5 : AV} {st : List AV} {x : Int} {σ : Sg} {Q : AV → Sg → Prop}  : Rn d m_X4_nightsOfStep 22 [l0, l1, vI x, l3, l4, l5] st σ Q ↔ Rn d m_X4_nightsOfStep 23 [l0, l1, vI x, l3, l4, l5] (vI x :: st) σ Q := q3 (show fnd (pgm m_X4_nightsOfStep) 22 = some (23, 3, 0, 2, 0, []) from rfl) rfl
set_option maxRecDepth 100000 in
theorem s_X4_nightsOfStep_23 {d : Nat} {l0 l1 l2 l3 l4 l5 : AV} {st : List AV} {a b : Int} {σ : Sg} {Q : AV → Sg → Prop}  : Rn d m_X4_nightsOfStep 23 [l0, l1, l2, l3, l4, l5] (vI b :: vI a :: st) σ Q ↔ if ¬ w32 a = w32 b then Rn d m_X4_nightsOfStep 59 [l0, l1, l2, l3, l4, l5] st σ Q else Rn d m_X4_nightsOfStep 26 [l0, l1, l2, l3, l4, l5] st σ Q := q20_1 (show fnd (pgm m_X4_nightsOfStep) 23 = some (26, 20, 0, 1, 59, []) from rfl)
set_option maxRecDepth 100000 in
theorem s_X4_nightsOfStep_26 {d : Nat} {l1 l2 l3 l4 l5 : AV} {st : List AV} {o : Nat} {σ : Sg} {Q : AV → Sg → Prop} (ho : o ≠ 0) : Rn d m_X4_nightsOfStep 26 [vR o, l1, l2, l3, l4, l5] st σ Q ↔ Rn d m_X4_nightsOfStep 27 [vR o, l1, l2, l3, l4, l5] (vR o :: st) σ Q := q5 (show fnd (pgm m_X4_nightsOfStep) 26 = some (27, 5, 0, 0, 0, []) from rfl) rfl ho
set_option maxRecDepth 100000 in
theorem s_X4_nightsOfStep_27 {d : Nat} {l0 l1 l2 l3 l4 : AV} {st : List AV} {x : Int} {σ : Sg} {Q : AV → Sg → Prop}  : Rn d m_X4_nightsOfStep 27 [l0, l1, l2, l3, l4, vI x] st σ Q ↔ Rn d m_X4_nightsOfStep 29 [l0, l1, l2, l3, l4, vI x] (vI x :: st) σ Q := q3 (show fnd (pgm m_X4_nightsOfStep) 27 = some (29, 3, 0, 5, 1, []) from rfl) rfl
set_option maxRecDepth 100000 in
theorem s_X4_nightsOfStep_29 {d : Nat} {l0 l1 l2 l3 l4 l5 : AV} {st : List AV} {o : Nat} {a0 : Int} {σ : Sg} {Q : AV → Sg → Prop} (h4 : st.length ≤ 4) (hk : kn σ o = (0, 4)) : Rn d m_X4_nightsOfStep 29 [l0, l1, l2, l3, l4, l5] (vI a0 :: vR o :: st) σ Q ↔ ∃ r σ1, Ev d m_X4_stoneOf [vR o, vI a0] σ r σ1 ∧ Rn d m_X4_nightsOfStep 32 [l0, l1, l2, l3, l4, l5] (psh r st) σ1 Q := q35 (show fnd (pgm m_X4_nightsOfStep) 29 = some (32, 35, 121, 45, 2, []) from rfl) ⟨⟨by simp, by simpa using h4⟩, (by simp only [List.take, List.reverse, List.reverseAux, rcv]; rw [if_neg (by decide +kernel)]; exact decide_eq_true hk)⟩
set_option maxRecDepth 100000 in
theorem s_X4_nightsOfStep_32 {d : Nat} {l0 l2 l3 l4 l5 : AV} {st : List AV} {x : Int} {σ : Sg} {Q : AV → Sg → Prop}  : Rn d m_X4_nightsOfStep 32 [l0, vI x, l2, l3, l4, l5] st σ Q ↔ Rn d m_X4_nightsOfStep 33 [l0, vI x, l2, l3, l4, l5] (vI x :: st) σ Q := q3 (show fnd (pgm m_X4_nightsOfStep) 32 = some (33, 3, 0, 1, 0, []) from rfl) rfl
set_option maxRecDepth 100000 in
theorem s_X4_nightsOfStep_33 {d : Nat} {l0 l1 l2 l3 l4 l5 : AV} {st : List AV} {a b : Int} {σ : Sg} {Q : AV → Sg → Prop}  : Rn d m_X4_nightsOfStep 33 [l0, l1, l2, l3, l4, l5] (vI b :: vI a :: st) σ Q ↔ if ¬ w32 a = w32 b then Rn d m_X4_nightsOfStep 59 [l0, l1, l2, l3, l4, l5] st σ Q else Rn d m_X4_nightsOfStep 36 [l0, l1, l2, l3, l4, l5] st σ Q := q20_1 (show fnd (pgm m_X4_nightsOfStep) 33 = some (36, 20, 0, 1, 59, []) from rfl)
set_option maxRecDepth 100000 in
theorem s_X4_nightsOfStep_36 {d : Nat} {l1 l2 l3 l4 l5 : AV} {st : List AV} {o : Nat} {σ : Sg} {Q : AV → Sg → Prop} (ho : o ≠ 0) : Rn d m_X4_nightsOfStep 36 [vR o, l1, l2, l3, l4, l5] st σ Q ↔ Rn d m_X4_nightsOfStep 37 [vR o, l1, l2, l3, l4, l5] (vR o :: st) σ Q := q5 (show fnd (pgm m_X4_nightsOfStep) 36 = some (37, 5, 0, 0, 0, []) from rfl) rfl ho
set_option maxRecDepth 100000 in
theorem s_X4_nightsOfStep_37 {d : Nat} {l0 l1 l2 l3 l4 : AV} {st : List AV} {x : Int} {σ : Sg} {Q : AV → Sg → Prop}  : Rn d m_X4_nightsOfStep 37 [l0, l1, l2, l3, l4, vI x] st σ Q ↔ Rn d m_X4_nightsOfStep 39 [l0, l1, l2, l3, l4, vI x] (vI x :: st) σ Q := q3 (show fnd (pgm m_X4_nightsOfStep) 37 = some (39, 3, 0, 5, 1, []) from rfl) rfl
set_option maxRecDepth 100000 in
theorem s_X4_nightsOfStep_39 {d : Nat} {l0 l1 l2 l3 l4 l5 : AV} {st : List AV} {o : Nat} {a0 : Int} {σ : Sg} {Q : AV → Sg → Prop} (h4 : st.length ≤ 4) (hk : kn σ o = (0, 4)) : Rn d m_X4_nightsOfStep 39 [l0, l1, l2, l3, l4, l5] (vI a0 :: vR o :: st) σ Q ↔ ∃ r σ1, Ev d m_X4_wayOfStep [vR o, vI a0] σ r σ1 ∧ Rn d m_X4_nightsOfStep 42 [l0, l1, l2, l3, l4, l5] (psh r st) σ1 Q := q35 (show fnd (pgm m_X4_nightsOfStep) 39 = some (42, 35, 124, 46, 2, []) from rfl) ⟨⟨by simp, by simpa using h4⟩, (by simp only [List.take, List.reverse, List.reverseAux, rcv]; rw [if_neg (by decide +kernel)]; exact decide_eq_true hk)⟩
set_option maxRecDepth 100000 in
theorem s_X4_nightsOfStep_42 {d : Nat} {l0 l1 l2 l4 l5 : AV} {st : List AV} {x : Int} {σ : Sg} {Q : AV → Sg → Prop}  : Rn d m_X4_nightsOfStep 42 [l0, l1, l2, vI x, l4, l5] st σ Q ↔ Rn d m_X4_nightsOfStep 43 [l0, l1, l2, vI x, l4, l5] (vI x :: st) σ Q := q3 (show fnd (pgm m_X4_nightsOfStep) 42 = some (43, 3, 0, 3, 0, []) from rfl) rfl
set_option maxRecDepth 100000 in
theorem s_X4_nightsOfStep_43 {d : Nat} {l0 l1 l2 l3 l4 l5 : AV} {st : List AV} {a b : Int} {σ : Sg} {Q : AV → Sg → Prop}  : Rn d m_X4_nightsOfStep 43 [l0, l1, l2, l3, l4, l5] (vI b :: vI a :: st) σ Q ↔ if ¬ w32 a = w32 b then Rn d m_X4_nightsOfStep 59 [l0, l1, l2, l3, l4, l5] st σ Q else Rn d m_X4_nightsOfStep 46 [l0, l1, l2, l3, l4, l5] st σ Q := q20_1 (show fnd (pgm m_X4_nightsOfStep) 43 = some (46, 20, 0, 1, 59, []) from rfl)
set_option maxRecDepth 100000 in
theorem s_X4_nightsOfStep_46 {d : Nat} {l0 l1 l2 l3 l5 : AV} {st : List AV} {x : Int} {σ : Sg} {Q : AV → Sg → Prop}  : Rn d m_X4_nightsOfStep 46 [l0, l1, l2, l3, vI x, l5] st σ Q ↔ Rn d m_X4_nightsOfStep 48 [l0, l1, l2, l3, vI x, l5] (vI x :: st) σ Q := q3 (show fnd (pgm m_X4_nightsOfStep) 46 = some (48, 3, 0, 4, 1, []) from rfl) rfl
set_option maxRecDepth 100000 in
theorem s_X4_nightsOfStep_48 {d : Nat} {l0 l1 l2 l3 l4 l5 : AV} {st : List AV} {σ : Sg} {Q : AV → Sg → Prop}  : Rn d m_X4_nightsOfStep 48 [l0, l1, l2, l3, l4, l5] st σ Q ↔ Rn d m_X4_nightsOfStep 49 [l0, l1, l2, l3, l4, l5] (vI 1 :: st) σ Q := q0 (show fnd (pgm m_X4_nightsOfStep) 48 = some (49, 0, 1, 0, 0, []) from rfl)
set_option maxRecDepth 100000 in
theorem s_X4_nightsOfStep_49 {d : Nat} {l1 l2 l3 l4 l5 : AV} {st : List AV} {o : Nat} {σ : Sg} {Q : AV → Sg → Prop} (ho : o ≠ 0) : Rn d m_X4_nightsOfStep 49 [vR o, l1, l2, l3, l4, l5] st σ Q ↔ Rn d m_X4_nightsOfStep 50 [vR o, l1, l2, l3, l4, l5] (vR o :: st) σ Q := q5 (show fnd (pgm m_X4_nightsOfStep) 49 = some (50, 5, 0, 0, 0, []) from rfl) rfl ho
set_option maxRecDepth 100000 in
theorem s_X4_nightsOfStep_50 {d : Nat} {l0 l1 l2 l3 l4 : AV} {st : List AV} {x : Int} {σ : Sg} {Q : AV → Sg → Prop}  : Rn d m_X4_nightsOfStep 50 [l0, l1, l2, l3, l4, vI x] st σ Q ↔ Rn d m_X4_nightsOfStep 52 [l0, l1, l2, l3, l4, vI x] (vI x :: st) σ Q := q3 (show fnd (pgm m_X4_nightsOfStep) 50 = some (52, 3, 0, 5, 1, []) from rfl) rfl
set_option maxRecDepth 100000 in
theorem s_X4_nightsOfStep_52 {d : Nat} {l0 l1 l2 l3 l4 l5 : AV} {st : List AV} {o : Nat} {a0 : Int} {σ : Sg} {Q : AV → Sg → Prop} (h4 : st.length ≤ 4) (hk : kn σ o = (0, 4)) : Rn d m_X4_nightsOfStep 52 [l0, l1, l2, l3, l4, l5] (vI a0 :: vR o :: st) σ Q ↔ ∃ r σ1, Ev d m_X4_nightOf [vR o, vI a0] σ r σ1 ∧ Rn d m_X4_nightsOfStep 55 [l0, l1, l2, l3, l4, l5] (psh r st) σ1 Q := q35 (show fnd (pgm m_X4_nightsOfStep) 52 = some (55, 35, 127, 44, 2, []) from rfl) ⟨⟨by simp, by simpa using h4⟩, (by simp only [List.take, List.reverse, List.reverseAux, rcv]; rw [if_neg (by decide +kernel)]; exact decide_eq_true hk)⟩
set_option maxRecDepth 100000 in
theorem s_X4_nightsOfStep_55 {d : Nat} {l0 l1 l2 l3 l4 l5 : AV} {st : List AV} {a b : Int} {σ : Sg} {Q : AV → Sg → Prop}  : Rn d m_X4_nightsOfStep 55 [l0, l1, l2, l3, l4, l5] (vI b :: vI a :: st) σ Q ↔ Rn d m_X4_nightsOfStep 56 [l0, l1, l2, l3, l4, l5] (vI (shl32 a b) :: st) σ Q := q10_8 (show fnd (pgm m_X4_nightsOfStep) 55 = some (56, 10, 0, 8, 0, []) from rfl)
set_option maxRecDepth 100000 in
theorem s_X4_nightsOfStep_56 {d : Nat} {l0 l1 l2 l3 l4 l5 : AV} {st : List AV} {a b : Int} {σ : Sg} {Q : AV → Sg → Prop}  : Rn d m_X4_nightsOfStep 56 [l0, l1, l2, l3, l4, l5] (vI b :: vI a :: st) σ Q ↔ Rn d m_X4_nightsOfStep 57 [l0, l1, l2, l3, l4, l5] (vI (or32 a b) :: st) σ Q := q10_6 (show fnd (pgm m_X4_nightsOfStep) 56 = some (57, 10, 0, 6, 0, []) from rfl)
set_option maxRecDepth 100000 in
theorem s_X4_nightsOfStep_57 {d : Nat} {l0 l1 l2 l3 l4 l5 : AV} {st : List AV} {x : Int} {σ : Sg} {Q : AV → Sg → Prop}  : Rn d m_X4_nightsOfStep 57 [l0, l1, l2, l3, l4, l5] (vI x :: st) σ Q ↔ Rn d m_X4_nightsOfStep 59 [l0, l1, l2, l3, vI x, l5] st σ Q := q6 (show fnd (pgm m_X4_nightsOfStep) 57 = some (59, 6, 0, 4, 1, []) from rfl) (by decide : 4 < 6)
set_option maxRecDepth 100000 in
theorem s_X4_nightsOfStep_59 {d : Nat} {l0 l1 l2 l3 l4 : AV} {st : List AV} {x : Int} {σ : Sg} {Q : AV → Sg → Prop}  : Rn d m_X4_nightsOfStep 59 [l0, l1, l2, l3, l4, vI x] st σ Q ↔ Rn d m_X4_nightsOfStep 62 [l0, l1, l2, l3, l4, vI (x + 1)] st σ Q := q9 (show fnd (pgm m_X4_nightsOfStep) 59 = some (62, 9, 1, 5, 0, []) from rfl) rfl
set_option maxRecDepth 100000 in
theorem s_X4_nightsOfStep_62 {d : Nat} {l0 l1 l2 l3 l4 l5 : AV} {st : List AV} {σ : Sg} {Q : AV → Sg → Prop}  : Rn d m_X4_nightsOfStep 62 [l0, l1, l2, l3, l4, l5] st σ Q ↔ Rn d m_X4_nightsOfStep 6 [l0, l1, l2, l3, l4, l5] st σ Q := q21 (show fnd (pgm m_X4_nightsOfStep) 62 = some (65, 21, 0, 0, 6, []) from rfl)
set_option maxRecDepth 100000 in
theorem s_X4_nightsOfStep_65 {d : Nat} {l0 l1 l2 l3 l5 : AV} {st : List AV} {x : Int} {σ : Sg} {Q : AV → Sg → Prop}  : Rn d m_X4_nightsOfStep 65 [l0, l1, l2, l3, vI x, l5] st σ Q ↔ Rn d m_X4_nightsOfStep 67 [l0, l1, l2, l3, vI x, l5] (vI x :: st) σ Q := q3 (show fnd (pgm m_X4_nightsOfStep) 65 = some (67, 3, 0, 4, 1, []) from rfl) rfl
set_option maxRecDepth 100000 in
theorem s_X4_nightsOfStep_67 {d : Nat} {l0 l1 l2 l3 l4 l5 : AV} {x : Int} {σ : Sg} {Q : AV → Sg → Prop}  : Rn d m_X4_nightsOfStep 67 [l0, l1, l2, l3, l4, l5] [vI x] σ Q ↔ Q (vI x) σ := q37_1 (st := []) (show fnd (pgm m_X4_nightsOfStep) 67 = some (68, 37, 0, 1, 0, []) from rfl)
set_option maxRecDepth 100000 in
theorem en_X4_furrowsFrom {d : Nat} {o : Nat} {a0 : Int} {a1 : Nat} {σ σ0 : Sg} {r0 : AV} (h : Rn d m_X4_furrowsFrom 0 [vR o, vI a0, vR a1, none, none, none] [] σ (fun r σ1 => r = r0 ∧ σ1 = σ0)) : Ev (d + 1) m_X4_furrowsFrom [vR o, vI a0, vR a1] σ r0 σ0 := Ev_is (Nat.le_of_ble_eq_true rfl) h
set_option maxRecDepth 100000 in
theorem eo_X4_furrowsFrom {d : Nat} {o : Nat} {a0 : Int} {a1 : Nat} {σ : Sg} {Q : AV → Sg → Prop} (h : Rn d m_X4_furrowsFrom 0 [vR o, vI a0, vR a1, none, none, none] [] σ Q) : ∃ r σ1, Ev (d + 1) m_X4_furrowsFrom [vR o, vI a0, vR a1] σ r σ1 ∧ Q r σ1 := Ev_of (Nat.le_of_ble_eq_true rfl) h
set_option maxRecDepth 100000 in
theorem s_X4_furrowsFrom_0 {d : Nat} {l0 l1 l2 l3 l4 l5 : AV} {st : List AV} {σ : Sg} {Q : AV → Sg → Prop}  : Rn d m_X4_furrowsFrom 0 [l0, l1, l2, l3, l4, l5] st σ Q ↔ Rn d m_X4_furrowsFrom 1 [l0, l1, l2, l3, l4, l5] (vI 0 :: st) σ Q := q0 (show fnd (pgm m_X4_furrowsFrom) 0 = some (1, 0, 0, 0, 0, []) from rfl)
set_option maxRecDepth 100000 in
theorem s_X4_furrowsFrom_1 {d : Nat} {l0 l1 l2 l3 l4 l5 : AV} {st : List AV} {x : Int} {σ : Sg} {Q : AV → Sg → Prop}  : Rn d m_X4_furrowsFrom 1 [l0, l1, l2, l3, l4, l5] (vI x :: st) σ Q ↔ Rn d m_X4_furrowsFrom 2 [l0, l1, l2, vI x, l4, l5] st σ Q := q6 (show fnd (pgm m_X4_furrowsFrom) 1 = some (2, 6, 0, 3, 0, []) from rfl) (by decide : 3 < 6)
set_option maxRecDepth 100000 in
theorem s_X4_furrowsFrom_2 {d : Nat} {l0 l1 l2 l3 l4 l5 : AV} {st : List AV} {σ : Sg} {Q : AV → Sg → Prop}  : Rn d m_X4_furrowsFrom 2 [l0, l1, l2, l3, l4, l5] st σ Q ↔ Rn d m_X4_furrowsFrom 3 [l0, l1, l2, l3, l4, l5] (vI 0 :: st) σ Q := q0 (show fnd (pgm m_X4_furrowsFrom) 2 = some (3, 0, 0, 0, 0, []) from rfl)
set_option maxRecDepth 100000 in
theorem s_X4_furrowsFrom_3 {d : Nat} {l0 l1 l2 l3 l4 l5 : AV} {st : List AV} {x : Int} {σ : Sg} {Q : AV → Sg → Prop}  : Rn d m_X4_furrowsFrom 3 [l0, l1, l2, l3, l4, l5] (vI x :: st) σ Q ↔ Rn d m_X4_furrowsFrom 5 [l0, l1, l2, l3, vI x, l5] st σ Q := q6 (show fnd (pgm m_X4_furrowsFrom) 3 = some (5, 6, 0, 4, 1, []) from rfl) (by decide : 4 < 6)
set_option maxRecDepth 100000 in
theorem s_X4_furrowsFrom_5 {d : Nat} {l0 l1 l2 l3 l4 l5 : AV} {st : List AV} {σ : Sg} {Q : AV → Sg → Prop}  : Rn d m_X4_furrowsFrom 5 [l0, l1, l2, l3, l4, l5] st σ Q ↔ Rn d m_X4_furrowsFrom 6 [l0, l1, l2, l3, l4, l5] (vI 0 :: st) σ Q := q0 (show fnd (pgm m_X4_furrowsFrom) 5 = some (6, 0, 0, 0, 0, []) from rfl)
set_option maxRecDepth 100000 in
theorem s_X4_furrowsFrom_6 {d : Nat} {l0 l1 l2 l3 l4 l5 : AV} {st : List AV} {x : Int} {σ : Sg} {Q : AV → Sg → Prop}  : Rn d m_X4_furrowsFrom 6 [l0, l1, l2, l3, l4, l5] (vI x :: st) σ Q ↔ Rn d m_X4_furrowsFrom 8 [l0, l1, l2, l3, l4, vI x] st σ Q := q6 (show fnd (pgm m_X4_furrowsFrom) 6 = some (8, 6, 0, 5, 1, []) from rfl) (by decide : 5 < 6)
set_option maxRecDepth 100000 in
theorem s_X4_furrowsFrom_8 {d : Nat} {l0 l1 l2 l3 l4 : AV} {st : List AV} {x : Int} {σ : Sg} {Q : AV → Sg → Prop}  : Rn d m_X4_furrowsFrom 8 [l0, l1, l2, l3, l4, vI x] st σ Q ↔ Rn d m_X4_furrowsFrom 10 [l0, l1, l2, l3, l4, vI x] (vI x :: st) σ Q := q3 (show fnd (pgm m_X4_furrowsFrom) 8 = some (10, 3, 0, 5, 1, []) from rfl) rfl
set_option maxRecDepth 100000 in
theorem s_X4_furrowsFrom_10 {d : Nat} {l1 l2 l3 l4 l5 : AV} {st : List AV} {o : Nat} {σ : Sg} {Q : AV → Sg → Prop} (ho : o ≠ 0) : Rn d m_X4_furrowsFrom 10 [vR o, l1, l2, l3, l4, l5] st σ Q ↔ Rn d m_X4_furrowsFrom 11 [vR o, l1, l2, l3, l4, l5] (vR o :: st) σ Q := q5 (show fnd (pgm m_X4_furrowsFrom) 10 = some (11, 5, 0, 0, 0, []) from rfl) rfl ho
set_option maxRecDepth 100000 in
theorem s_X4_furrowsFrom_11 {d : Nat} {l0 l1 l2 l3 l4 l5 : AV} {st : List AV} {o : Nat} {σ : Sg} {Q : AV → Sg → Prop} (hk : kn σ o = (0, 4)) : Rn d m_X4_furrowsFrom 11 [l0, l1, l2, l3, l4, l5] (vR o :: st) σ Q ↔ Rn d m_X4_furrowsFrom 14 [l0, l1, l2, l3, l4, l5] (vI (σ o 6) :: st) σ Q := q33 (show fnd (pgm m_X4_furrowsFrom) 11 = some (14, 33, 30, 4, 6, []) from rfl) hk
set_option maxRecDepth 100000 in
theorem s_X4_furrowsFrom_14 {d : Nat} {l0 l1 l2 l3 l4 l5 : AV} {st : List AV} {a b : Int} {σ : Sg} {Q : AV → Sg → Prop}  : Rn d m_X4_furrowsFrom 14 [l0, l1, l2, l3, l4, l5] (vI b :: vI a :: st) σ Q ↔ if w32 b ≤ w32 a then Rn d m_X4_furrowsFrom 69 [l0, l1, l2, l3, l4, l5] st σ Q else Rn d m_X4_furrowsFrom 17 [l0, l1, l2, l3, l4, l5] st σ Q := q20_3 (show fnd (pgm m_X4_furrowsFrom) 14 = some (17, 20, 0, 3, 69, []) from rfl)
set_option maxRecDepth 100000 in
theorem s_X4_furrowsFrom_17 {d : Nat} {l0 l1 l2 l4 l5 : AV} {st : List AV} {x : Int} {σ : Sg} {Q : AV → Sg → Prop}  : Rn d m_X4_furrowsFrom 17 [l0, l1, l2, vI x, l4, l5] st σ Q ↔ Rn d m_X4_furrowsFrom 18 [l0, l1, l2, vI x, l4, l5] (vI x :: st) σ Q := q3 (show fnd (pgm m_X4_furrowsFrom) 17 = some (18, 3, 0, 3, 0, []) from rfl) rfl
set_option maxRecDepth 100000 in
theorem s_X4_furrowsFrom_18 {d : Nat} {l0 l1 l2 l3 l4 l5 : AV} {st : List AV} {σ : Sg} {Q : AV → Sg → Prop}  : Rn d m_X4_furrowsFrom 18 [l0, l1, l2, l3, l4, l5] st σ Q ↔ Rn d m_X4_furrowsFrom 21 [l0, l1, l2, l3, l4, l5] (vI 200 :: st) σ Q := q0 (show fnd (pgm m_X4_furrowsFrom) 18 = some (21, 0, 200, 2, 0, []) from rfl)
set_option maxRecDepth 100000 in
theorem s_X4_furrowsFrom_21 {d : Nat} {l0 l1 l2 l3 l4 l5 : AV} {st : List AV} {a b : Int} {σ : Sg} {Q : AV → Sg → Prop}  : Rn d m_X4_furrowsFrom 21 [l0, l1, l2, l3, l4, l5] (vI b :: vI a :: st) σ Q ↔ if w32 b ≤ w32 a then Rn d m_X4_furrowsFrom 69 [l0, l1, l2, l3, l4, l5] st σ Q else Rn d m_X4_furrowsFrom 24 [l0, l1, l2, l3, l4, l5] st σ Q := q20_3 (show fnd (pgm m_X4_furrowsFrom) 21 = some (24, 20, 0, 3, 69, []) from rfl)
set_option maxRecDepth 100000 in
theorem s_X4_furrowsFrom_24 {d : Nat} {l0 l1 l3 l4 l5 : AV} {st : List AV} {o : Nat} {σ : Sg} {Q : AV → Sg → Prop} (ho : o ≠ 0) : Rn d m_X4_furrowsFrom 24 [l0, l1, vR o, l3, l4, l5] st σ Q ↔ Rn d m_X4_furrowsFrom 25 [l0, l1, vR o, l3, l4, l5] (vR o :: st) σ Q := q5 (show fnd (pgm m_X4_furrowsFrom) 24 = some (25, 5, 0, 2, 0, []) from rfl) rfl ho
set_option maxRecDepth 100000 in
theorem s_X4_furrowsFrom_25 {d : Nat} {l0 l1 l2 l3 l4 l5 : AV} {st : List AV} {o : Nat} {σ : Sg} {Q : AV → Sg → Prop} (hk : kn σ o = (0, 2)) : Rn d m_X4_furrowsFrom 25 [l0, l1, l2, l3, l4, l5] (vR o :: st) σ Q ↔ Rn d m_X4_furrowsFrom 28 [l0, l1, l2, l3, l4, l5] (vR (tp o 3) :: st) σ Q := q33 (show fnd (pgm m_X4_furrowsFrom) 25 = some (28, 33, 130, 2, 3, []) from rfl) hk
set_option maxRecDepth 100000 in
theorem s_X4_furrowsFrom_28 {d : Nat} {l1 l2 l3 l4 l5 : AV} {st : List AV} {o : Nat} {σ : Sg} {Q : AV → Sg → Prop} (ho : o ≠ 0) : Rn d m_X4_furrowsFrom 28 [vR o, l1, l2, l3, l4, l5] st σ Q ↔ Rn d m_X4_furrowsFrom 29 [vR o, l1, l2, l3, l4, l5] (vR o :: st) σ Q := q5 (show fnd (pgm m_X4_furrowsFrom) 28 = some (29, 5, 0, 0, 0, []) from rfl) rfl ho
set_option maxRecDepth 100000 in
theorem s_X4_furrowsFrom_29 {d : Nat} {l0 l1 l2 l3 l4 : AV} {st : List AV} {x : Int} {σ : Sg} {Q : AV → Sg → Prop}  : Rn d m_X4_furrowsFrom 29 [l0, l1, l2, l3, l4, vI x] st σ Q ↔ Rn d m_X4_furrowsFrom 31 [l0, l1, l2, l3, l4, vI x] (vI x :: st) σ Q := q3 (show fnd (pgm m_X4_furrowsFrom) 29 = some (31, 3, 0, 5, 1, []) from rfl) rfl
set_option maxRecDepth 100000 in
theorem s_X4_furrowsFrom_31 {d : Nat} {l0 l1 l2 l3 l4 l5 : AV} {st : List AV} {o : Nat} {a0 : Int} {σ : Sg} {Q : AV → Sg → Prop} (h4 : st.length ≤ 4) (hk : kn σ o = (0, 4)) : Rn d m_X4_furrowsFrom 31 [l0, l1, l2, l3, l4, l5] (vI a0 :: vR o :: st) σ Q ↔ ∃ r σ1, Ev d m_X4_nightOf [vR o, vI a0] σ r σ1 ∧ Rn d m_X4_furrowsFrom 34 [l0, l1, l2, l3, l4, l5] (psh r st) σ1 Q := q35 (show fnd (pgm m_X4_furrowsFrom) 31 = some (34, 35, 127, 44, 2, []) from rfl) ⟨⟨by simp, by simpa using h4⟩, (by simp only [List.take, List.reverse, List.reverseAux, rcv]; rw [if_neg (by decide +kernel)]; exact decide_eq_true hk)⟩
set_option maxRecDepth 100000 in
theorem s_X4_furrowsFrom_34 {d : Nat} {l0 l1 l2 l3 l4 l5 : AV} {st : List AV} {i : Int} {o : Nat} {σ : Sg} {Q : AV → Sg → Prop} (hi : 0 ≤ w32 i ∧ w32 i < al σ 1 o) : Rn d m_X4_furrowsFrom 34 [l0, l1, l2, l3, l4, l5] (vI i :: vR o :: st) σ Q ↔ Rn d m_X4_furrowsFrom 35 [l0, l1, l2, l3, l4, l5] (vI (σ o (w32 i)) :: st) σ Q := q25 (show fnd (pgm m_X4_furrowsFrom) 34 = some (35, 25, 0, 0, 0, []) from rfl) hi
set_option maxRecDepth 100000 in
theorem s_X4_furrowsFrom_35 {d : Nat} {l0 l1 l2 l3 l4 l5 : AV} {st : List AV} {σ : Sg} {Q : AV → Sg → Prop}  : Rn d m_X4_furrowsFrom 35 [l0, l1, l2, l3, l4, l5] st σ Q ↔ Rn d m_X4_furrowsFrom 36 [l0, l1, l2, l3, l4, l5] (vI 1 :: st) σ Q := q0 (show fnd (pgm m_X4_furrowsFrom) 35 = some (36, 0, 1, 0, 0, []) from rfl)
set_option maxRecDepth 100000 in
theorem s_X4_furrowsFrom_36 {d : Nat} {l0 l1 l2 l3 l4 l5 : AV} {st : List AV} {a b : Int} {σ : Sg} {Q : AV → Sg → Prop}  : Rn d m_X4_furrowsFrom 36 [l0, l1, l2, l3, l4, l5] (vI b :: vI a :: st) σ Q ↔ if ¬ w32 a = w32 b then Rn d m_X4_furrowsFrom 63 [l0, l1, l2, l3, l4, l5] st σ Q else Rn d m_X4_furrowsFrom 39 [l0, l1, l2, l3, l4, l5] st σ Q := q20_1 (show fnd (pgm m_X4_furrowsFrom) 36 = some (39, 20, 0, 1, 63, []) from rfl)
set_option maxRecDepth 100000 in
theorem s_X4_furrowsFrom_39 {d : Nat} {l0 l1 l2 l4 l5 : AV} {st : List AV} {x : Int} {σ : Sg} {Q : AV → Sg → Prop}  : Rn d m_X4_furrowsFrom 39 [l0, l1, l2, vI x, l4, l5] st σ Q ↔ Rn d m_X4_furrowsFrom 42 [l0, l1, l2, vI (x + 1), l4, l5] st σ Q := q9 (show fnd (pgm m_X4_furrowsFrom) 39 = some (42, 9, 1, 3, 0, []) from rfl) rfl
set_option maxRecDepth 100000 in
theorem s_X4_furrowsFrom_42 {d : Nat} {l0 l1 l2 l3 l5 : AV} {st : List AV} {x : Int} {σ : Sg} {Q : AV → Sg → Prop}  : Rn d m_X4_furrowsFrom 42 [l0, l1, l2, l3, vI x, l5] st σ Q ↔ Rn d m_X4_furrowsFrom 44 [l0, l1, l2, l3, vI x, l5] (vI x :: st) σ Q := q3 (show fnd (pgm m_X4_furrowsFrom) 42 = some (44, 3, 0, 4, 1, []) from rfl) rfl
set_option maxRecDepth 100000 in
theorem s_X4_furrowsFrom_44 {d : Nat} {l1 l2 l3 l4 l5 : AV} {st : List AV} {o : Nat} {σ : Sg} {Q : AV → Sg → Prop} (ho : o ≠ 0) : Rn d m_X4_furrowsFrom 44 [vR o, l1, l2, l3, l4, l5] st σ Q ↔ Rn d m_X4_furrowsFrom 45 [vR o, l1, l2, l3, l4, l5] (vR o :: st) σ Q := q5 (show fnd (pgm m_X4_furrowsFrom) 44 = some (45, 5, 0, 0, 0, []) from rfl) rfl ho
set_option maxRecDepth 100000 in
theorem s_X4_furrowsFrom_45 {d : Nat} {l0 l1 l2 l3 l4 l5 : AV} {st : List AV} {o : Nat} {σ : Sg} {Q : AV → Sg → Prop} (hk : kn σ o = (0, 4)) : Rn d m_X4_furrowsFrom 45 [l0, l1, l2, l3, l4, l5] (vR o :: st) σ Q ↔ Rn d m_X4_furrowsFrom 48 [l0, l1, l2, l3, l4, l5] (vR (tp o 4) :: st) σ Q := q33 (show fnd (pgm m_X4_furrowsFrom) 45 = some (48, 33, 24, 4, 4, []) from rfl) hk
set_option maxRecDepth 100000 in
theorem s_X4_furrowsFrom_48 {d : Nat} {l0 l1 l2 l3 l4 : AV} {st : List AV} {x : Int} {σ : Sg} {Q : AV → Sg → Prop}  : Rn d m_X4_furrowsFrom 48 [l0, l1, l2, l3, l4, vI x] st σ Q ↔ Rn d m_X4_furrowsFrom 50 [l0, l1, l2, l3, l4, vI x] (vI x :: st) σ Q := q3 (show fnd (pgm m_X4_furrowsFrom) 48 = some (50, 3, 0, 5, 1, []) from rfl) rfl
set_option maxRecDepth 100000 in
theorem s_X4_furrowsFrom_50 {d : Nat} {l0 l1 l2 l3 l4 l5 : AV} {st : List AV} {i : Int} {o : Nat} {σ : Sg} {Q : AV → Sg → Prop} (hi : 0 ≤ w32 i ∧ w32 i < al σ 1 o) : Rn d m_X4_furrowsFrom 50 [l0, l1, l2, l3, l4, l5] (vI i :: vR o :: st) σ Q ↔ Rn d m_X4_furrowsFrom 51 [l0, l1, l2, l3, l4, l5] (vI (σ o (w32 i)) :: st) σ Q := q25 (show fnd (pgm m_X4_furrowsFrom) 50 = some (51, 25, 0, 0, 0, []) from rfl) hi
set_option maxRecDepth 100000 in
theorem s_X4_furrowsFrom_51 {d : Nat} {l0 l2 l3 l4 l5 : AV} {st : List AV} {x : Int} {σ : Sg} {Q : AV → Sg → Prop}  : Rn d m_X4_furrowsFrom 51 [l0, vI x, l2, l3, l4, l5] st σ Q ↔ Rn d m_X4_furrowsFrom 52 [l0, vI x, l2, l3, l4, l5] (vI x :: st) σ Q := q3 (show fnd (pgm m_X4_furrowsFrom) 51 = some (52, 3, 0, 1, 0, []) from rfl) rfl
set_option maxRecDepth 100000 in
theorem s_X4_furrowsFrom_52 {d : Nat} {l0 l1 l2 l3 l4 l5 : AV} {st : List AV} {a b : Int} {σ : Sg} {Q : AV → Sg → Prop}  : Rn d m_X4_furrowsFrom 52 [l0, l1, l2, l3, l4, l5] (vI b :: vI a :: st) σ Q ↔ if ¬ w32 a = w32 b then Rn d m_X4_furrowsFrom 59 [l0, l1, l2, l3, l4, l5] st σ Q else Rn d m_X4_furrowsFrom 55 [l0, l1, l2, l3, l4, l5] st σ Q := q20_1 (show fnd (pgm m_X4_furrowsFrom) 52 = some (55, 20, 0, 1, 59, []) from rfl)
set_option maxRecDepth 100000 in
theorem s_X4_furrowsFrom_55 {d : Nat} {l0 l1 l2 l3 l4 l5 : AV} {st : List AV} {σ : Sg} {Q : AV → Sg → Prop}  : Rn d m_X4_furrowsFrom 55 [l0, l1, l2, l3, l4, l5] st σ Q ↔ Rn d m_X4_furrowsFrom 56 [l0, l1, l2, l3, l4, l5] (vI 1 :: st) σ Q := q0 (show fnd (pgm m_X4_furrowsFrom) 55 = some (56, 0, 1, 0, 0, []) from rfl)
set_option maxRecDepth 100000 in
theorem s_X4_furrowsFrom_56 {d : Nat} {l0 l1 l2 l3 l4 l5 : AV} {st : List AV} {σ : Sg} {Q : AV → Sg → Prop}  : Rn d m_X4_furrowsFrom 56 [l0, l1, l2, l3, l4, l5] st σ Q ↔ Rn d m_X4_furrowsFrom 60 [l0, l1, l2, l3, l4, l5] st σ Q := q21 (show fnd (pgm m_X4_furrowsFrom) 56 = some (59, 21, 0, 0, 60, []) from rfl)
set_option maxRecDepth 100000 in
theorem s_X4_furrowsFrom_59 {d : Nat} {l0 l1 l2 l3 l4 l5 : AV} {st : List AV} {σ : Sg} {Q : AV → Sg → Prop}  : Rn d m_X4_furrowsFrom 59 [l0, l1, l2, l3, l4, l5] st σ Q ↔ Rn d m_X4_furrowsFrom 60 [l0, l1, l2, l3, l4, l5] (vI 0 :: st) σ Q := q0 (show fnd (pgm m_X4_furrowsFrom) 59 = some (60, 0, 0, 0, 0, []) from rfl)
set_option maxRecDepth 100000 in
theorem s_X4_furrowsFrom_60 {d : Nat} {l0 l1 l2 l3 l4 l5 : AV} {st : List AV} {a b : Int} {σ : Sg} {Q : AV → Sg → Prop}  : Rn d m_X4_furrowsFrom 60 [l0, l1, l2, l3, l4, l5] (vI b :: vI a :: st) σ Q ↔ Rn d m_X4_furrowsFrom 61 [l0, l1, l2, l3, l4, l5] (vI (a + b) :: st) σ Q := q10_0 (show fnd (pgm m_X4_furrowsFrom) 60 = some (61, 10, 0, 0, 0, []) from rfl)
set_option maxRecDepth 100000 in
theorem s_X4_furrowsFrom_61 {d : Nat} {l0 l1 l2 l3 l4 l5 : AV} {st : List AV} {x : Int} {σ : Sg} {Q : AV → Sg → Prop}  : Rn d m_X4_furrowsFrom 61 [l0, l1, l2, l3, l4, l5] (vI x :: st) σ Q ↔ Rn d m_X4_furrowsFrom 63 [l0, l1, l2, l3, vI x, l5] st σ Q := q6 (show fnd (pgm m_X4_furrowsFrom) 61 = some (63, 6, 0, 4, 1, []) from rfl) (by decide : 4 < 6)
set_option maxRecDepth 100000 in
theorem s_X4_furrowsFrom_63 {d : Nat} {l0 l1 l2 l3 l4 : AV} {st : List AV} {x : Int} {σ : Sg} {Q : AV → Sg → Prop}  : Rn d m_X4_furrowsFrom 63 [l0, l1, l2, l3, l4, vI x] st σ Q ↔ Rn d m_X4_furrowsFrom 66 [l0, l1, l2, l3, l4, vI (x + 1)] st σ Q := q9 (show fnd (pgm m_X4_furrowsFrom) 63 = some (66, 9, 1, 5, 0, []) from rfl) rfl
set_option maxRecDepth 100000 in
theorem s_X4_furrowsFrom_66 {d : Nat} {l0 l1 l2 l3 l4 l5 : AV} {st : List AV} {σ : Sg} {Q : AV → Sg → Prop}  : Rn d m_X4_furrowsFrom 66 [l0, l1, l2, l3, l4, l5] st σ Q ↔ Rn d m_X4_furrowsFrom 8 [l0, l1, l2, l3, l4, l5] st σ Q := q21 (show fnd (pgm m_X4_furrowsFrom) 66 = some (69, 21, 0, 0, 8, []) from rfl)
set_option maxRecDepth 100000 in
theorem s_X4_furrowsFrom_69 {d : Nat} {l0 l1 l2 l3 l5 : AV} {st : List AV} {x : Int} {σ : Sg} {Q : AV → Sg → Prop}  : Rn d m_X4_furrowsFrom 69 [l0, l1, l2, l3, vI x, l5] st σ Q ↔ Rn d m_X4_furrowsFrom 71 [l0, l1, l2, l3, vI x, l5] (vI x :: st) σ Q := q3 (show fnd (pgm m_X4_furrowsFrom) 69 = some (71, 3, 0, 4, 1, []) from rfl) rfl
set_option maxRecDepth 100000 in
theorem s_X4_furrowsFrom_71 {d : Nat} {l0 l1 l2 l3 l4 l5 : AV} {x : Int} {σ : Sg} {Q : AV → Sg → Prop}  : Rn d m_X4_furrowsFrom 71 [l0, l1, l2, l3, l4, l5] [vI x] σ Q ↔ Q (vI x) σ := q37_1 (st := []) (show fnd (pgm m_X4_furrowsFrom) 71 = some (72, 37, 0, 1, 0, []) from rfl)
set_option maxRecDepth 100000 in
theorem en_X4_furrowFrom {d : Nat} {o : Nat} {a0 : Int} {a1 : Nat} {a2 : Int} {σ σ0 : Sg} {r0 : AV} (h : Rn d m_X4_furrowFrom 0 [vR o, vI a0, vR a1, vI a2, none, none, none] [] σ (fun r σ1 => r = r0 ∧ σ1 = σ0)) : Ev (d + 1) m_X4_furrowFrom [vR o, vI a0, vR a1, vI a2] σ r0 σ0 := Ev_is (Nat.le_of_ble_eq_true rfl) h
set_option maxRecDepth 100000 in
theorem eo_X4_furrowFrom {d : Nat} {o : Nat} {a0 : Int} {a1 : Nat} {a2 : Int} {σ : Sg} {Q : AV → Sg → Prop} (h : Rn d m_X4_furrowFrom 0 [vR o, vI a0, vR a1, vI a2, none, none, none] [] σ Q) : ∃ r σ1, Ev (d + 1) m_X4_furrowFrom [vR o, vI a0, vR a1, vI a2] σ r σ1 ∧ Q r σ1 := Ev_of (Nat.le_of_ble_eq_true rfl) h
set_option maxRecDepth 100000 in
theorem s_X4_furrowFrom_0 {d : Nat} {l0 l1 l2 l3 l4 l5 l6 : AV} {st : List AV} {σ : Sg} {Q : AV → Sg → Prop}  : Rn d m_X4_furrowFrom 0 [l0, l1, l2, l3, l4, l5, l6] st σ Q ↔ Rn d m_X4_furrowFrom 1 [l0, l1, l2, l3, l4, l5, l6] (vI 0 :: st) σ Q := q0 (show fnd (pgm m_X4_furrowFrom) 0 = some (1, 0, 0, 0, 0, []) from rfl)
set_option maxRecDepth 100000 in
theorem s_X4_furrowFrom_1 {d : Nat} {l0 l1 l2 l3 l4 l5 l6 : AV} {st : List AV} {x : Int} {σ : Sg} {Q : AV → Sg → Prop}  : Rn d m_X4_furrowFrom 1 [l0, l1, l2, l3, l4, l5, l6] (vI x :: st) σ Q ↔ Rn d m_X4_furrowFrom 3 [l0, l1, l2, l3, vI x, l5, l6] st σ Q := q6 (show fnd (pgm m_X4_furrowFrom) 1 = some (3, 6, 0, 4, 1, []) from rfl) (by decide : 4 < 7)
set_option maxRecDepth 100000 in
theorem s_X4_furrowFrom_3 {d : Nat} {l0 l1 l2 l3 l4 l5 l6 : AV} {st : List AV} {σ : Sg} {Q : AV → Sg → Prop}  : Rn d m_X4_furrowFrom 3 [l0, l1, l2, l3, l4, l5, l6] st σ Q ↔ Rn d m_X4_furrowFrom 4 [l0, l1, l2, l3, l4, l5, l6] (vI 0 :: st) σ Q := q0 (show fnd (pgm m_X4_furrowFrom) 3 = some (4, 0, 0, 0, 0, []) from rfl)
set_option maxRecDepth 100000 in
theorem s_X4_furrowFrom_4 {d : Nat} {l0 l1 l2 l3 l4 l5 l6 : AV} {st : List AV} {x : Int} {σ : Sg} {Q : AV → Sg → Prop}  : Rn d m_X4_furrowFrom 4 [l0, l1, l2, l3, l4, l5, l6] (vI x :: st) σ Q ↔ Rn d m_X4_furrowFrom 6 [l0, l1, l2, l3, l4, vI x, l6] st σ Q := q6 (show fnd (pgm m_X4_furrowFrom) 4 = some (6, 6, 0, 5, 1, []) from rfl) (by decide : 5 < 7)
set_option maxRecDepth 100000 in
theorem s_X4_furrowFrom_6 {d : Nat} {l0 l1 l2 l3 l4 l5 l6 : AV} {st : List AV} {σ : Sg} {Q : AV → Sg → Prop}  : Rn d m_X4_furrowFrom 6 [l0, l1, l2, l3, l4, l5, l6] st σ Q ↔ Rn d m_X4_furrowFrom 7 [l0, l1, l2, l3, l4, l5, l6] (vI 0 :: st) σ Q := q0 (show fnd (pgm m_X4_furrowFrom) 6 = some (7, 0, 0, 0, 0, []) from rfl)
set_option maxRecDepth 100000 in
theorem s_X4_furrowFrom_7 {d : Nat} {l0 l1 l2 l3 l4 l5 l6 : AV} {st : List AV} {x : Int} {σ : Sg} {Q : AV → Sg → Prop}  : Rn d m_X4_furrowFrom 7 [l0, l1, l2, l3, l4, l5, l6] (vI x :: st) σ Q ↔ Rn d m_X4_furrowFrom 9 [l0, l1, l2, l3, l4, l5, vI x] st σ Q := q6 (show fnd (pgm m_X4_furrowFrom) 7 = some (9, 6, 0, 6, 1, []) from rfl) (by decide : 6 < 7)
set_option maxRecDepth 100000 in
theorem s_X4_furrowFrom_9 {d : Nat} {l0 l1 l2 l3 l4 l5 : AV} {st : List AV} {x : Int} {σ : Sg} {Q : AV → Sg → Prop}  : Rn d m_X4_furrowFrom 9 [l0, l1, l2, l3, l4, l5, vI x] st σ Q ↔ Rn d m_X4_furrowFrom 11 [l0, l1, l2, l3, l4, l5, vI x] (vI x :: st) σ Q := q3 (show fnd (pgm m_X4_furrowFrom) 9 = some (11, 3, 0, 6, 1, []) from rfl) rfl
set_option maxRecDepth 100000 in
theorem s_X4_furrowFrom_11 {d : Nat} {l1 l2 l3 l4 l5 l6 : AV} {st : List AV} {o : Nat} {σ : Sg} {Q : AV → Sg → Prop} (ho : o ≠ 0) : Rn d m_X4_furrowFrom 11 [vR o, l1, l2, l3, l4, l5, l6] st σ Q ↔ Rn d m_X4_furrowFrom 12 [vR o, l1, l2, l3, l4, l5, l6] (vR o :: st) σ Q := q5 (show fnd (pgm m_X4_furrowFrom) 11 = some (12, 5, 0, 0, 0, []) from rfl) rfl ho
set_option maxRecDepth 100000 in
theorem s_X4_furrowFrom_12 {d : Nat} {l0 l1 l2 l3 l4 l5 l6 : AV} {st : List AV} {o : Nat} {σ : Sg} {Q : AV → Sg → Prop} (hk : kn σ o = (0, 4)) : Rn d m_X4_furrowFrom 12 [l0, l1, l2, l3, l4, l5, l6] (vR o :: st) σ Q ↔ Rn d m_X4_furrowFrom 15 [l0, l1, l2, l3, l4, l5, l6] (vI (σ o 6) :: st) σ Q := q33 (show fnd (pgm m_X4_furrowFrom) 12 = some (15, 33, 30, 4, 6, []) from rfl) hk
set_option maxRecDepth 100000 in
theorem s_X4_furrowFrom_15 {d : Nat} {l0 l1 l2 l3 l4 l5 l6 : AV} {st : List AV} {a b : Int} {σ : Sg} {Q : AV → Sg → Prop}  : Rn d m_X4_furrowFrom 15 [l0, l1, l2, l3, l4, l5, l6] (vI b :: vI a :: st) σ Q ↔ if w32 b ≤ w32 a then Rn d m_X4_furrowFrom 80 [l0, l1, l2, l3, l4, l5, l6] st σ Q else Rn d m_X4_furrowFrom 18 [l0, l1, l2, l3, l4, l5, l6] st σ Q := q20_3 (show fnd (pgm m_X4_furrowFrom) 15 = some (18, 20, 0, 3, 80, []) from rfl)
set_option maxRecDepth 100000 in
theorem s_X4_furrowFrom_18 {d : Nat} {l0 l1 l2 l3 l5 l6 : AV} {st : List AV} {x : Int} {σ : Sg} {Q : AV → Sg → Prop}  : Rn d m_X4_furrowFrom 18 [l0, l1, l2, l3, vI x, l5, l6] st σ Q ↔ Rn d m_X4_furrowFrom 20 [l0, l1, l2, l3, vI x, l5, l6] (vI x :: st) σ Q := q3 (show fnd (pgm m_X4_furrowFrom) 18 = some (20, 3, 0, 4, 1, []) from rfl) rfl
set_option maxRecDepth 100000 in
theorem s_X4_furrowFrom_20 {d : Nat} {l0 l1 l2 l3 l4 l5 l6 : AV} {st : List AV} {σ : Sg} {Q : AV → Sg → Prop}  : Rn d m_X4_furrowFrom 20 [l0, l1, l2, l3, l4, l5, l6] st σ Q ↔ Rn d m_X4_furrowFrom 23 [l0, l1, l2, l3, l4, l5, l6] (vI 200 :: st) σ Q := q0 (show fnd (pgm m_X4_furrowFrom) 20 = some (23, 0, 200, 2, 0, []) from rfl)
set_option maxRecDepth 100000 in
theorem s_X4_furrowFrom_23 {d : Nat} {l0 l1 l2 l3 l4 l5 l6 : AV} {st : List AV} {a b : Int} {σ : Sg} {Q : AV → Sg → Prop}  : Rn d m_X4_furrowFrom 23 [l0, l1, l2, l3, l4, l5, l6] (vI b :: vI a :: st) σ Q ↔ if w32 b ≤ w32 a then Rn d m_X4_furrowFrom 80 [l0, l1, l2, l3, l4, l5, l6] st σ Q else Rn d m_X4_furrowFrom 26 [l0, l1, l2, l3, l4, l5, l6] st σ Q := q20_3 (show fnd (pgm m_X4_furrowFrom) 23 = some (26, 20, 0, 3, 80, []) from rfl)
set_option maxRecDepth 100000 in
theorem s_X4_furrowFrom_26 {d : Nat} {l0 l1 l3 l4 l5 l6 : AV} {st : List AV} {o : Nat} {σ : Sg} {Q : AV → Sg → Prop} (ho : o ≠ 0) : Rn d m_X4_furrowFrom 26 [l0, l1, vR o, l3, l4, l5, l6] st σ Q ↔ Rn d m_X4_furrowFrom 27 [l0, l1, vR o, l3, l4, l5, l6] (vR o :: st) σ Q := q5 (show fnd (pgm m_X4_furrowFrom) 26 = some (27, 5, 0, 2, 0, []) from rfl) rfl ho
set_option maxRecDepth 100000 in
theorem s_X4_furrowFrom_27 {d : Nat} {l0 l1 l2 l3 l4 l5 l6 : AV} {st : List AV} {o : Nat} {σ : Sg} {Q : AV → Sg → Prop} (hk : kn σ o = (0, 2)) : Rn d m_X4_furrowFrom 27 [l0, l1, l2, l3, l4, l5, l6] (vR o :: st) σ Q ↔ Rn d m_X4_furrowFrom 30 [l0, l1, l2, l3, l4, l5, l6] (vR (tp o 3) :: st) σ Q := q33 (show fnd (pgm m_X4_furrowFrom) 27 = some (30, 33, 130, 2, 3, []) from rfl) hk
set_option maxRecDepth 100000 in
theorem s_X4_furrowFrom_30 {d : Nat} {l1 l2 l3 l4 l5 l6 : AV} {st : List AV} {o : Nat} {σ : Sg} {Q : AV → Sg → Prop} (ho : o ≠ 0) : Rn d m_X4_furrowFrom 30 [vR o, l1, l2, l3, l4, l5, l6] st σ Q ↔ Rn d m_X4_furrowFrom 31 [vR o, l1, l2, l3, l4, l5, l6] (vR o :: st) σ Q := q5 (show fnd (pgm m_X4_furrowFrom) 30 = some (31, 5, 0, 0, 0, []) from rfl) rfl ho
set_option maxRecDepth 100000 in
theorem s_X4_furrowFrom_31 {d : Nat} {l0 l1 l2 l3 l4 l5 : AV} {st : List AV} {x : Int} {σ : Sg} {Q : AV → Sg → Prop}  : Rn d m_X4_furrowFrom 31 [l0, l1, l2, l3, l4, l5, vI x] st σ Q ↔ Rn d m_X4_furrowFrom 33 [l0, l1, l2, l3, l4, l5, vI x] (vI x :: st) σ Q := q3 (show fnd (pgm m_X4_furrowFrom) 31 = some (33, 3, 0, 6, 1, []) from rfl) rfl
set_option maxRecDepth 100000 in
theorem s_X4_furrowFrom_33 {d : Nat} {l0 l1 l2 l3 l4 l5 l6 : AV} {st : List AV} {o : Nat} {a0 : Int} {σ : Sg} {Q : AV → Sg → Prop} (h4 : st.length ≤ 4) (hk : kn σ o = (0, 4)) : Rn d m_X4_furrowFrom 33 [l0, l1, l2, l3, l4, l5, l6] (vI a0 :: vR o :: st) σ Q ↔ ∃ r σ1, Ev d m_X4_nightOf [vR o, vI a0] σ r σ1 ∧ Rn d m_X4_furrowFrom 36 [l0, l1, l2, l3, l4, l5, l6] (psh r st) σ1 Q := q35 (show fnd (pgm m_X4_furrowFrom) 33 = some (36, 35, 127, 44, 2, []) from rfl) ⟨⟨by simp, by simpa using h4⟩, (by simp only [List.take, List.reverse, List.reverseAux, rcv]; rw [if_neg (by decide +kernel)]; exact decide_eq_true hk)⟩
set_option maxRecDepth 100000 in
theorem s_X4_furrowFrom_36 {d : Nat} {l0 l1 l2 l3 l4 l5 l6 : AV} {st : List AV} {i : Int} {o : Nat} {σ : Sg} {Q : AV → Sg → Prop} (hi : 0 ≤ w32 i ∧ w32 i < al σ 1 o) : Rn d m_X4_furrowFrom 36 [l0, l1, l2, l3, l4, l5, l6] (vI i :: vR o :: st) σ Q ↔ Rn d m_X4_furrowFrom 37 [l0, l1, l2, l3, l4, l5, l6] (vI (σ o (w32 i)) :: st) σ Q := q25 (show fnd (pgm m_X4_furrowFrom) 36 = some (37, 25, 0, 0, 0, []) from rfl) hi
set_option maxRecDepth 100000 in
theorem s_X4_furrowFrom_37 {d : Nat} {l0 l1 l2 l3 l4 l5 l6 : AV} {st : List AV} {a : Int} {σ : Sg} {Q : AV → Sg → Prop}  : Rn d m_X4_furrowFrom 37 [l0, l1, l2, l3, l4, l5, l6] (vI a :: st) σ Q ↔ if ¬ w32 a = 0 then Rn d m_X4_furrowFrom 43 [l0, l1, l2, l3, l4, l5, l6] st σ Q else Rn d m_X4_furrowFrom 40 [l0, l1, l2, l3, l4, l5, l6] st σ Q := q19_1 (show fnd (pgm m_X4_furrowFrom) 37 = some (40, 19, 0, 1, 43, []) from rfl)
set_option maxRecDepth 100000 in
theorem s_X4_furrowFrom_40 {d : Nat} {l0 l1 l2 l3 l4 l5 l6 : AV} {st : List AV} {σ : Sg} {Q : AV → Sg → Prop}  : Rn d m_X4_furrowFrom 40 [l0, l1, l2, l3, l4, l5, l6] st σ Q ↔ Rn d m_X4_furrowFrom 74 [l0, l1, l2, l3, l4, l5, l6] st σ Q := q21 (show fnd (pgm m_X4_furrowFrom) 40 = some (43, 21, 0, 0, 74, []) from rfl)
set_option maxRecDepth 100000 in
theorem s_X4_furrowFrom_43 {d : Nat} {l0 l1 l2 l3 l5 l6 : AV} {st : List AV} {x : Int} {σ : Sg} {Q : AV → Sg → Prop}  : Rn d m_X4_furrowFrom 43 [l0, l1, l2, l3, vI x, l5, l6] st σ Q ↔ Rn d m_X4_furrowFrom 46 [l0, l1, l2, l3, vI (x + 1), l5, l6] st σ Q := q9 (show fnd (pgm m_X4_furrowFrom) 43 = some (46, 9, 1, 4, 0, []) from rfl) rfl
set_option maxRecDepth 100000 in
theorem s_X4_furrowFrom_46 {d : Nat} {l1 l2 l3 l4 l5 l6 : AV} {st : List AV} {o : Nat} {σ : Sg} {Q : AV → Sg → Prop} (ho : o ≠ 0) : Rn d m_X4_furrowFrom 46 [vR o, l1, l2, l3, l4, l5, l6] st σ Q ↔ Rn d m_X4_furrowFrom 47 [vR o, l1, l2, l3, l4, l5, l6] (vR o :: st) σ Q := q5 (show fnd (pgm m_X4_furrowFrom) 46 = some (47, 5, 0, 0, 0, []) from rfl) rfl ho
set_option maxRecDepth 100000 in
theorem s_X4_furrowFrom_47 {d : Nat} {l0 l1 l2 l3 l4 l5 l6 : AV} {st : List AV} {o : Nat} {σ : Sg} {Q : AV → Sg → Prop} (hk : kn σ o = (0, 4)) : Rn d m_X4_furrowFrom 47 [l0, l1, l2, l3, l4, l5, l6] (vR o :: st) σ Q ↔ Rn d m_X4_furrowFrom 50 [l0, l1, l2, l3, l4, l5, l6] (vR (tp o 4) :: st) σ Q := q33 (show fnd (pgm m_X4_furrowFrom) 47 = some (50, 33, 24, 4, 4, []) from rfl) hk
set_option maxRecDepth 100000 in
theorem s_X4_furrowFrom_50 {d : Nat} {l0 l1 l2 l3 l4 l5 : AV} {st : List AV} {x : Int} {σ : Sg} {Q : AV → Sg → Prop}  : Rn d m_X4_furrowFrom 50 [l0, l1, l2, l3, l4, l5, vI x] st σ Q ↔ Rn d m_X4_furrowFrom 52 [l0, l1, l2, l3, l4, l5, vI x] (vI x :: st) σ Q := q3 (show fnd (pgm m_X4_furrowFrom) 50 = some (52, 3, 0, 6, 1, []) from rfl) rfl
set_option maxRecDepth 100000 in
theorem s_X4_furrowFrom_52 {d : Nat} {l0 l1 l2 l3 l4 l5 l6 : AV} {st : List AV} {i : Int} {o : Nat} {σ : Sg} {Q : AV → Sg → Prop} (hi : 0 ≤ w32 i ∧ w32 i < al σ 1 o) : Rn d m_X4_furrowFrom 52 [l0, l1, l2, l3, l4, l5, l6] (vI i :: vR o :: st) σ Q ↔ Rn d m_X4_furrowFrom 53 [l0, l1, l2, l3, l4, l5, l6] (vI (σ o (w32 i)) :: st) σ Q := q25 (show fnd (pgm m_X4_furrowFrom) 52 = some (53, 25, 0, 0, 0, []) from rfl) hi
set_option maxRecDepth 100000 in
theorem s_X4_furrowFrom_53 {d : Nat} {l0 l2 l3 l4 l5 l6 : AV} {st : List AV} {x : Int} {σ : Sg} {Q : AV → Sg → Prop}  : Rn d m_X4_furrowFrom 53 [l0, vI x, l2, l3, l4, l5, l6] st σ Q ↔ Rn d m_X4_furrowFrom 54 [l0, vI x, l2, l3, l4, l5, l6] (vI x :: st) σ Q := q3 (show fnd (pgm m_X4_furrowFrom) 53 = some (54, 3, 0, 1, 0, []) from rfl) rfl
set_option maxRecDepth 100000 in
theorem s_X4_furrowFrom_54 {d : Nat} {l0 l1 l2 l3 l4 l5 l6 : AV} {st : List AV} {a b : Int} {σ : Sg} {Q : AV → Sg → Prop}  : Rn d m_X4_furrowFrom 54 [l0, l1, l2, l3, l4, l5, l6] (vI b :: vI a :: st) σ Q ↔ if ¬ w32 a = w32 b then Rn d m_X4_furrowFrom 74 [l0, l1, l2, l3, l4, l5, l6] st σ Q else Rn d m_X4_furrowFrom 57 [l0, l1, l2, l3, l4, l5, l6] st σ Q := q20_1 (show fnd (pgm m_X4_furrowFrom) 54 = some (57, 20, 0, 1, 74, []) from rfl)
set_option maxRecDepth 100000 in
theorem s_X4_furrowFrom_57 {d : Nat} {l0 l1 l2 l3 l4 l6 : AV} {st : List AV} {x : Int} {σ : Sg} {Q : AV → Sg → Prop}  : Rn d m_X4_furrowFrom 57 [l0, l1, l2, l3, l4, vI x, l6] st σ Q ↔ Rn d m_X4_furrowFrom 59 [l0, l1, l2, l3, l4, vI x, l6] (vI x :: st) σ Q := q3 (show fnd (pgm m_X4_furrowFrom) 57 = some (59, 3, 0, 5, 1, []) from rfl) rfl
set_option maxRecDepth 100000 in
theorem s_X4_furrowFrom_59 {d : Nat} {l0 l1 l2 l4 l5 l6 : AV} {st : List AV} {x : Int} {σ : Sg} {Q : AV → Sg → Prop}  : Rn d m_X4_furrowFrom 59 [l0, l1, l2, vI x, l4, l5, l6] st σ Q ↔ Rn d m_X4_furrowFrom 60 [l0, l1, l2, vI x, l4, l5, l6] (vI x :: st) σ Q := q3 (show fnd (pgm m_X4_furrowFrom) 59 = some (60, 3, 0, 3, 0, []) from rfl) rfl
set_option maxRecDepth 100000 in
theorem s_X4_furrowFrom_60 {d : Nat} {l0 l1 l2 l3 l4 l5 l6 : AV} {st : List AV} {a b : Int} {σ : Sg} {Q : AV → Sg → Prop}  : Rn d m_X4_furrowFrom 60 [l0, l1, l2, l3, l4, l5, l6] (vI b :: vI a :: st) σ Q ↔ if ¬ w32 a = w32 b then Rn d m_X4_furrowFrom 71 [l0, l1, l2, l3, l4, l5, l6] st σ Q else Rn d m_X4_furrowFrom 63 [l0, l1, l2, l3, l4, l5, l6] st σ Q := q20_1 (show fnd (pgm m_X4_furrowFrom) 60 = some (63, 20, 0, 1, 71, []) from rfl)
set_option maxRecDepth 100000 in
theorem s_X4_furrowFrom_63 {d : Nat} {l1 l2 l3 l4 l5 l6 : AV} {st : List AV} {o : Nat} {σ : Sg} {Q : AV → Sg → Prop} (ho : o ≠ 0) : Rn d m_X4_furrowFrom 63 [vR o, l1, l2, l3, l4, l5, l6] st σ Q ↔ Rn d m_X4_furrowFrom 64 [vR o, l1, l2, l3, l4, l5, l6] (vR o :: st) σ Q := q5 (show fnd (pgm m_X4_furrowFrom) 63 = some (64, 5, 0, 0, 0, []) from rfl) rfl ho
set_option maxRecDepth 100000 in
theorem s_X4_furrowFrom_64 {d : Nat} {l0 l1 l2 l3 l4 l5 l6 : AV} {st : List AV} {o : Nat} {σ : Sg} {Q : AV → Sg → Prop} (hk : kn σ o = (0, 4)) : Rn d m_X4_furrowFrom 64 [l0, l1, l2, l3, l4, l5, l6] (vR o :: st) σ Q ↔ Rn d m_X4_furrowFrom 67 [l0, l1, l2, l3, l4, l5, l6] (vR (tp o 5) :: st) σ Q := q33 (show fnd (pgm m_X4_furrowFrom) 64 = some (67, 33, 27, 4, 5, []) from rfl) hk
set_option maxRecDepth 100000 in
theorem s_X4_furrowFrom_67 {d : Nat} {l0 l1 l2 l3 l4 l5 : AV} {st : List AV} {x : Int} {σ : Sg} {Q : AV → Sg → Prop}  : Rn d m_X4_furrowFrom 67 [l0, l1, l2, l3, l4, l5, vI x] st σ Q ↔ Rn d m_X4_furrowFrom 69 [l0, l1, l2, l3, l4, l5, vI x] (vI x :: st) σ Q := q3 (show fnd (pgm m_X4_furrowFrom) 67 = some (69, 3, 0, 6, 1, []) from rfl) rfl
set_option maxRecDepth 100000 in
theorem s_X4_furrowFrom_69 {d : Nat} {l0 l1 l2 l3 l4 l5 l6 : AV} {st : List AV} {i : Int} {o : Nat} {σ : Sg} {Q : AV → Sg → Prop} (hi : 0 ≤ w32 i ∧ w32 i < al σ 1 o) : Rn d m_X4_furrowFrom 69 [l0, l1, l2, l3, l4, l5, l6] (vI i :: vR o :: st) σ Q ↔ Rn d m_X4_furrowFrom 70 [l0, l1, l2, l3, l4, l5, l6] (vI (σ o (w32 i)) :: st) σ Q := q25 (show fnd (pgm m_X4_furrowFrom) 69 = some (70, 25, 0, 0, 0, []) from rfl) hi
set_option maxRecDepth 100000 in
theorem s_X4_furrowFrom_70 {d : Nat} {l0 l1 l2 l3 l4 l5 l6 : AV} {x : Int} {σ : Sg} {Q : AV → Sg → Prop}  : Rn d m_X4_furrowFrom 70 [l0, l1, l2, l3, l4, l5, l6] [vI x] σ Q ↔ Q (vI x) σ := q37_1 (st := []) (show fnd (pgm m_X4_furrowFrom) 70 = some (71, 37, 0, 1, 0, []) from rfl)
set_option maxRecDepth 100000 in
theorem s_X4_furrowFrom_71 {d : Nat} {l0 l1 l2 l3 l4 l6 : AV} {st : List AV} {x : Int} {σ : Sg} {Q : AV → Sg → Prop}  : Rn d m_X4_furrowFrom 71 [l0, l1, l2, l3, l4, vI x, l6] st σ Q ↔ Rn d m_X4_furrowFrom 74 [l0, l1, l2, l3, l4, vI (x + 1), l6] st σ Q := q9 (show fnd (pgm m_X4_furrowFrom) 71 = some (74, 9, 1, 5, 0, []) from rfl) rfl
set_option maxRecDepth 100000 in
theorem s_X4_furrowFrom_74 {d : Nat} {l0 l1 l2 l3 l4 l5 : AV} {st : List AV} {x : Int} {σ : Sg} {Q : AV → Sg → Prop}  : Rn d m_X4_furrowFrom 74 [l0, l1, l2, l3, l4, l5, vI x] st σ Q ↔ Rn d m_X4_furrowFrom 77 [l0, l1, l2, l3, l4, l5, vI (x + 1)] st σ Q := q9 (show fnd (pgm m_X4_furrowFrom) 74 = some (77, 9, 1, 6, 0, []) from rfl) rfl
set_option maxRecDepth 100000 in
theorem s_X4_furrowFrom_77 {d : Nat} {l0 l1 l2 l3 l4 l5 l6 : AV} {st : List AV} {σ : Sg} {Q : AV → Sg → Prop}  : Rn d m_X4_furrowFrom 77 [l0, l1, l2, l3, l4, l5, l6] st σ Q ↔ Rn d m_X4_furrowFrom 9 [l0, l1, l2, l3, l4, l5, l6] st σ Q := q21 (show fnd (pgm m_X4_furrowFrom) 77 = some (80, 21, 0, 0, 9, []) from rfl)
set_option maxRecDepth 100000 in
theorem s_X4_furrowFrom_80 {d : Nat} {l0 l1 l2 l3 l4 l5 l6 : AV} {st : List AV} {σ : Sg} {Q : AV → Sg → Prop}  : Rn d m_X4_furrowFrom 80 [l0, l1, l2, l3, l4, l5, l6] st σ Q ↔ Rn d m_X4_furrowFrom 81 [l0, l1, l2, l3, l4, l5, l6] (vI (-1) :: st) σ Q := q0 (show fnd (pgm m_X4_furrowFrom) 80 = some (81, 0, (-1), 0, 0, []) from rfl)
set_option maxRecDepth 100000 in
theorem s_X4_furrowFrom_81 {d : Nat} {l0 l1 l2 l3 l4 l5 l6 : AV} {x : Int} {σ : Sg} {Q : AV → Sg → Prop}  : Rn d m_X4_furrowFrom 81 [l0, l1, l2, l3, l4, l5, l6] [vI x] σ Q ↔ Q (vI x) σ := q37_1 (st := []) (show fnd (pgm m_X4_furrowFrom) 81 = some (82, 37, 0, 1, 0, []) from rfl)
set_option maxRecDepth 100000 in
theorem en_X4_movedAmong {d : Nat} {o : Nat} {a0 : Int} {σ σ0 : Sg} {r0 : AV} (h : Rn d m_X4_movedAmong 0 [vR o, vI a0, none, none] [] σ (fun r σ1 => r = r0 ∧ σ1 = σ0)) : Ev (d + 1) m_X4_movedAmong [vR o, vI a0] σ r0 σ0 := Ev_is (Nat.le_of_ble_eq_true rfl) h
set_option maxRecDepth 100000 in
theorem eo_X4_movedAmong {d : Nat} {o : Nat} {a0 : Int} {σ : Sg} {Q : AV → Sg → Prop} (h : Rn d m_X4_movedAmong 0 [vR o, vI a0, none, none] [] σ Q) : ∃ r σ1, Ev (d + 1) m_X4_movedAmong [vR o, vI a0] σ r σ1 ∧ Q r σ1 := Ev_of (Nat.le_of_ble_eq_true rfl) h
set_option maxRecDepth 100000 in
theorem s_X4_movedAmong_0 {d : Nat} {l0 l1 l2 l3 : AV} {st : List AV} {σ : Sg} {Q : AV → Sg → Prop}  : Rn d m_X4_movedAmong 0 [l0, l1, l2, l3] st σ Q ↔ Rn d m_X4_movedAmong 1 [l0, l1, l2, l3] (vI 0 :: st) σ Q := q0 (show fnd (pgm m_X4_movedAmong) 0 = some (1, 0, 0, 0, 0, []) from rfl)
set_option maxRecDepth 100000 in
theorem s_X4_movedAmong_1 {d : Nat} {l0 l1 l2 l3 : AV} {st : List AV} {x : Int} {σ : Sg} {Q : AV → Sg → Prop}  : Rn d m_X4_movedAmong 1 [l0, l1, l2, l3] (vI x :: st) σ Q ↔ Rn d m_X4_movedAmong 2 [l0, l1, vI x, l3] st σ Q := q6 (show fnd (pgm m_X4_movedAmong) 1 = some (2, 6, 0, 2, 0, []) from rfl) (by decide : 2 < 4)
set_option maxRecDepth 100000 in
theorem s_X4_movedAmong_2 {d : Nat} {l0 l1 l2 l3 : AV} {st : List AV} {σ : Sg} {Q : AV → Sg → Prop}  : Rn d m_X4_movedAmong 2 [l0, l1, l2, l3] st σ Q ↔ Rn d m_X4_movedAmong 3 [l0, l1, l2, l3] (vI 0 :: st) σ Q := q0 (show fnd (pgm m_X4_movedAmong) 2 = some (3, 0, 0, 0, 0, []) from rfl)
set_option maxRecDepth 100000 in
theorem s_X4_movedAmong_3 {d : Nat} {l0 l1 l2 l3 : AV} {st : List AV} {x : Int} {σ : Sg} {Q : AV → Sg → Prop}  : Rn d m_X4_movedAmong 3 [l0, l1, l2, l3] (vI x :: st) σ Q ↔ Rn d m_X4_movedAmong 4 [l0, l1, l2, vI x] st σ Q := q6 (show fnd (pgm m_X4_movedAmong) 3 = some (4, 6, 0, 3, 0, []) from rfl) (by decide : 3 < 4)
set_option maxRecDepth 100000 in
theorem s_X4_movedAmong_4 {d : Nat} {l0 l1 l2 : AV} {st : List AV} {x : Int} {σ : Sg} {Q : AV → Sg → Prop}  : Rn d m_X4_movedAmong 4 [l0, l1, l2, vI x] st σ Q ↔ Rn d m_X4_movedAmong 5 [l0, l1, l2, vI x] (vI x :: st) σ Q := q3 (show fnd (pgm m_X4_movedAmong) 4 = some (5, 3, 0, 3, 0, []) from rfl) rfl
set_option maxRecDepth 100000 in
theorem s_X4_movedAmong_5 {d : Nat} {l0 l1 l2 l3 : AV} {st : List AV} {σ : Sg} {Q : AV → Sg → Prop}  : Rn d m_X4_movedAmong 5 [l0, l1, l2, l3] st σ Q ↔ Rn d m_X4_movedAmong 7 [l0, l1, l2, l3] (vI 20 :: st) σ Q := q0 (show fnd (pgm m_X4_movedAmong) 5 = some (7, 0, 20, 1, 0, []) from rfl)
set_option maxRecDepth 100000 in
theorem s_X4_movedAmong_7 {d : Nat} {l0 l1 l2 l3 : AV} {st : List AV} {a b : Int} {σ : Sg} {Q : AV → Sg → Prop}  : Rn d m_X4_movedAmong 7 [l0, l1, l2, l3] (vI b :: vI a :: st) σ Q ↔ if w32 b ≤ w32 a then Rn d m_X4_movedAmong 34 [l0, l1, l2, l3] st σ Q else Rn d m_X4_movedAmong 10 [l0, l1, l2, l3] st σ Q := q20_3 (show fnd (pgm m_X4_movedAmong) 7 = some (10, 20, 0, 3, 34, []) from rfl)
set_option maxRecDepth 100000 in
theorem s_X4_movedAmong_10 {d : Nat} {l0 l2 l3 : AV} {st : List AV} {x : Int} {σ : Sg} {Q : AV → Sg → Prop}  : Rn d m_X4_movedAmong 10 [l0, vI x, l2, l3] st σ Q ↔ Rn d m_X4_movedAmong 11 [l0, vI x, l2, l3] (vI x :: st) σ Q := q3 (show fnd (pgm m_X4_movedAmong) 10 = some (11, 3, 0, 1, 0, []) from rfl) rfl
set_option maxRecDepth 100000 in
theorem s_X4_movedAmong_11 {d : Nat} {l0 l1 l2 : AV} {st : List AV} {x : Int} {σ : Sg} {Q : AV → Sg → Prop}  : Rn d m_X4_movedAmong 11 [l0, l1, l2, vI x] st σ Q ↔ Rn d m_X4_movedAmong 12 [l0, l1, l2, vI x] (vI x :: st) σ Q := q3 (show fnd (pgm m_X4_movedAmong) 11 = some (12, 3, 0, 3, 0, []) from rfl) rfl
set_option maxRecDepth 100000 in
theorem s_X4_movedAmong_12 {d : Nat} {l0 l1 l2 l3 : AV} {st : List AV} {a b : Int} {σ : Sg} {Q : AV → Sg → Prop}  : Rn d m_X4_movedAmong 12 [l0, l1, l2, l3] (vI b :: vI a :: st) σ Q ↔ Rn d m_X4_movedAmong 13 [l0, l1, l2, l3] (vI (shr32 a b) :: st) σ Q := q10_9 (show fnd (pgm m_X4_movedAmong) 12 = some (13, 10, 0, 9, 0, []) from rfl)
set_option maxRecDepth 100000 in
theorem s_X4_movedAmong_13 {d : Nat} {l0 l1 l2 l3 : AV} {st : List AV} {σ : Sg} {Q : AV → Sg → Prop}  : Rn d m_X4_movedAmong 13 [l0, l1, l2, l3] st σ Q ↔ Rn d m_X4_movedAmong 14 [l0, l1, l2, l3] (vI 1 :: st) σ Q := q0 (show fnd (pgm m_X4_movedAmong) 13 = some (14, 0, 1, 0, 0, []) from rfl)
set_option maxRecDepth 100000 in
theorem s_X4_movedAmong_14 {d : Nat} {l0 l1 l2 l3 : AV} {st : List AV} {a b : Int} {σ : Sg} {Q : AV → Sg → Prop}  : Rn d m_X4_movedAmong 14 [l0, l1, l2, l3] (vI b :: vI a :: st) σ Q ↔ Rn d m_X4_movedAmong 15 [l0, l1, l2, l3] (vI (and32 a b) :: st) σ Q := q10_5 (show fnd (pgm m_X4_movedAmong) 14 = some (15, 10, 0, 5, 0, []) from rfl)
set_option maxRecDepth 100000 in
theorem s_X4_movedAmong_15 {d : Nat} {l0 l1 l2 l3 : AV} {st : List AV} {σ : Sg} {Q : AV → Sg → Prop}  : Rn d m_X4_movedAmong 15 [l0, l1, l2, l3] st σ Q ↔ Rn d m_X4_movedAmong 16 [l0, l1, l2, l3] (vI 1 :: st) σ Q := q0 (show fnd (pgm m_X4_movedAmong) 15 = some (16, 0, 1, 0, 0, []) from rfl)
set_option maxRecDepth 100000 in
theorem s_X4_movedAmong_16 {d : Nat} {l0 l1 l2 l3 : AV} {st : List AV} {a b : Int} {σ : Sg} {Q : AV → Sg → Prop}  : Rn d m_X4_movedAmong 16 [l0, l1, l2, l3] (vI b :: vI a :: st) σ Q ↔ if ¬ w32 a = w32 b then Rn d m_X4_movedAmong 28 [l0, l1, l2, l3] st σ Q else Rn d m_X4_movedAmong 19 [l0, l1, l2, l3] st σ Q := q20_1 (show fnd (pgm m_X4_movedAmong) 16 = some (19, 20, 0, 1, 28, []) from rfl)
set_option maxRecDepth 100000 in
theorem s_X4_movedAmong_19 {d : Nat} {l0 l1 l3 : AV} {st : List AV} {x : Int} {σ : Sg} {Q : AV → Sg → Prop}  : Rn d m_X4_movedAmong 19 [l0, l1, vI x, l3] st σ Q ↔ Rn d m_X4_movedAmong 20 [l0, l1, vI x, l3] (vI x :: st) σ Q := q3 (show fnd (pgm m_X4_movedAmong) 19 = some (20, 3, 0, 2, 0, []) from rfl) rfl
set_option maxRecDepth 100000 in
theorem s_X4_movedAmong_20 {d : Nat} {l1 l2 l3 : AV} {st : List AV} {o : Nat} {σ : Sg} {Q : AV → Sg → Prop} (ho : o ≠ 0) : Rn d m_X4_movedAmong 20 [vR o, l1, l2, l3] st σ Q ↔ Rn d m_X4_movedAmong 21 [vR o, l1, l2, l3] (vR o :: st) σ Q := q5 (show fnd (pgm m_X4_movedAmong) 20 = some (21, 5, 0, 0, 0, []) from rfl) rfl ho
set_option maxRecDepth 100000 in
theorem s_X4_movedAmong_21 {d : Nat} {l0 l1 l2 l3 : AV} {st : List AV} {o : Nat} {σ : Sg} {Q : AV → Sg → Prop} (hk : kn σ o = (0, 4)) : Rn d m_X4_movedAmong 21 [l0, l1, l2, l3] (vR o :: st) σ Q ↔ Rn d m_X4_movedAmong 24 [l0, l1, l2, l3] (vR (tp o 1) :: st) σ Q := q33 (show fnd (pgm m_X4_movedAmong) 21 = some (24, 33, 15, 4, 1, []) from rfl) hk
set_option maxRecDepth 100000 in
theorem s_X4_movedAmong_24 {d : Nat} {l0 l1 l2 : AV} {st : List AV} {x : Int} {σ : Sg} {Q : AV → Sg → Prop}  : Rn d m_X4_movedAmong 24 [l0, l1, l2, vI x] st σ Q ↔ Rn d m_X4_movedAmong 25 [l0, l1, l2, vI x] (vI x :: st) σ Q := q3 (show fnd (pgm m_X4_movedAmong) 24 = some (25, 3, 0, 3, 0, []) from rfl) rfl
set_option maxRecDepth 100000 in
theorem s_X4_movedAmong_25 {d : Nat} {l0 l1 l2 l3 : AV} {st : List AV} {i : Int} {o : Nat} {σ : Sg} {Q : AV → Sg → Prop} (hi : 0 ≤ w32 i ∧ w32 i < al σ 1 o) : Rn d m_X4_movedAmong 25 [l0, l1, l2, l3] (vI i :: vR o :: st) σ Q ↔ Rn d m_X4_movedAmong 26 [l0, l1, l2, l3] (vI (σ o (w32 i)) :: st) σ Q := q25 (show fnd (pgm m_X4_movedAmong) 25 = some (26, 25, 0, 0, 0, []) from rfl) hi
set_option maxRecDepth 100000 in
theorem s_X4_movedAmong_26 {d : Nat} {l0 l1 l2 l3 : AV} {st : List AV} {a b : Int} {σ : Sg} {Q : AV → Sg → Prop}  : Rn d m_X4_movedAmong 26 [l0, l1, l2, l3] (vI b :: vI a :: st) σ Q ↔ Rn d m_X4_movedAmong 27 [l0, l1, l2, l3] (vI (or32 a b) :: st) σ Q := q10_6 (show fnd (pgm m_X4_movedAmong) 26 = some (27, 10, 0, 6, 0, []) from rfl)
set_option maxRecDepth 100000 in
theorem s_X4_movedAmong_27 {d : Nat} {l0 l1 l2 l3 : AV} {st : List AV} {x : Int} {σ : Sg} {Q : AV → Sg → Prop}  : Rn d m_X4_movedAmong 27 [l0, l1, l2, l3] (vI x :: st) σ Q ↔ Rn d m_X4_movedAmong 28 [l0, l1, vI x, l3] st σ Q := q6 (show fnd (pgm m_X4_movedAmong) 27 = some (28, 6, 0, 2, 0, []) from rfl) (by decide : 2 < 4)
set_option maxRecDepth 100000 in
theorem s_X4_movedAmong_28 {d : Nat} {l0 l1 l2 : AV} {st : List AV} {x : Int} {σ : Sg} {Q : AV → Sg → Prop}  : Rn d m_X4_movedAmong 28 [l0, l1, l2, vI x] st σ Q ↔ Rn d m_X4_movedAmong 31 [l0, l1, l2, vI (x + 1)] st σ Q := q9 (show fnd (pgm m_X4_movedAmong) 28 = some (31, 9, 1, 3, 0, []) from rfl) rfl
set_option maxRecDepth 100000 in
theorem s_X4_movedAmong_31 {d : Nat} {l0 l1 l2 l3 : AV} {st : List AV} {σ : Sg} {Q : AV → Sg → Prop}  : Rn d m_X4_movedAmong 31 [l0, l1, l2, l3] st σ Q ↔ Rn d m_X4_movedAmong 4 [l0, l1, l2, l3] st σ Q := q21 (show fnd (pgm m_X4_movedAmong) 31 = some (34, 21, 0, 0, 4, []) from rfl)
set_option maxRecDepth 100000 in
theorem s_X4_movedAmong_34 {d : Nat} {l0 l1 l3 : AV} {st : List AV} {x : Int} {σ : Sg} {Q : AV → Sg → Prop}  : Rn d m_X4_movedAmong 34 [l0, l1, vI x, l3] st σ Q ↔ Rn d m_X4_movedAmong 35 [l0, l1, vI x, l3] (vI x :: st) σ Q := q3 (show fnd (pgm m_X4_movedAmong) 34 = some (35, 3, 0, 2, 0, []) from rfl) rfl
set_option maxRecDepth 100000 in
theorem s_X4_movedAmong_35 {d : Nat} {l0 l1 l2 l3 : AV} {x : Int} {σ : Sg} {Q : AV → Sg → Prop}  : Rn d m_X4_movedAmong 35 [l0, l1, l2, l3] [vI x] σ Q ↔ Q (vI x) σ := q37_1 (st := []) (show fnd (pgm m_X4_movedAmong) 35 = some (36, 37, 0, 1, 0, []) from rfl)
set_option maxRecDepth 100000 in
theorem en_X4_keepCellsComeTo {d : Nat} {o : Nat} {σ σ0 : Sg} {r0 : AV} (h : Rn d m_X4_keepCellsComeTo 0 [vR o, none, none] [] σ (fun r σ1 => r = r0 ∧ σ1 = σ0)) : Ev (d + 1) m_X4_keepCellsComeTo [vR o] σ r0 σ0 := Ev_is (Nat.le_of_ble_eq_true rfl) h
set_option maxRecDepth 100000 in
theorem eo_X4_keepCellsComeTo {d : Nat} {o : Nat} {σ : Sg} {Q : AV → Sg → Prop} (h : Rn d m_X4_keepCellsComeTo 0 [vR o, none, none] [] σ Q) : ∃ r σ1, Ev (d + 1) m_X4_keepCellsComeTo [vR o] σ r σ1 ∧ Q r σ1 := Ev_of (Nat.le_of_ble_eq_true rfl) h
set_option maxRecDepth 100000 in
theorem s_X4_keepCellsComeTo_0 {d : Nat} {l0 l1 l2 : AV} {st : List AV} {σ : Sg} {Q : AV → Sg → Prop}  : Rn d m_X4_keepCellsComeTo 0 [l0, l1, l2] st σ Q ↔ Rn d m_X4_keepCellsComeTo 1 [l0, l1, l2] (vI 0 :: st) σ Q := q0 (show fnd (pgm m_X4_keepCellsComeTo) 0 = some (1, 0, 0, 0, 0, []) from rfl)
set_option maxRecDepth 100000 in
theorem s_X4_keepCellsComeTo_1 {d : Nat} {l0 l1 l2 : AV} {st : List AV} {x : Int} {σ : Sg} {Q : AV → Sg → Prop}  : Rn d m_X4_keepCellsComeTo 1 [l0, l1, l2] (vI x :: st) σ Q ↔ Rn d m_X4_keepCellsComeTo 2 [l0, vI x, l2] st σ Q := q6 (show fnd (pgm m_X4_keepCellsComeTo) 1 = some (2, 6, 0, 1, 0, []) from rfl) (by decide : 1 < 3)
set_option maxRecDepth 100000 in
theorem s_X4_keepCellsComeTo_2 {d : Nat} {l0 l2 : AV} {st : List AV} {x : Int} {σ : Sg} {Q : AV → Sg → Prop}  : Rn d m_X4_keepCellsComeTo 2 [l0, vI x, l2] st σ Q ↔ Rn d m_X4_keepCellsComeTo 3 [l0, vI x, l2] (vI x :: st) σ Q := q3 (show fnd (pgm m_X4_keepCellsComeTo) 2 = some (3, 3, 0, 1, 0, []) from rfl) rfl
set_option maxRecDepth 100000 in
theorem s_X4_keepCellsComeTo_3 {d : Nat} {l0 l1 l2 : AV} {st : List AV} {σ : Sg} {Q : AV → Sg → Prop}  : Rn d m_X4_keepCellsComeTo 3 [l0, l1, l2] st σ Q ↔ Rn d m_X4_keepCellsComeTo 6 [l0, l1, l2] (vI 144 :: st) σ Q := q0 (show fnd (pgm m_X4_keepCellsComeTo) 3 = some (6, 0, 144, 2, 0, []) from rfl)
set_option maxRecDepth 100000 in
theorem s_X4_keepCellsComeTo_6 {d : Nat} {l0 l1 l2 : AV} {st : List AV} {a b : Int} {σ : Sg} {Q : AV → Sg → Prop}  : Rn d m_X4_keepCellsComeTo 6 [l0, l1, l2] (vI b :: vI a :: st) σ Q ↔ if w32 b ≤ w32 a then Rn d m_X4_keepCellsComeTo 22 [l0, l1, l2] st σ Q else Rn d m_X4_keepCellsComeTo 9 [l0, l1, l2] st σ Q := q20_3 (show fnd (pgm m_X4_keepCellsComeTo) 6 = some (9, 20, 0, 3, 22, []) from rfl)
set_option maxRecDepth 100000 in
theorem s_X4_keepCellsComeTo_9 {d : Nat} {l1 l2 : AV} {st : List AV} {o : Nat} {σ : Sg} {Q : AV → Sg → Prop} (ho : o ≠ 0) : Rn d m_X4_keepCellsComeTo 9 [vR o, l1, l2] st σ Q ↔ Rn d m_X4_keepCellsComeTo 10 [vR o, l1, l2] (vR o :: st) σ Q := q5 (show fnd (pgm m_X4_keepCellsComeTo) 9 = some (10, 5, 0, 0, 0, []) from rfl) rfl ho
set_option maxRecDepth 100000 in
theorem s_X4_keepCellsComeTo_10 {d : Nat} {l0 l1 l2 : AV} {st : List AV} {o : Nat} {σ : Sg} {Q : AV → Sg → Prop} (hk : kn σ o = (0, 4)) : Rn d m_X4_keepCellsComeTo 10 [l0, l1, l2] (vR o :: st) σ Q ↔ Rn d m_X4_keepCellsComeTo 13 [l0, l1, l2] (vR (tp o 7) :: st) σ Q := q33 (show fnd (pgm m_X4_keepCellsComeTo) 10 = some (13, 33, 34, 4, 7, []) from rfl) hk
set_option maxRecDepth 100000 in
theorem s_X4_keepCellsComeTo_13 {d : Nat} {l0 l2 : AV} {st : List AV} {x : Int} {σ : Sg} {Q : AV → Sg → Prop}  : Rn d m_X4_keepCellsComeTo 13 [l0, vI x, l2] st σ Q ↔ Rn d m_X4_keepCellsComeTo 14 [l0, vI x, l2] (vI x :: st) σ Q := q3 (show fnd (pgm m_X4_keepCellsComeTo) 13 = some (14, 3, 0, 1, 0, []) from rfl) rfl
set_option maxRecDepth 100000 in
theorem s_X4_keepCellsComeTo_14 {d : Nat} {l0 l1 l2 : AV} {st : List AV} {σ : Sg} {Q : AV → Sg → Prop}  : Rn d m_X4_keepCellsComeTo 14 [l0, l1, l2] st σ Q ↔ Rn d m_X4_keepCellsComeTo 15 [l0, l1, l2] (vI 0 :: st) σ Q := q0 (show fnd (pgm m_X4_keepCellsComeTo) 14 = some (15, 0, 0, 0, 0, []) from rfl)
set_option maxRecDepth 100000 in
theorem s_X4_keepCellsComeTo_15 {d : Nat} {l0 l1 l2 : AV} {st : List AV} {i x : Int} {o : Nat} {σ : Sg} {Q : AV → Sg → Prop} (hi : 0 ≤ w32 i ∧ w32 i < al σ 3 o) (hx : x = 0 ∨ x = 1) : Rn d m_X4_keepCellsComeTo 15 [l0, l1, l2] (vI x :: vI i :: vR o :: st) σ Q ↔ Rn d m_X4_keepCellsComeTo 16 [l0, l1, l2] st (up σ o (w32 i) x) Q := q31 (show fnd (pgm m_X4_keepCellsComeTo) 15 = some (16, 31, 0, 0, 0, []) from rfl) hi hx
set_option maxRecDepth 100000 in
theorem s_X4_keepCellsComeTo_16 {d : Nat} {l0 l2 : AV} {st : List AV} {x : Int} {σ : Sg} {Q : AV → Sg → Prop}  : Rn d m_X4_keepCellsComeTo 16 [l0, vI x, l2] st σ Q ↔ Rn d m_X4_keepCellsComeTo 19 [l0, vI (x + 1), l2] st σ Q := q9 (show fnd (pgm m_X4_keepCellsComeTo) 16 = some (19, 9, 1, 1, 0, []) from rfl) rfl
set_option maxRecDepth 100000 in
theorem s_X4_keepCellsComeTo_19 {d : Nat} {l0 l1 l2 : AV} {st : List AV} {σ : Sg} {Q : AV → Sg → Prop}  : Rn d m_X4_keepCellsComeTo 19 [l0, l1, l2] st σ Q ↔ Rn d m_X4_keepCellsComeTo 2 [l0, l1, l2] st σ Q := q21 (show fnd (pgm m_X4_keepCellsComeTo) 19 = some (22, 21, 0, 0, 2, []) from rfl)
set_option maxRecDepth 100000 in
theorem s_X4_keepCellsComeTo_22 {d : Nat} {l0 l1 l2 : AV} {st : List AV} {σ : Sg} {Q : AV → Sg → Prop}  : Rn d m_X4_keepCellsComeTo 22 [l0, l1, l2] st σ Q ↔ Rn d m_X4_keepCellsComeTo 23 [l0, l1, l2] (vI 0 :: st) σ Q := q0 (show fnd (pgm m_X4_keepCellsComeTo) 22 = some (23, 0, 0, 0, 0, []) from rfl)
set_option maxRecDepth 100000 in
theorem s_X4_keepCellsComeTo_23 {d : Nat} {l0 l1 l2 : AV} {st : List AV} {x : Int} {σ : Sg} {Q : AV → Sg → Prop}  : Rn d m_X4_keepCellsComeTo 23 [l0, l1, l2] (vI x :: st) σ Q ↔ Rn d m_X4_keepCellsComeTo 24 [l0, vI x, l2] st σ Q := q6 (show fnd (pgm m_X4_keepCellsComeTo) 23 = some (24, 6, 0, 1, 0, []) from rfl) (by decide : 1 < 3)
set_option maxRecDepth 100000 in
theorem s_X4_keepCellsComeTo_24 {d : Nat} {l0 l2 : AV} {st : List AV} {x : Int} {σ : Sg} {Q : AV → Sg → Prop}  : Rn d m_X4_keepCellsComeTo 24 [l0, vI x, l2] st σ Q ↔ Rn d m_X4_keepCellsComeTo 25 [l0, vI x, l2] (vI x :: st) σ Q := q3 (show fnd (pgm m_X4_keepCellsComeTo) 24 = some (25, 3, 0, 1, 0, []) from rfl) rfl
set_option maxRecDepth 100000 in
theorem s_X4_keepCellsComeTo_25 {d : Nat} {l1 l2 : AV} {st : List AV} {o : Nat} {σ : Sg} {Q : AV → Sg → Prop} (ho : o ≠ 0) : Rn d m_X4_keepCellsComeTo 25 [vR o, l1, l2] st σ Q ↔ Rn d m_X4_keepCellsComeTo 26 [vR o, l1, l2] (vR o :: st) σ Q := q5 (show fnd (pgm m_X4_keepCellsComeTo) 25 = some (26, 5, 0, 0, 0, []) from rfl) rfl ho
set_option maxRecDepth 100000 in
theorem s_X4_keepCellsComeTo_26 {d : Nat} {l0 l1 l2 : AV} {st : List AV} {o : Nat} {σ : Sg} {Q : AV → Sg → Prop} (hk : kn σ o = (0, 4)) : Rn d m_X4_keepCellsComeTo 26 [l0, l1, l2] (vR o :: st) σ Q ↔ Rn d m_X4_keepCellsComeTo 29 [l0, l1, l2] (vI (σ o 6) :: st) σ Q := q33 (show fnd (pgm m_X4_keepCellsComeTo) 26 = some (29, 33, 30, 4, 6, []) from rfl) hk
set_option maxRecDepth 100000 in
theorem s_X4_keepCellsComeTo_29 {d : Nat} {l0 l1 l2 : AV} {st : List AV} {a b : Int} {σ : Sg} {Q : AV → Sg → Prop}  : Rn d m_X4_keepCellsComeTo 29 [l0, l1, l2] (vI b :: vI a :: st) σ Q ↔ if w32 b ≤ w32 a then Rn d m_X4_keepCellsComeTo 70 [l0, l1, l2] st σ Q else Rn d m_X4_keepCellsComeTo 32 [l0, l1, l2] st σ Q := q20_3 (show fnd (pgm m_X4_keepCellsComeTo) 29 = some (32, 20, 0, 3, 70, []) from rfl)
set_option maxRecDepth 100000 in
theorem s_X4_keepCellsComeTo_32 {d : Nat} {l1 l2 : AV} {st : List AV} {o : Nat} {σ : Sg} {Q : AV → Sg → Prop} (ho : o ≠ 0) : Rn d m_X4_keepCellsComeTo 32 [vR o, l1, l2] st σ Q ↔ Rn d m_X4_keepCellsComeTo 33 [vR o, l1, l2] (vR o :: st) σ Q := q5 (show fnd (pgm m_X4_keepCellsComeTo) 32 = some (33, 5, 0, 0, 0, []) from rfl) rfl ho
set_option maxRecDepth 100000 in
theorem s_X4_keepCellsComeTo_33 {d : Nat} {l0 l1 l2 : AV} {st : List AV} {o : Nat} {σ : Sg} {Q : AV → Sg → Prop} (hk : kn σ o = (0, 4)) : Rn d m_X4_keepCellsComeTo 33 [l0, l1, l2] (vR o :: st) σ Q ↔ Rn d m_X4_keepCellsComeTo 36 [l0, l1, l2] (vR (tp o 4) :: st) σ Q := q33 (show fnd (pgm m_X4_keepCellsComeTo) 33 = some (36, 33, 24, 4, 4, []) from rfl) hk
set_option maxRecDepth 100000 in
theorem s_X4_keepCellsComeTo_36 {d : Nat} {l0 l2 : AV} {st : List AV} {x : Int} {σ : Sg} {Q : AV → Sg → Prop}  : Rn d m_X4_keepCellsComeTo 36 [l0, vI x, l2] st σ Q ↔ Rn d m_X4_keepCellsComeTo 37 [l0, vI x, l2] (vI x :: st) σ Q := q3 (show fnd (pgm m_X4_keepCellsComeTo) 36 = some (37, 3, 0, 1, 0, []) from rfl) rfl
set_option maxRecDepth 100000 in
theorem s_X4_keepCellsComeTo_37 {d : Nat} {l0 l1 l2 : AV} {st : List AV} {i : Int} {o : Nat} {σ : Sg} {Q : AV → Sg → Prop} (hi : 0 ≤ w32 i ∧ w32 i < al σ 1 o) : Rn d m_X4_keepCellsComeTo 37 [l0, l1, l2] (vI i :: vR o :: st) σ Q ↔ Rn d m_X4_keepCellsComeTo 38 [l0, l1, l2] (vI (σ o (w32 i)) :: st) σ Q := q25 (show fnd (pgm m_X4_keepCellsComeTo) 37 = some (38, 25, 0, 0, 0, []) from rfl) hi
set_option maxRecDepth 100000 in
theorem s_X4_keepCellsComeTo_38 {d : Nat} {l1 l2 : AV} {st : List AV} {o : Nat} {σ : Sg} {Q : AV → Sg → Prop} (ho : o ≠ 0) : Rn d m_X4_keepCellsComeTo 38 [vR o, l1, l2] st σ Q ↔ Rn d m_X4_keepCellsComeTo 39 [vR o, l1, l2] (vR o :: st) σ Q := q5 (show fnd (pgm m_X4_keepCellsComeTo) 38 = some (39, 5, 0, 0, 0, []) from rfl) rfl ho
set_option maxRecDepth 100000 in
theorem s_X4_keepCellsComeTo_39 {d : Nat} {l0 l2 : AV} {st : List AV} {x : Int} {σ : Sg} {Q : AV → Sg → Prop}  : Rn d m_X4_keepCellsComeTo 39 [l0, vI x, l2] st σ Q ↔ Rn d m_X4_keepCellsComeTo 40 [l0, vI x, l2] (vI x :: st) σ Q := q3 (show fnd (pgm m_X4_keepCellsComeTo) 39 = some (40, 3, 0, 1, 0, []) from rfl) rfl
set_option maxRecDepth 100000 in
theorem s_X4_keepCellsComeTo_40 {d : Nat} {l0 l1 l2 : AV} {st : List AV} {o : Nat} {a0 : Int} {σ : Sg} {Q : AV → Sg → Prop} (h4 : st.length ≤ 4) (hk : kn σ o = (0, 4)) : Rn d m_X4_keepCellsComeTo 40 [l0, l1, l2] (vI a0 :: vR o :: st) σ Q ↔ ∃ r σ1, Ev d m_X4_wayOfStep [vR o, vI a0] σ r σ1 ∧ Rn d m_X4_keepCellsComeTo 43 [l0, l1, l2] (psh r st) σ1 Q := q35 (show fnd (pgm m_X4_keepCellsComeTo) 40 = some (43, 35, 124, 46, 2, []) from rfl) ⟨⟨by simp, by simpa using h4⟩, (by simp only [List.take, List.reverse, List.reverseAux, rcv]; rw [if_neg (by decide +kernel)]; exact decide_eq_true hk)⟩
set_option maxRecDepth 100000 in
theorem s_X4_keepCellsComeTo_43 {d : Nat} {l0 l1 l2 : AV} {st : List AV}  {a0 : Int} {a1 : Int} {σ : Sg} {Q : AV → Sg → Prop} (h4 : st.length ≤ 4) : Rn d m_X4_keepCellsComeTo 43 [l0, l1, l2] (vI a1 :: vI a0 :: st) σ Q ↔ ∃ r σ1, Ev d m_X4_nextCell [vI a0, vI a1] σ r σ1 ∧ Rn d m_X4_keepCellsComeTo 46 [l0, l1, l2] (psh r st) σ1 Q := q35 (show fnd (pgm m_X4_keepCellsComeTo) 43 = some (46, 35, 95, 41, 2, []) from rfl) ⟨⟨by simp, by simpa using h4⟩, rfl⟩
set_option maxRecDepth 100000 in
theorem s_X4_keepCellsComeTo_46 {d : Nat} {l0 l1 l2 : AV} {st : List AV} {x : Int} {σ : Sg} {Q : AV → Sg → Prop}  : Rn d m_X4_keepCellsComeTo 46 [l0, l1, l2] (vI x :: st) σ Q ↔ Rn d m_X4_keepCellsComeTo 47 [l0, l1, vI x] st σ Q := q6 (show fnd (pgm m_X4_keepCellsComeTo) 46 = some (47, 6, 0, 2, 0, []) from rfl) (by decide : 2 < 3)
set_option maxRecDepth 100000 in
theorem s_X4_keepCellsComeTo_47 {d : Nat} {l0 l1 : AV} {st : List AV} {x : Int} {σ : Sg} {Q : AV → Sg → Prop}  : Rn d m_X4_keepCellsComeTo 47 [l0, l1, vI x] st σ Q ↔ Rn d m_X4_keepCellsComeTo 48 [l0, l1, vI x] (vI x :: st) σ Q := q3 (show fnd (pgm m_X4_keepCellsComeTo) 47 = some (48, 3, 0, 2, 0, []) from rfl) rfl
set_option maxRecDepth 100000 in
theorem s_X4_keepCellsComeTo_48 {d : Nat} {l0 l1 l2 : AV} {st : List AV} {σ : Sg} {Q : AV → Sg → Prop}  : Rn d m_X4_keepCellsComeTo 48 [l0, l1, l2] st σ Q ↔ Rn d m_X4_keepCellsComeTo 51 [l0, l1, l2] (vI 144 :: st) σ Q := q0 (show fnd (pgm m_X4_keepCellsComeTo) 48 = some (51, 0, 144, 2, 0, []) from rfl)
set_option maxRecDepth 100000 in
theorem s_X4_keepCellsComeTo_51 {d : Nat} {l0 l1 l2 : AV} {st : List AV}  {a0 : Int} {a1 : Int} {σ : Sg} {Q : AV → Sg → Prop} (h4 : st.length ≤ 4) : Rn d m_X4_keepCellsComeTo 51 [l0, l1, l2] (vI a1 :: vI a0 :: st) σ Q ↔ ∃ r σ1, Ev d m_X5_within [vI a0, vI a1] σ r σ1 ∧ Rn d m_X4_keepCellsComeTo 54 [l0, l1, l2] (psh r st) σ1 Q := q35 (show fnd (pgm m_X4_keepCellsComeTo) 51 = some (54, 35, 98, 89, 2, []) from rfl) ⟨⟨by simp, by simpa using h4⟩, rfl⟩
set_option maxRecDepth 100000 in
theorem s_X4_keepCellsComeTo_54 {d : Nat} {l0 l1 l2 : AV} {st : List AV} {a : Int} {σ : Sg} {Q : AV → Sg → Prop}  : Rn d m_X4_keepCellsComeTo 54 [l0, l1, l2] (vI a :: st) σ Q ↔ if w32 a = 0 then Rn d m_X4_keepCellsComeTo 64 [l0, l1, l2] st σ Q else Rn d m_X4_keepCellsComeTo 57 [l0, l1, l2] st σ Q := q19_0 (show fnd (pgm m_X4_keepCellsComeTo) 54 = some (57, 19, 0, 0, 64, []) from rfl)
set_option maxRecDepth 100000 in
theorem s_X4_keepCellsComeTo_57 {d : Nat} {l1 l2 : AV} {st : List AV} {o : Nat} {σ : Sg} {Q : AV → Sg → Prop} (ho : o ≠ 0) : Rn d m_X4_keepCellsComeTo 57 [vR o, l1, l2] st σ Q ↔ Rn d m_X4_keepCellsComeTo 58 [vR o, l1, l2] (vR o :: st) σ Q := q5 (show fnd (pgm m_X4_keepCellsComeTo) 57 = some (58, 5, 0, 0, 0, []) from rfl) rfl ho
set_option maxRecDepth 100000 in
theorem s_X4_keepCellsComeTo_58 {d : Nat} {l0 l1 l2 : AV} {st : List AV} {o : Nat} {σ : Sg} {Q : AV → Sg → Prop} (hk : kn σ o = (0, 4)) : Rn d m_X4_keepCellsComeTo 58 [l0, l1, l2] (vR o :: st) σ Q ↔ Rn d m_X4_keepCellsComeTo 61 [l0, l1, l2] (vR (tp o 7) :: st) σ Q := q33 (show fnd (pgm m_X4_keepCellsComeTo) 58 = some (61, 33, 34, 4, 7, []) from rfl) hk
set_option maxRecDepth 100000 in
theorem s_X4_keepCellsComeTo_61 {d : Nat} {l0 l1 : AV} {st : List AV} {x : Int} {σ : Sg} {Q : AV → Sg → Prop}  : Rn d m_X4_keepCellsComeTo 61 [l0, l1, vI x] st σ Q ↔ Rn d m_X4_keepCellsComeTo 62 [l0, l1, vI x] (vI x :: st) σ Q := q3 (show fnd (pgm m_X4_keepCellsComeTo) 61 = some (62, 3, 0, 2, 0, []) from rfl) rfl
set_option maxRecDepth 100000 in
theorem s_X4_keepCellsComeTo_62 {d : Nat} {l0 l1 l2 : AV} {st : List AV} {σ : Sg} {Q : AV → Sg → Prop}  : Rn d m_X4_keepCellsComeTo 62 [l0, l1, l2] st σ Q ↔ Rn d m_X4_keepCellsComeTo 63 [l0, l1, l2] (vI 1 :: st) σ Q := q0 (show fnd (pgm m_X4_keepCellsComeTo) 62 = some (63, 0, 1, 0, 0, []) from rfl)
set_option maxRecDepth 100000 in
theorem s_X4_keepCellsComeTo_63 {d : Nat} {l0 l1 l2 : AV} {st : List AV} {i x : Int} {o : Nat} {σ : Sg} {Q : AV → Sg → Prop} (hi : 0 ≤ w32 i ∧ w32 i < al σ 3 o) (hx : x = 0 ∨ x = 1) : Rn d m_X4_keepCellsComeTo 63 [l0, l1, l2] (vI x :: vI i :: vR o :: st) σ Q ↔ Rn d m_X4_keepCellsComeTo 64 [l0, l1, l2] st (up σ o (w32 i) x) Q := q31 (show fnd (pgm m_X4_keepCellsComeTo) 63 = some (64, 31, 0, 0, 0, []) from rfl) hi hx
set_option maxRecDepth 100000 in
theorem s_X4_keepCellsComeTo_64 {d : Nat} {l0 l2 : AV} {st : List AV} {x : Int} {σ : Sg} {Q : AV → Sg → Prop}  : Rn d m_X4_keepCellsComeTo 64 [l0, vI x, l2] st σ Q ↔ Rn d m_X4_keepCellsComeTo 67 [l0, vI (x + 1), l2] st σ Q := q9 (show fnd (pgm m_X4_keepCellsComeTo) 64 = some (67, 9, 1, 1, 0, []) from rfl) rfl
set_option maxRecDepth 100000 in
theorem s_X4_keepCellsComeTo_67 {d : Nat} {l0 l1 l2 : AV} {st : List AV} {σ : Sg} {Q : AV → Sg → Prop}  : Rn d m_X4_keepCellsComeTo 67 [l0, l1, l2] st σ Q ↔ Rn d m_X4_keepCellsComeTo 24 [l0, l1, l2] st σ Q := q21 (show fnd (pgm m_X4_keepCellsComeTo) 67 = some (70, 21, 0, 0, 24, []) from rfl)
set_option maxRecDepth 100000 in
theorem s_X4_keepCellsComeTo_70 {d : Nat} {l1 l2 : AV} {st : List AV} {o : Nat} {σ : Sg} {Q : AV → Sg → Prop} (ho : o ≠ 0) : Rn d m_X4_keepCellsComeTo 70 [vR o, l1, l2] st σ Q ↔ Rn d m_X4_keepCellsComeTo 71 [vR o, l1, l2] (vR o :: st) σ Q := q5 (show fnd (pgm m_X4_keepCellsComeTo) 70 = some (71, 5, 0, 0, 0, []) from rfl) rfl ho
set_option maxRecDepth 100000 in
theorem s_X4_keepCellsComeTo_71 {d : Nat} {l0 l1 l2 : AV} {st : List AV} {o : Nat} {σ : Sg} {Q : AV → Sg → Prop} (hk : kn σ o = (0, 4)) : Rn d m_X4_keepCellsComeTo 71 [l0, l1, l2] (vR o :: st) σ Q ↔ Rn d m_X4_keepCellsComeTo 74 [l0, l1, l2] (vR (tp o 7) :: st) σ Q := q33 (show fnd (pgm m_X4_keepCellsComeTo) 71 = some (74, 33, 34, 4, 7, []) from rfl) hk
set_option maxRecDepth 100000 in
theorem s_X4_keepCellsComeTo_74 {d : Nat} {l0 l1 l2 : AV} {o : Nat} {σ : Sg} {Q : AV → Sg → Prop} (ho : o ≠ 0) : Rn d m_X4_keepCellsComeTo 74 [l0, l1, l2] [vR o] σ Q ↔ Q (vR o) σ := q37_4 (st := []) (show fnd (pgm m_X4_keepCellsComeTo) 74 = some (75, 37, 0, 4, 0, []) from rfl) ho
set_option maxRecDepth 100000 in
theorem en_J6_numberOfTrailingZeros_0f7a4 {d : Nat} {a0 : Int} {σ σ0 : Sg} {r0 : AV} (h : Rn d m_J6_numberOfTrailingZeros_0f7a4 0 [vI a0, none] [] σ (fun r σ1 => r = r0 ∧ σ1 = σ0)) : Ev (d + 1) m_J6_numberOfTrailingZeros_0f7a4 [vI a0] σ r0 σ0 := Ev_is (Nat.le_of_ble_eq_true rfl) h
set_option maxRecDepth 100000 in
theorem eo_J6_numberOfTrailingZeros_0f7a4 {d : Nat} {a0 : Int} {σ : Sg} {Q : AV → Sg → Prop} (h : Rn d m_J6_numberOfTrailingZeros_0f7a4 0 [vI a0, none] [] σ Q) : ∃ r σ1, Ev (d + 1) m_J6_numberOfTrailingZeros_0f7a4 [vI a0] σ r σ1 ∧ Q r σ1 := Ev_of (Nat.le_of_ble_eq_true rfl) h
set_option maxRecDepth 100000 in
theorem s_J6_numberOfTrailingZeros_0f7a4_0 {d : Nat} {l1 : AV} {st : List AV} {x : Int} {σ : Sg} {Q : AV → Sg → Prop}  : Rn d m_J6_numberOfTrailingZeros_0f7a4 0 [vI x, l1] st σ Q ↔ Rn d m_J6_numberOfTrailingZeros_0f7a4 1 [vI x, l1] (vI x :: st) σ Q := q3 (show fnd (pgm m_J6_numberOfTrailingZeros_0f7a4) 0 = some (1, 3, 0, 0, 0, []) from rfl) rfl
set_option maxRecDepth 100000 in
theorem s_J6_numberOfTrailingZeros_0f7a4_1 {d : Nat} {l0 l1 : AV} {st : List AV} {σ : Sg} {Q : AV → Sg → Prop}  : Rn d m_J6_numberOfTrailingZeros_0f7a4 1 [l0, l1] st σ Q ↔ Rn d m_J6_numberOfTrailingZeros_0f7a4 2 [l0, l1] (vI (-1) :: st) σ Q := q0 (show fnd (pgm m_J6_numberOfTrailingZeros_0f7a4) 1 = some (2, 0, (-1), 0, 0, []) from rfl)
set_option maxRecDepth 100000 in
theorem s_J6_numberOfTrailingZeros_0f7a4_2 {d : Nat} {l0 l1 : AV} {st : List AV} {a b : Int} {σ : Sg} {Q : AV → Sg → Prop}  : Rn d m_J6_numberOfTrailingZeros_0f7a4 2 [l0, l1] (vI b :: vI a :: st) σ Q ↔ Rn d m_J6_numberOfTrailingZeros_0f7a4 3 [l0, l1] (vI (xor32 a b) :: st) σ Q := q10_7 (show fnd (pgm m_J6_numberOfTrailingZeros_0f7a4) 2 = some (3, 10, 0, 7, 0, []) from rfl)
set_option maxRecDepth 100000 in
theorem s_J6_numberOfTrailingZeros_0f7a4_3 {d : Nat} {l1 : AV} {st : List AV} {x : Int} {σ : Sg} {Q : AV → Sg → Prop}  : Rn d m_J6_numberOfTrailingZeros_0f7a4 3 [vI x, l1] st σ Q ↔ Rn d m_J6_numberOfTrailingZeros_0f7a4 4 [vI x, l1] (vI x :: st) σ Q := q3 (show fnd (pgm m_J6_numberOfTrailingZeros_0f7a4) 3 = some (4, 3, 0, 0, 0, []) from rfl) rfl
set_option maxRecDepth 100000 in
theorem s_J6_numberOfTrailingZeros_0f7a4_4 {d : Nat} {l0 l1 : AV} {st : List AV} {σ : Sg} {Q : AV → Sg → Prop}  : Rn d m_J6_numberOfTrailingZeros_0f7a4 4 [l0, l1] st σ Q ↔ Rn d m_J6_numberOfTrailingZeros_0f7a4 5 [l0, l1] (vI 1 :: st) σ Q := q0 (show fnd (pgm m_J6_numberOfTrailingZeros_0f7a4) 4 = some (5, 0, 1, 0, 0, []) from rfl)
set_option maxRecDepth 100000 in
theorem s_J6_numberOfTrailingZeros_0f7a4_5 {d : Nat} {l0 l1 : AV} {st : List AV} {a b : Int} {σ : Sg} {Q : AV → Sg → Prop}  : Rn d m_J6_numberOfTrailingZeros_0f7a4 5 [l0, l1] (vI b :: vI a :: st) σ Q ↔ Rn d m_J6_numberOfTrailingZeros_0f7a4 6 [l0, l1] (vI (a - b) :: st) σ Q := q10_1 (show fnd (pgm m_J6_numberOfTrailingZeros_0f7a4) 5 = some (6, 10, 0, 1, 0, []) from rfl)
set_option maxRecDepth 100000 in
theorem s_J6_numberOfTrailingZeros_0f7a4_6 {d : Nat} {l0 l1 : AV} {st : List AV} {a b : Int} {σ : Sg} {Q : AV → Sg → Prop}  : Rn d m_J6_numberOfTrailingZeros_0f7a4 6 [l0, l1] (vI b :: vI a :: st) σ Q ↔ Rn d m_J6_numberOfTrailingZeros_0f7a4 7 [l0, l1] (vI (and32 a b) :: st) σ Q := q10_5 (show fnd (pgm m_J6_numberOfTrailingZeros_0f7a4) 6 = some (7, 10, 0, 5, 0, []) from rfl)
set_option maxRecDepth 100000 in
theorem s_J6_numberOfTrailingZeros_0f7a4_7 {d : Nat} {l0 l1 : AV} {st : List AV} {x : Int} {σ : Sg} {Q : AV → Sg → Prop}  : Rn d m_J6_numberOfTrailingZeros_0f7a4 7 [l0, l1] (vI x :: st) σ Q ↔ Rn d m_J6_numberOfTrailingZeros_0f7a4 8 [vI x, l1] st σ Q := q6 (show fnd (pgm m_J6_numberOfTrailingZeros_0f7a4) 7 = some (8, 6, 0, 0, 0, []) from rfl) (by decide : 0 < 2)
set_option maxRecDepth 100000 in
theorem s_J6_numberOfTrailingZeros_0f7a4_8 {d : Nat} {l1 : AV} {st : List AV} {x : Int} {σ : Sg} {Q : AV → Sg → Prop}  : Rn d m_J6_numberOfTrailingZeros_0f7a4 8 [vI x, l1] st σ Q ↔ Rn d m_J6_numberOfTrailingZeros_0f7a4 9 [vI x, l1] (vI x :: st) σ Q := q3 (show fnd (pgm m_J6_numberOfTrailingZeros_0f7a4) 8 = some (9, 3, 0, 0, 0, []) from rfl) rfl
set_option maxRecDepth 100000 in
theorem s_J6_numberOfTrailingZeros_0f7a4_9 {d : Nat} {l0 l1 : AV} {st : List AV} {a : Int} {σ : Sg} {Q : AV → Sg → Prop}  : Rn d m_J6_numberOfTrailingZeros_0f7a4 9 [l0, l1] (vI a :: st) σ Q ↔ if 0 < w32 a then Rn d m_J6_numberOfTrailingZeros_0f7a4 17 [l0, l1] st σ Q else Rn d m_J6_numberOfTrailingZeros_0f7a4 12 [l0, l1] st σ Q := q19_4 (show fnd (pgm m_J6_numberOfTrailingZeros_0f7a4) 9 = some (12, 19, 0, 4, 17, []) from rfl)
set_option maxRecDepth 100000 in
theorem s_J6_numberOfTrailingZeros_0f7a4_12 {d : Nat} {l1 : AV} {st : List AV} {x : Int} {σ : Sg} {Q : AV → Sg → Prop}  : Rn d m_J6_numberOfTrailingZeros_0f7a4 12 [vI x, l1] st σ Q ↔ Rn d m_J6_numberOfTrailingZeros_0f7a4 13 [vI x, l1] (vI x :: st) σ Q := q3 (show fnd (pgm m_J6_numberOfTrailingZeros_0f7a4) 12 = some (13, 3, 0, 0, 0, []) from rfl) rfl
set_option maxRecDepth 100000 in
theorem s_J6_numberOfTrailingZeros_0f7a4_13 {d : Nat} {l0 l1 : AV} {st : List AV} {σ : Sg} {Q : AV → Sg → Prop}  : Rn d m_J6_numberOfTrailingZeros_0f7a4 13 [l0, l1] st σ Q ↔ Rn d m_J6_numberOfTrailingZeros_0f7a4 15 [l0, l1] (vI 32 :: st) σ Q := q0 (show fnd (pgm m_J6_numberOfTrailingZeros_0f7a4) 13 = some (15, 0, 32, 1, 0, []) from rfl)
set_option maxRecDepth 100000 in
theorem s_J6_numberOfTrailingZeros_0f7a4_15 {d : Nat} {l0 l1 : AV} {st : List AV} {a b : Int} {σ : Sg} {Q : AV → Sg → Prop}  : Rn d m_J6_numberOfTrailingZeros_0f7a4 15 [l0, l1] (vI b :: vI a :: st) σ Q ↔ Rn d m_J6_numberOfTrailingZeros_0f7a4 16 [l0, l1] (vI (and32 a b) :: st) σ Q := q10_5 (show fnd (pgm m_J6_numberOfTrailingZeros_0f7a4) 15 = some (16, 10, 0, 5, 0, []) from rfl)
set_option maxRecDepth 100000 in
theorem s_J6_numberOfTrailingZeros_0f7a4_16 {d : Nat} {l0 l1 : AV} {x : Int} {σ : Sg} {Q : AV → Sg → Prop}  : Rn d m_J6_numberOfTrailingZeros_0f7a4 16 [l0, l1] [vI x] σ Q ↔ Q (vI x) σ := q37_1 (st := []) (show fnd (pgm m_J6_numberOfTrailingZeros_0f7a4) 16 = some (17, 37, 0, 1, 0, []) from rfl)
set_option maxRecDepth 100000 in
theorem s_J6_numberOfTrailingZeros_0f7a4_17 {d : Nat} {l0 l1 : AV} {st : List AV} {σ : Sg} {Q : AV → Sg → Prop}  : Rn d m_J6_numberOfTrailingZeros_0f7a4 17 [l0, l1] st σ Q ↔ Rn d m_J6_numberOfTrailingZeros_0f7a4 18 [l0, l1] (vI 1 :: st) σ Q := q0 (show fnd (pgm m_J6_numberOfTrailingZeros_0f7a4) 17 = some (18, 0, 1, 0, 0, []) from rfl)
set_option maxRecDepth 100000 in
theorem s_J6_numberOfTrailingZeros_0f7a4_18 {d : Nat} {l0 l1 : AV} {st : List AV} {x : Int} {σ : Sg} {Q : AV → Sg → Prop}  : Rn d m_J6_numberOfTrailingZeros_0f7a4 18 [l0, l1] (vI x :: st) σ Q ↔ Rn d m_J6_numberOfTrailingZeros_0f7a4 19 [l0, vI x] st σ Q := q6 (show fnd (pgm m_J6_numberOfTrailingZeros_0f7a4) 18 = some (19, 6, 0, 1, 0, []) from rfl) (by decide : 1 < 2)
set_option maxRecDepth 100000 in
theorem s_J6_numberOfTrailingZeros_0f7a4_19 {d : Nat} {l1 : AV} {st : List AV} {x : Int} {σ : Sg} {Q : AV → Sg → Prop}  : Rn d m_J6_numberOfTrailingZeros_0f7a4 19 [vI x, l1] st σ Q ↔ Rn d m_J6_numberOfTrailingZeros_0f7a4 20 [vI x, l1] (vI x :: st) σ Q := q3 (show fnd (pgm m_J6_numberOfTrailingZeros_0f7a4) 19 = some (20, 3, 0, 0, 0, []) from rfl) rfl
set_option maxRecDepth 100000 in
theorem s_J6_numberOfTrailingZeros_0f7a4_20 {d : Nat} {l0 l1 : AV} {st : List AV} {σ : Sg} {Q : AV → Sg → Prop}  : Rn d m_J6_numberOfTrailingZeros_0f7a4 20 [l0, l1] st σ Q ↔ Rn d m_J6_numberOfTrailingZeros_0f7a4 23 [l0, l1] (vI 65536 :: st) σ Q := q0 (show fnd (pgm m_J6_numberOfTrailingZeros_0f7a4) 20 = some (23, 0, 65536, 4, 264, []) from rfl)
set_option maxRecDepth 100000 in
theorem s_J6_numberOfTrailingZeros_0f7a4_23 {d : Nat} {l0 l1 : AV} {st : List AV} {a b : Int} {σ : Sg} {Q : AV → Sg → Prop}  : Rn d m_J6_numberOfTrailingZeros_0f7a4 23 [l0, l1] (vI b :: vI a :: st) σ Q ↔ if w32 a ≤ w32 b then Rn d m_J6_numberOfTrailingZeros_0f7a4 34 [l0, l1] st σ Q else Rn d m_J6_numberOfTrailingZeros_0f7a4 26 [l0, l1] st σ Q := q20_5 (show fnd (pgm m_J6_numberOfTrailingZeros_0f7a4) 23 = some (26, 20, 0, 5, 34, []) from rfl)
set_option maxRecDepth 100000 in
theorem s_J6_numberOfTrailingZeros_0f7a4_26 {d : Nat} {l0 : AV} {st : List AV} {x : Int} {σ : Sg} {Q : AV → Sg → Prop}  : Rn d m_J6_numberOfTrailingZeros_0f7a4 26 [l0, vI x] st σ Q ↔ Rn d m_J6_numberOfTrailingZeros_0f7a4 29 [l0, vI (x + 16)] st σ Q := q9 (show fnd (pgm m_J6_numberOfTrailingZeros_0f7a4) 26 = some (29, 9, 16, 1, 0, []) from rfl) rfl
set_option maxRecDepth 100000 in
theorem s_J6_numberOfTrailingZeros_0f7a4_29 {d : Nat} {l1 : AV} {st : List AV} {x : Int} {σ : Sg} {Q : AV → Sg → Prop}  : Rn d m_J6_numberOfTrailingZeros_0f7a4 29 [vI x, l1] st σ Q ↔ Rn d m_J6_numberOfTrailingZeros_0f7a4 30 [vI x, l1] (vI x :: st) σ Q := q3 (show fnd (pgm m_J6_numberOfTrailingZeros_0f7a4) 29 = some (30, 3, 0, 0, 0, []) from rfl) rfl
set_option maxRecDepth 100000 in
theorem s_J6_numberOfTrailingZeros_0f7a4_30 {d : Nat} {l0 l1 : AV} {st : List AV} {σ : Sg} {Q : AV → Sg → Prop}  : Rn d m_J6_numberOfTrailingZeros_0f7a4 30 [l0, l1] st σ Q ↔ Rn d m_J6_numberOfTrailingZeros_0f7a4 32 [l0, l1] (vI 16 :: st) σ Q := q0 (show fnd (pgm m_J6_numberOfTrailingZeros_0f7a4) 30 = some (32, 0, 16, 1, 0, []) from rfl)
set_option maxRecDepth 100000 in
theorem s_J6_numberOfTrailingZeros_0f7a4_32 {d : Nat} {l0 l1 : AV} {st : List AV} {a b : Int} {σ : Sg} {Q : AV → Sg → Prop}  : Rn d m_J6_numberOfTrailingZeros_0f7a4 32 [l0, l1] (vI b :: vI a :: st) σ Q ↔ Rn d m_J6_numberOfTrailingZeros_0f7a4 33 [l0, l1] (vI (ushr32 a b) :: st) σ Q := q10_10 (show fnd (pgm m_J6_numberOfTrailingZeros_0f7a4) 32 = some (33, 10, 0, 10, 0, []) from rfl)
set_option maxRecDepth 100000 in
theorem s_J6_numberOfTrailingZeros_0f7a4_33 {d : Nat} {l0 l1 : AV} {st : List AV} {x : Int} {σ : Sg} {Q : AV → Sg → Prop}  : Rn d m_J6_numberOfTrailingZeros_0f7a4 33 [l0, l1] (vI x :: st) σ Q ↔ Rn d m_J6_numberOfTrailingZeros_0f7a4 34 [vI x, l1] st σ Q := q6 (show fnd (pgm m_J6_numberOfTrailingZeros_0f7a4) 33 = some (34, 6, 0, 0, 0, []) from rfl) (by decide : 0 < 2)
set_option maxRecDepth 100000 in
theorem s_J6_numberOfTrailingZeros_0f7a4_34 {d : Nat} {l1 : AV} {st : List AV} {x : Int} {σ : Sg} {Q : AV → Sg → Prop}  : Rn d m_J6_numberOfTrailingZeros_0f7a4 34 [vI x, l1] st σ Q ↔ Rn d m_J6_numberOfTrailingZeros_0f7a4 35 [vI x, l1] (vI x :: st) σ Q := q3 (show fnd (pgm m_J6_numberOfTrailingZeros_0f7a4) 34 = some (35, 3, 0, 0, 0, []) from rfl) rfl
set_option maxRecDepth 100000 in
theorem s_J6_numberOfTrailingZeros_0f7a4_35 {d : Nat} {l0 l1 : AV} {st : List AV} {σ : Sg} {Q : AV → Sg → Prop}  : Rn d m_J6_numberOfTrailingZeros_0f7a4 35 [l0, l1] st σ Q ↔ Rn d m_J6_numberOfTrailingZeros_0f7a4 38 [l0, l1] (vI 256 :: st) σ Q := q0 (show fnd (pgm m_J6_numberOfTrailingZeros_0f7a4) 35 = some (38, 0, 256, 2, 0, []) from rfl)
set_option maxRecDepth 100000 in
theorem s_J6_numberOfTrailingZeros_0f7a4_38 {d : Nat} {l0 l1 : AV} {st : List AV} {a b : Int} {σ : Sg} {Q : AV → Sg → Prop}  : Rn d m_J6_numberOfTrailingZeros_0f7a4 38 [l0, l1] (vI b :: vI a :: st) σ Q ↔ if w32 a ≤ w32 b then Rn d m_J6_numberOfTrailingZeros_0f7a4 49 [l0, l1] st σ Q else Rn d m_J6_numberOfTrailingZeros_0f7a4 41 [l0, l1] st σ Q := q20_5 (show fnd (pgm m_J6_numberOfTrailingZeros_0f7a4) 38 = some (41, 20, 0, 5, 49, []) from rfl)
set_option maxRecDepth 100000 in
theorem s_J6_numberOfTrailingZeros_0f7a4_41 {d : Nat} {l0 : AV} {st : List AV} {x : Int} {σ : Sg} {Q : AV → Sg → Prop}  : Rn d m_J6_numberOfTrailingZeros_0f7a4 41 [l0, vI x] st σ Q ↔ Rn d m_J6_numberOfTrailingZeros_0f7a4 44 [l0, vI (x + 8)] st σ Q := q9 (show fnd (pgm m_J6_numberOfTrailingZeros_0f7a4) 41 = some (44, 9, 8, 1, 0, []) from rfl) rfl
set_option maxRecDepth 100000 in
theorem s_J6_numberOfTrailingZeros_0f7a4_44 {d : Nat} {l1 : AV} {st : List AV} {x : Int} {σ : Sg} {Q : AV → Sg → Prop}  : Rn d m_J6_numberOfTrailingZeros_0f7a4 44 [vI x, l1] st σ Q ↔ Rn d m_J6_numberOfTrailingZeros_0f7a4 45 [vI x, l1] (vI x :: st) σ Q := q3 (show fnd (pgm m_J6_numberOfTrailingZeros_0f7a4) 44 = some (45, 3, 0, 0, 0, []) from rfl) rfl
set_option maxRecDepth 100000 in
theorem s_J6_numberOfTrailingZeros_0f7a4_45 {d : Nat} {l0 l1 : AV} {st : List AV} {σ : Sg} {Q : AV → Sg → Prop}  : Rn d m_J6_numberOfTrailingZeros_0f7a4 45 [l0, l1] st σ Q ↔ Rn d m_J6_numberOfTrailingZeros_0f7a4 47 [l0, l1] (vI 8 :: st) σ Q := q0 (show fnd (pgm m_J6_numberOfTrailingZeros_0f7a4) 45 = some (47, 0, 8, 1, 0, []) from rfl)
set_option maxRecDepth 100000 in
theorem s_J6_numberOfTrailingZeros_0f7a4_47 {d : Nat} {l0 l1 : AV} {st : List AV} {a b : Int} {σ : Sg} {Q : AV → Sg → Prop}  : Rn d m_J6_numberOfTrailingZeros_0f7a4 47 [l0, l1] (vI b :: vI a :: st) σ Q ↔ Rn d m_J6_numberOfTrailingZeros_0f7a4 48 [l0, l1] (vI (ushr32 a b) :: st) σ Q := q10_10 (show fnd (pgm m_J6_numberOfTrailingZeros_0f7a4) 47 = some (48, 10, 0, 10, 0, []) from rfl)
set_option maxRecDepth 100000 in
theorem s_J6_numberOfTrailingZeros_0f7a4_48 {d : Nat} {l0 l1 : AV} {st : List AV} {x : Int} {σ : Sg} {Q : AV → Sg → Prop}  : Rn d m_J6_numberOfTrailingZeros_0f7a4 48 [l0, l1] (vI x :: st) σ Q ↔ Rn d m_J6_numberOfTrailingZeros_0f7a4 49 [vI x, l1] st σ Q := q6 (show fnd (pgm m_J6_numberOfTrailingZeros_0f7a4) 48 = some (49, 6, 0, 0, 0, []) from rfl) (by decide : 0 < 2)
set_option maxRecDepth 100000 in
theorem s_J6_numberOfTrailingZeros_0f7a4_49 {d : Nat} {l1 : AV} {st : List AV} {x : Int} {σ : Sg} {Q : AV → Sg → Prop}  : Rn d m_J6_numberOfTrailingZeros_0f7a4 49 [vI x, l1] st σ Q ↔ Rn d m_J6_numberOfTrailingZeros_0f7a4 50 [vI x, l1] (vI x :: st) σ Q := q3 (show fnd (pgm m_J6_numberOfTrailingZeros_0f7a4) 49 = some (50, 3, 0, 0, 0, []) from rfl) rfl
set_option maxRecDepth 100000 in
theorem s_J6_numberOfTrailingZeros_0f7a4_50 {d : Nat} {l0 l1 : AV} {st : List AV} {σ : Sg} {Q : AV → Sg → Prop}  : Rn d m_J6_numberOfTrailingZeros_0f7a4 50 [l0, l1] st σ Q ↔ Rn d m_J6_numberOfTrailingZeros_0f7a4 52 [l0, l1] (vI 16 :: st) σ Q := q0 (show fnd (pgm m_J6_numberOfTrailingZeros_0f7a4) 50 = some (52, 0, 16, 1, 0, []) from rfl)
set_option maxRecDepth 100000 in
theorem s_J6_numberOfTrailingZeros_0f7a4_52 {d : Nat} {l0 l1 : AV} {st : List AV} {a b : Int} {σ : Sg} {Q : AV → Sg → Prop}  : Rn d m_J6_numberOfTrailingZeros_0f7a4 52 [l0, l1] (vI b :: vI a :: st) σ Q ↔ if w32 a ≤ w32 b then Rn d m_J6_numberOfTrailingZeros_0f7a4 62 [l0, l1] st σ Q else Rn d m_J6_numberOfTrailingZeros_0f7a4 55 [l0, l1] st σ Q := q20_5 (show fnd (pgm m_J6_numberOfTrailingZeros_0f7a4) 52 = some (55, 20, 0, 5, 62, []) from rfl)
set_option maxRecDepth 100000 in
theorem s_J6_numberOfTrailingZeros_0f7a4_55 {d : Nat} {l0 : AV} {st : List AV} {x : Int} {σ : Sg} {Q : AV → Sg → Prop}  : Rn d m_J6_numberOfTrailingZeros_0f7a4 55 [l0, vI x] st σ Q ↔ Rn d m_J6_numberOfTrailingZeros_0f7a4 58 [l0, vI (x + 4)] st σ Q := q9 (show fnd (pgm m_J6_numberOfTrailingZeros_0f7a4) 55 = some (58, 9, 4, 1, 0, []) from rfl) rfl
set_option maxRecDepth 100000 in
theorem s_J6_numberOfTrailingZeros_0f7a4_58 {d : Nat} {l1 : AV} {st : List AV} {x : Int} {σ : Sg} {Q : AV → Sg → Prop}  : Rn d m_J6_numberOfTrailingZeros_0f7a4 58 [vI x, l1] st σ Q ↔ Rn d m_J6_numberOfTrailingZeros_0f7a4 59 [vI x, l1] (vI x :: st) σ Q := q3 (show fnd (pgm m_J6_numberOfTrailingZeros_0f7a4) 58 = some (59, 3, 0, 0, 0, []) from rfl) rfl
set_option maxRecDepth 100000 in
theorem s_J6_numberOfTrailingZeros_0f7a4_59 {d : Nat} {l0 l1 : AV} {st : List AV} {σ : Sg} {Q : AV → Sg → Prop}  : Rn d m_J6_numberOfTrailingZeros_0f7a4 59 [l0, l1] st σ Q ↔ Rn d m_J6_numberOfTrailingZeros_0f7a4 60 [l0, l1] (vI 4 :: st) σ Q := q0 (show fnd (pgm m_J6_numberOfTrailingZeros_0f7a4) 59 = some (60, 0, 4, 0, 0, []) from rfl)
set_option maxRecDepth 100000 in
theorem s_J6_numberOfTrailingZeros_0f7a4_60 {d : Nat} {l0 l1 : AV} {st : List AV} {a b : Int} {σ : Sg} {Q : AV → Sg → Prop}  : Rn d m_J6_numberOfTrailingZeros_0f7a4 60 [l0, l1] (vI b :: vI a :: st) σ Q ↔ Rn d m_J6_numberOfTrailingZeros_0f7a4 61 [l0, l1] (vI (ushr32 a b) :: st) σ Q := q10_10 (show fnd (pgm m_J6_numberOfTrailingZeros_0f7a4) 60 = some (61, 10, 0, 10, 0, []) from rfl)
set_option maxRecDepth 100000 in
theorem s_J6_numberOfTrailingZeros_0f7a4_61 {d : Nat} {l0 l1 : AV} {st : List AV} {x : Int} {σ : Sg} {Q : AV → Sg → Prop}  : Rn d m_J6_numberOfTrailingZeros_0f7a4 61 [l0, l1] (vI x :: st) σ Q ↔ Rn d m_J6_numberOfTrailingZeros_0f7a4 62 [vI x, l1] st σ Q := q6 (show fnd (pgm m_J6_numberOfTrailingZeros_0f7a4) 61 = some (62, 6, 0, 0, 0, []) from rfl) (by decide : 0 < 2)
set_option maxRecDepth 100000 in
theorem s_J6_numberOfTrailingZeros_0f7a4_62 {d : Nat} {l1 : AV} {st : List AV} {x : Int} {σ : Sg} {Q : AV → Sg → Prop}  : Rn d m_J6_numberOfTrailingZeros_0f7a4 62 [vI x, l1] st σ Q ↔ Rn d m_J6_numberOfTrailingZeros_0f7a4 63 [vI x, l1] (vI x :: st) σ Q := q3 (show fnd (pgm m_J6_numberOfTrailingZeros_0f7a4) 62 = some (63, 3, 0, 0, 0, []) from rfl) rfl
set_option maxRecDepth 100000 in
theorem s_J6_numberOfTrailingZeros_0f7a4_63 {d : Nat} {l0 l1 : AV} {st : List AV} {σ : Sg} {Q : AV → Sg → Prop}  : Rn d m_J6_numberOfTrailingZeros_0f7a4 63 [l0, l1] st σ Q ↔ Rn d m_J6_numberOfTrailingZeros_0f7a4 64 [l0, l1] (vI 4 :: st) σ Q := q0 (show fnd (pgm m_J6_numberOfTrailingZeros_0f7a4) 63 = some (64, 0, 4, 0, 0, []) from rfl)
set_option maxRecDepth 100000 in
theorem s_J6_numberOfTrailingZeros_0f7a4_64 {d : Nat} {l0 l1 : AV} {st : List AV} {a b : Int} {σ : Sg} {Q : AV → Sg → Prop}  : Rn d m_J6_numberOfTrailingZeros_0f7a4 64 [l0, l1] (vI b :: vI a :: st) σ Q ↔ if w32 a ≤ w32 b then Rn d m_J6_numberOfTrailingZeros_0f7a4 74 [l0, l1] st σ Q else Rn d m_J6_numberOfTrailingZeros_0f7a4 67 [l0, l1] st σ Q := q20_5 (show fnd (pgm m_J6_numberOfTrailingZeros_0f7a4) 64 = some (67, 20, 0, 5, 74, []) from rfl)
set_option maxRecDepth 100000 in
theorem s_J6_numberOfTrailingZeros_0f7a4_67 {d : Nat} {l0 : AV} {st : List AV} {x : Int} {σ : Sg} {Q : AV → Sg → Prop}  : Rn d m_J6_numberOfTrailingZeros_0f7a4 67 [l0, vI x] st σ Q ↔ Rn d m_J6_numberOfTrailingZeros_0f7a4 70 [l0, vI (x + 2)] st σ Q := q9 (show fnd (pgm m_J6_numberOfTrailingZeros_0f7a4) 67 = some (70, 9, 2, 1, 0, []) from rfl) rfl
set_option maxRecDepth 100000 in
theorem s_J6_numberOfTrailingZeros_0f7a4_70 {d : Nat} {l1 : AV} {st : List AV} {x : Int} {σ : Sg} {Q : AV → Sg → Prop}  : Rn d m_J6_numberOfTrailingZeros_0f7a4 70 [vI x, l1] st σ Q ↔ Rn d m_J6_numberOfTrailingZeros_0f7a4 71 [vI x, l1] (vI x :: st) σ Q := q3 (show fnd (pgm m_J6_numberOfTrailingZeros_0f7a4) 70 = some (71, 3, 0, 0, 0, []) from rfl) rfl
set_option maxRecDepth 100000 in
theorem s_J6_numberOfTrailingZeros_0f7a4_71 {d : Nat} {l0 l1 : AV} {st : List AV} {σ : Sg} {Q : AV → Sg → Prop}  : Rn d m_J6_numberOfTrailingZeros_0f7a4 71 [l0, l1] st σ Q ↔ Rn d m_J6_numberOfTrailingZeros_0f7a4 72 [l0, l1] (vI 2 :: st) σ Q := q0 (show fnd (pgm m_J6_numberOfTrailingZeros_0f7a4) 71 = some (72, 0, 2, 0, 0, []) from rfl)
set_option maxRecDepth 100000 in
theorem s_J6_numberOfTrailingZeros_0f7a4_72 {d : Nat} {l0 l1 : AV} {st : List AV} {a b : Int} {σ : Sg} {Q : AV → Sg → Prop}  : Rn d m_J6_numberOfTrailingZeros_0f7a4 72 [l0, l1] (vI b :: vI a :: st) σ Q ↔ Rn d m_J6_numberOfTrailingZeros_0f7a4 73 [l0, l1] (vI (ushr32 a b) :: st) σ Q := q10_10 (show fnd (pgm m_J6_numberOfTrailingZeros_0f7a4) 72 = some (73, 10, 0, 10, 0, []) from rfl)
set_option maxRecDepth 100000 in
theorem s_J6_numberOfTrailingZeros_0f7a4_73 {d : Nat} {l0 l1 : AV} {st : List AV} {x : Int} {σ : Sg} {Q : AV → Sg → Prop}  : Rn d m_J6_numberOfTrailingZeros_0f7a4 73 [l0, l1] (vI x :: st) σ Q ↔ Rn d m_J6_numberOfTrailingZeros_0f7a4 74 [vI x, l1] st σ Q := q6 (show fnd (pgm m_J6_numberOfTrailingZeros_0f7a4) 73 = some (74, 6, 0, 0, 0, []) from rfl) (by decide : 0 < 2)
set_option maxRecDepth 100000 in
theorem s_J6_numberOfTrailingZeros_0f7a4_74 {d : Nat} {l0 : AV} {st : List AV} {x : Int} {σ : Sg} {Q : AV → Sg → Prop}  : Rn d m_J6_numberOfTrailingZeros_0f7a4 74 [l0, vI x] st σ Q ↔ Rn d m_J6_numberOfTrailingZeros_0f7a4 75 [l0, vI x] (vI x :: st) σ Q := q3 (show fnd (pgm m_J6_numberOfTrailingZeros_0f7a4) 74 = some (75, 3, 0, 1, 0, []) from rfl) rfl
set_option maxRecDepth 100000 in
theorem s_J6_numberOfTrailingZeros_0f7a4_75 {d : Nat} {l1 : AV} {st : List AV} {x : Int} {σ : Sg} {Q : AV → Sg → Prop}  : Rn d m_J6_numberOfTrailingZeros_0f7a4 75 [vI x, l1] st σ Q ↔ Rn d m_J6_numberOfTrailingZeros_0f7a4 76 [vI x, l1] (vI x :: st) σ Q := q3 (show fnd (pgm m_J6_numberOfTrailingZeros_0f7a4) 75 = some (76, 3, 0, 0, 0, []) from rfl) rfl
set_option maxRecDepth 100000 in
theorem s_J6_numberOfTrailingZeros_0f7a4_76 {d : Nat} {l0 l1 : AV} {st : List AV} {σ : Sg} {Q : AV → Sg → Prop}  : Rn d m_J6_numberOfTrailingZeros_0f7a4 76 [l0, l1] st σ Q ↔ Rn d m_J6_numberOfTrailingZeros_0f7a4 77 [l0, l1] (vI 1 :: st) σ Q := q0 (show fnd (pgm m_J6_numberOfTrailingZeros_0f7a4) 76 = some (77, 0, 1, 0, 0, []) from rfl)
set_option maxRecDepth 100000 in
theorem s_J6_numberOfTrailingZeros_0f7a4_77 {d : Nat} {l0 l1 : AV} {st : List AV} {a b : Int} {σ : Sg} {Q : AV → Sg → Prop}  : Rn d m_J6_numberOfTrailingZeros_0f7a4 77 [l0, l1] (vI b :: vI a :: st) σ Q ↔ Rn d m_J6_numberOfTrailingZeros_0f7a4 78 [l0, l1] (vI (ushr32 a b) :: st) σ Q := q10_10 (show fnd (pgm m_J6_numberOfTrailingZeros_0f7a4) 77 = some (78, 10, 0, 10, 0, []) from rfl)
set_option maxRecDepth 100000 in
theorem s_J6_numberOfTrailingZeros_0f7a4_78 {d : Nat} {l0 l1 : AV} {st : List AV} {a b : Int} {σ : Sg} {Q : AV → Sg → Prop}  : Rn d m_J6_numberOfTrailingZeros_0f7a4 78 [l0, l1] (vI b :: vI a :: st) σ Q ↔ Rn d m_J6_numberOfTrailingZeros_0f7a4 79 [l0, l1] (vI (a + b) :: st) σ Q := q10_0 (show fnd (pgm m_J6_numberOfTrailingZeros_0f7a4) 78 = some (79, 10, 0, 0, 0, []) from rfl)
set_option maxRecDepth 100000 in
theorem s_J6_numberOfTrailingZeros_0f7a4_79 {d : Nat} {l0 l1 : AV} {x : Int} {σ : Sg} {Q : AV → Sg → Prop}  : Rn d m_J6_numberOfTrailingZeros_0f7a4 79 [l0, l1] [vI x] σ Q ↔ Q (vI x) σ := q37_1 (st := []) (show fnd (pgm m_J6_numberOfTrailingZeros_0f7a4) 79 = some (80, 37, 0, 1, 0, []) from rfl)
set_option maxRecDepth 100000 in
theorem en_J6_bitCount_0f7a4 {d : Nat} {a0 : Int} {σ σ0 : Sg} {r0 : AV} (h : Rn d m_J6_bitCount_0f7a4 0 [vI a0] [] σ (fun r σ1 => r = r0 ∧ σ1 = σ0)) : Ev (d + 1) m_J6_bitCount_0f7a4 [vI a0] σ r0 σ0 := Ev_is (Nat.le_of_ble_eq_true rfl) h
set_option maxRecDepth 100000 in
theorem eo_J6_bitCount_0f7a4 {d : Nat} {a0 : Int} {σ : Sg} {Q : AV → Sg → Prop} (h : Rn d m_J6_bitCount_0f7a4 0 [vI a0] [] σ Q) : ∃ r σ1, Ev (d + 1) m_J6_bitCount_0f7a4 [vI a0] σ r σ1 ∧ Q r σ1 := Ev_of (Nat.le_of_ble_eq_true rfl) h
set_option maxRecDepth 100000 in
theorem s_J6_bitCount_0f7a4_0 {d : Nat} {st : List AV} {x : Int} {σ : Sg} {Q : AV → Sg → Prop}  : Rn d m_J6_bitCount_0f7a4 0 [vI x] st σ Q ↔ Rn d m_J6_bitCount_0f7a4 1 [vI x] (vI x :: st) σ Q := q3 (show fnd (pgm m_J6_bitCount_0f7a4) 0 = some (1, 3, 0, 0, 0, []) from rfl) rfl
set_option maxRecDepth 100000 in
theorem s_J6_bitCount_0f7a4_1 {d : Nat} {st : List AV} {x : Int} {σ : Sg} {Q : AV → Sg → Prop}  : Rn d m_J6_bitCount_0f7a4 1 [vI x] st σ Q ↔ Rn d m_J6_bitCount_0f7a4 2 [vI x] (vI x :: st) σ Q := q3 (show fnd (pgm m_J6_bitCount_0f7a4) 1 = some (2, 3, 0, 0, 0, []) from rfl) rfl
set_option maxRecDepth 100000 in
theorem s_J6_bitCount_0f7a4_2 {d : Nat} {l0 : AV} {st : List AV} {σ : Sg} {Q : AV → Sg → Prop}  : Rn d m_J6_bitCount_0f7a4 2 [l0] st σ Q ↔ Rn d m_J6_bitCount_0f7a4 3 [l0] (vI 1 :: st) σ Q := q0 (show fnd (pgm m_J6_bitCount_0f7a4) 2 = some (3, 0, 1, 0, 0, []) from rfl)
set_option maxRecDepth 100000 in
theorem s_J6_bitCount_0f7a4_3 {d : Nat} {l0 : AV} {st : List AV} {a b : Int} {σ : Sg} {Q : AV → Sg → Prop}  : Rn d m_J6_bitCount_0f7a4 3 [l0] (vI b :: vI a :: st) σ Q ↔ Rn d m_J6_bitCount_0f7a4 4 [l0] (vI (ushr32 a b) :: st) σ Q := q10_10 (show fnd (pgm m_J6_bitCount_0f7a4) 3 = some (4, 10, 0, 10, 0, []) from rfl)
set_option maxRecDepth 100000 in
theorem s_J6_bitCount_0f7a4_4 {d : Nat} {l0 : AV} {st : List AV} {σ : Sg} {Q : AV → Sg → Prop}  : Rn d m_J6_bitCount_0f7a4 4 [l0] st σ Q ↔ Rn d m_J6_bitCount_0f7a4 7 [l0] (vI 1431655765 :: st) σ Q := q0 (show fnd (pgm m_J6_bitCount_0f7a4) 4 = some (7, 0, 1431655765, 4, 265, []) from rfl)
set_option maxRecDepth 100000 in
theorem s_J6_bitCount_0f7a4_7 {d : Nat} {l0 : AV} {st : List AV} {a b : Int} {σ : Sg} {Q : AV → Sg → Prop}  : Rn d m_J6_bitCount_0f7a4 7 [l0] (vI b :: vI a :: st) σ Q ↔ Rn d m_J6_bitCount_0f7a4 8 [l0] (vI (and32 a b) :: st) σ Q := q10_5 (show fnd (pgm m_J6_bitCount_0f7a4) 7 = some (8, 10, 0, 5, 0, []) from rfl)
set_option maxRecDepth 100000 in
theorem s_J6_bitCount_0f7a4_8 {d : Nat} {l0 : AV} {st : List AV} {a b : Int} {σ : Sg} {Q : AV → Sg → Prop}  : Rn d m_J6_bitCount_0f7a4 8 [l0] (vI b :: vI a :: st) σ Q ↔ Rn d m_J6_bitCount_0f7a4 9 [l0] (vI (a - b) :: st) σ Q := q10_1 (show fnd (pgm m_J6_bitCount_0f7a4) 8 = some (9, 10, 0, 1, 0, []) from rfl)
set_option maxRecDepth 100000 in
theorem s_J6_bitCount_0f7a4_9 {d : Nat} {l0 : AV} {st : List AV} {x : Int} {σ : Sg} {Q : AV → Sg → Prop}  : Rn d m_J6_bitCount_0f7a4 9 [l0] (vI x :: st) σ Q ↔ Rn d m_J6_bitCount_0f7a4 10 [vI x] st σ Q := q6 (show fnd (pgm m_J6_bitCount_0f7a4) 9 = some (10, 6, 0, 0, 0, []) from rfl) (by decide : 0 < 1)
set_option maxRecDepth 100000 in
theorem s_J6_bitCount_0f7a4_10 {d : Nat} {st : List AV} {x : Int} {σ : Sg} {Q : AV → Sg → Prop}  : Rn d m_J6_bitCount_0f7a4 10 [vI x] st σ Q ↔ Rn d m_J6_bitCount_0f7a4 11 [vI x] (vI x :: st) σ Q := q3 (show fnd (pgm m_J6_bitCount_0f7a4) 10 = some (11, 3, 0, 0, 0, []) from rfl) rfl
set_option maxRecDepth 100000 in
theorem s_J6_bitCount_0f7a4_11 {d : Nat} {l0 : AV} {st : List AV} {σ : Sg} {Q : AV → Sg → Prop}  : Rn d m_J6_bitCount_0f7a4 11 [l0] st σ Q ↔ Rn d m_J6_bitCount_0f7a4 14 [l0] (vI 858993459 :: st) σ Q := q0 (show fnd (pgm m_J6_bitCount_0f7a4) 11 = some (14, 0, 858993459, 4, 266, []) from rfl)
set_option maxRecDepth 100000 in
theorem s_J6_bitCount_0f7a4_14 {d : Nat} {l0 : AV} {st : List AV} {a b : Int} {σ : Sg} {Q : AV → Sg → Prop}  : Rn d m_J6_bitCount_0f7a4 14 [l0] (vI b :: vI a :: st) σ Q ↔ Rn d m_J6_bitCount_0f7a4 15 [l0] (vI (and32 a b) :: st) σ Q := q10_5 (show fnd (pgm m_J6_bitCount_0f7a4) 14 = some (15, 10, 0, 5, 0, []) from rfl)
set_option maxRecDepth 100000 in
theorem s_J6_bitCount_0f7a4_15 {d : Nat} {st : List AV} {x : Int} {σ : Sg} {Q : AV → Sg → Prop}  : Rn d m_J6_bitCount_0f7a4 15 [vI x] st σ Q ↔ Rn d m_J6_bitCount_0f7a4 16 [vI x] (vI x :: st) σ Q := q3 (show fnd (pgm m_J6_bitCount_0f7a4) 15 = some (16, 3, 0, 0, 0, []) from rfl) rfl
set_option maxRecDepth 100000 in
theorem s_J6_bitCount_0f7a4_16 {d : Nat} {l0 : AV} {st : List AV} {σ : Sg} {Q : AV → Sg → Prop}  : Rn d m_J6_bitCount_0f7a4 16 [l0] st σ Q ↔ Rn d m_J6_bitCount_0f7a4 17 [l0] (vI 2 :: st) σ Q := q0 (show fnd (pgm m_J6_bitCount_0f7a4) 16 = some (17, 0, 2, 0, 0, []) from rfl)
set_option maxRecDepth 100000 in
theorem s_J6_bitCount_0f7a4_17 {d : Nat} {l0 : AV} {st : List AV} {a b : Int} {σ : Sg} {Q : AV → Sg → Prop}  : Rn d m_J6_bitCount_0f7a4 17 [l0] (vI b :: vI a :: st) σ Q ↔ Rn d m_J6_bitCount_0f7a4 18 [l0] (vI (ushr32 a b) :: st) σ Q := q10_10 (show fnd (pgm m_J6_bitCount_0f7a4) 17 = some (18, 10, 0, 10, 0, []) from rfl)
set_option maxRecDepth 100000 in
theorem s_J6_bitCount_0f7a4_18 {d : Nat} {l0 : AV} {st : List AV} {σ : Sg} {Q : AV → Sg → Prop}  : Rn d m_J6_bitCount_0f7a4 18 [l0] st σ Q ↔ Rn d m_J6_bitCount_0f7a4 21 [l0] (vI 858993459 :: st) σ Q := q0 (show fnd (pgm m_J6_bitCount_0f7a4) 18 = some (21, 0, 858993459, 4, 266, []) from rfl)
set_option maxRecDepth 100000 in
theorem s_J6_bitCount_0f7a4_21 {d : Nat} {l0 : AV} {st : List AV} {a b : Int} {σ : Sg} {Q : AV → Sg → Prop}  : Rn d m_J6_bitCount_0f7a4 21 [l0] (vI b :: vI a :: st) σ Q ↔ Rn d m_J6_bitCount_0f7a4 22 [l0] (vI (and32 a b) :: st) σ Q := q10_5 (show fnd (pgm m_J6_bitCount_0f7a4) 21 = some (22, 10, 0, 5, 0, []) from rfl)
set_option maxRecDepth 100000 in
theorem s_J6_bitCount_0f7a4_22 {d : Nat} {l0 : AV} {st : List AV} {a b : Int} {σ : Sg} {Q : AV → Sg → Prop}  : Rn d m_J6_bitCount_0f7a4 22 [l0] (vI b :: vI a :: st) σ Q ↔ Rn d m_J6_bitCount_0f7a4 23 [l0] (vI (a + b) :: st) σ Q := q10_0 (show fnd (pgm m_J6_bitCount_0f7a4) 22 = some (23, 10, 0, 0, 0, []) from rfl)
set_option maxRecDepth 100000 in
theorem s_J6_bitCount_0f7a4_23 {d : Nat} {l0 : AV} {st : List AV} {x : Int} {σ : Sg} {Q : AV → Sg → Prop}  : Rn d m_J6_bitCount_0f7a4 23 [l0] (vI x :: st) σ Q ↔ Rn d m_J6_bitCount_0f7a4 24 [vI x] st σ Q := q6 (show fnd (pgm m_J6_bitCount_0f7a4) 23 = some (24, 6, 0, 0, 0, []) from rfl) (by decide : 0 < 1)
set_option maxRecDepth 100000 in
theorem s_J6_bitCount_0f7a4_24 {d : Nat} {st : List AV} {x : Int} {σ : Sg} {Q : AV → Sg → Prop}  : Rn d m_J6_bitCount_0f7a4 24 [vI x] st σ Q ↔ Rn d m_J6_bitCount_0f7a4 25 [vI x] (vI x :: st) σ Q := q3 (show fnd (pgm m_J6_bitCount_0f7a4) 24 = some (25, 3, 0, 0, 0, []) from rfl) rfl
set_option maxRecDepth 100000 in
theorem s_J6_bitCount_0f7a4_25 {d : Nat} {st : List AV} {x : Int} {σ : Sg} {Q : AV → Sg → Prop}  : Rn d m_J6_bitCount_0f7a4 25 [vI x] st σ Q ↔ Rn d m_J6_bitCount_0f7a4 26 [vI x] (vI x :: st) σ Q := q3 (show fnd (pgm m_J6_bitCount_0f7a4) 25 = some (26, 3, 0, 0, 0, []) from rfl) rfl
set_option maxRecDepth 100000 in
theorem s_J6_bitCount_0f7a4_26 {d : Nat} {l0 : AV} {st : List AV} {σ : Sg} {Q : AV → Sg → Prop}  : Rn d m_J6_bitCount_0f7a4 26 [l0] st σ Q ↔ Rn d m_J6_bitCount_0f7a4 27 [l0] (vI 4 :: st) σ Q := q0 (show fnd (pgm m_J6_bitCount_0f7a4) 26 = some (27, 0, 4, 0, 0, []) from rfl)
set_option maxRecDepth 100000 in
theorem s_J6_bitCount_0f7a4_27 {d : Nat} {l0 : AV} {st : List AV} {a b : Int} {σ : Sg} {Q : AV → Sg → Prop}  : Rn d m_J6_bitCount_0f7a4 27 [l0] (vI b :: vI a :: st) σ Q ↔ Rn d m_J6_bitCount_0f7a4 28 [l0] (vI (ushr32 a b) :: st) σ Q := q10_10 (show fnd (pgm m_J6_bitCount_0f7a4) 27 = some (28, 10, 0, 10, 0, []) from rfl)
set_option maxRecDepth 100000 in
theorem s_J6_bitCount_0f7a4_28 {d : Nat} {l0 : AV} {st : List AV} {a b : Int} {σ : Sg} {Q : AV → Sg → Prop}  : Rn d m_J6_bitCount_0f7a4 28 [l0] (vI b :: vI a :: st) σ Q ↔ Rn d m_J6_bitCount_0f7a4 29 [l0] (vI (a + b) :: st) σ Q := q10_0 (show fnd (pgm m_J6_bitCount_0f7a4) 28 = some (29, 10, 0, 0, 0, []) from rfl)
set_option maxRecDepth 100000 in
theorem s_J6_bitCount_0f7a4_29 {d : Nat} {l0 : AV} {st : List AV} {σ : Sg} {Q : AV → Sg → Prop}  : Rn d m_J6_bitCount_0f7a4 29 [l0] st σ Q ↔ Rn d m_J6_bitCount_0f7a4 32 [l0] (vI 252645135 :: st) σ Q := q0 (show fnd (pgm m_J6_bitCount_0f7a4) 29 = some (32, 0, 252645135, 4, 267, []) from rfl)
set_option maxRecDepth 100000 in
theorem s_J6_bitCount_0f7a4_32 {d : Nat} {l0 : AV} {st : List AV} {a b : Int} {σ : Sg} {Q : AV → Sg → Prop}  : Rn d m_J6_bitCount_0f7a4 32 [l0] (vI b :: vI a :: st) σ Q ↔ Rn d m_J6_bitCount_0f7a4 33 [l0] (vI (and32 a b) :: st) σ Q := q10_5 (show fnd (pgm m_J6_bitCount_0f7a4) 32 = some (33, 10, 0, 5, 0, []) from rfl)
set_option maxRecDepth 100000 in
theorem s_J6_bitCount_0f7a4_33 {d : Nat} {l0 : AV} {st : List AV} {x : Int} {σ : Sg} {Q : AV → Sg → Prop}  : Rn d m_J6_bitCount_0f7a4 33 [l0] (vI x :: st) σ Q ↔ Rn d m_J6_bitCount_0f7a4 34 [vI x] st σ Q := q6 (show fnd (pgm m_J6_bitCount_0f7a4) 33 = some (34, 6, 0, 0, 0, []) from rfl) (by decide : 0 < 1)
set_option maxRecDepth 100000 in
theorem s_J6_bitCount_0f7a4_34 {d : Nat} {st : List AV} {x : Int} {σ : Sg} {Q : AV → Sg → Prop}  : Rn d m_J6_bitCount_0f7a4 34 [vI x] st σ Q ↔ Rn d m_J6_bitCount_0f7a4 35 [vI x] (vI x :: st) σ Q := q3 (show fnd (pgm m_J6_bitCount_0f7a4) 34 = some (35, 3, 0, 0, 0, []) from rfl) rfl
set_option maxRecDepth 100000 in
theorem s_J6_bitCount_0f7a4_35 {d : Nat} {st : List AV} {x : Int} {σ : Sg} {Q : AV → Sg → Prop}  : Rn d m_J6_bitCount_0f7a4 35 [vI x] st σ Q ↔ Rn d m_J6_bitCount_0f7a4 36 [vI x] (vI x :: st) σ Q := q3 (show fnd (pgm m_J6_bitCount_0f7a4) 35 = some (36, 3, 0, 0, 0, []) from rfl) rfl
set_option maxRecDepth 100000 in
theorem s_J6_bitCount_0f7a4_36 {d : Nat} {l0 : AV} {st : List AV} {σ : Sg} {Q : AV → Sg → Prop}  : Rn d m_J6_bitCount_0f7a4 36 [l0] st σ Q ↔ Rn d m_J6_bitCount_0f7a4 38 [l0] (vI 8 :: st) σ Q := q0 (show fnd (pgm m_J6_bitCount_0f7a4) 36 = some (38, 0, 8, 1, 0, []) from rfl)
set_option maxRecDepth 100000 in
theorem s_J6_bitCount_0f7a4_38 {d : Nat} {l0 : AV} {st : List AV} {a b : Int} {σ : Sg} {Q : AV → Sg → Prop}  : Rn d m_J6_bitCount_0f7a4 38 [l0] (vI b :: vI a :: st) σ Q ↔ Rn d m_J6_bitCount_0f7a4 39 [l0] (vI (ushr32 a b) :: st) σ Q := q10_10 (show fnd (pgm m_J6_bitCount_0f7a4) 38 = some (39, 10, 0, 10, 0, []) from rfl)
set_option maxRecDepth 100000 in
theorem s_J6_bitCount_0f7a4_39 {d : Nat} {l0 : AV} {st : List AV} {a b : Int} {σ : Sg} {Q : AV → Sg → Prop}  : Rn d m_J6_bitCount_0f7a4 39 [l0] (vI b :: vI a :: st) σ Q ↔ Rn d m_J6_bitCount_0f7a4 40 [l0] (vI (a + b) :: st) σ Q := q10_0 (show fnd (pgm m_J6_bitCount_0f7a4) 39 = some (40, 10, 0, 0, 0, []) from rfl)
set_option maxRecDepth 100000 in
theorem s_J6_bitCount_0f7a4_40 {d : Nat} {l0 : AV} {st : List AV} {x : Int} {σ : Sg} {Q : AV → Sg → Prop}  : Rn d m_J6_bitCount_0f7a4 40 [l0] (vI x :: st) σ Q ↔ Rn d m_J6_bitCount_0f7a4 41 [vI x] st σ Q := q6 (show fnd (pgm m_J6_bitCount_0f7a4) 40 = some (41, 6, 0, 0, 0, []) from rfl) (by decide : 0 < 1)
set_option maxRecDepth 100000 in
theorem s_J6_bitCount_0f7a4_41 {d : Nat} {st : List AV} {x : Int} {σ : Sg} {Q : AV → Sg → Prop}  : Rn d m_J6_bitCount_0f7a4 41 [vI x] st σ Q ↔ Rn d m_J6_bitCount_0f7a4 42 [vI x] (vI x :: st) σ Q := q3 (show fnd (pgm m_J6_bitCount_0f7a4) 41 = some (42, 3, 0, 0, 0, []) from rfl) rfl
set_option maxRecDepth 100000 in
theorem s_J6_bitCount_0f7a4_42 {d : Nat} {st : List AV} {x : Int} {σ : Sg} {Q : AV → Sg → Prop}  : Rn d m_J6_bitCount_0f7a4 42 [vI x] st σ Q ↔ Rn d m_J6_bitCount_0f7a4 43 [vI x] (vI x :: st) σ Q := q3 (show fnd (pgm m_J6_bitCount_0f7a4) 42 = some (43, 3, 0, 0, 0, []) from rfl) rfl
set_option maxRecDepth 100000 in
theorem s_J6_bitCount_0f7a4_43 {d : Nat} {l0 : AV} {st : List AV} {σ : Sg} {Q : AV → Sg → Prop}  : Rn d m_J6_bitCount_0f7a4 43 [l0] st σ Q ↔ Rn d m_J6_bitCount_0f7a4 45 [l0] (vI 16 :: st) σ Q := q0 (show fnd (pgm m_J6_bitCount_0f7a4) 43 = some (45, 0, 16, 1, 0, []) from rfl)
set_option maxRecDepth 100000 in
theorem s_J6_bitCount_0f7a4_45 {d : Nat} {l0 : AV} {st : List AV} {a b : Int} {σ : Sg} {Q : AV → Sg → Prop}  : Rn d m_J6_bitCount_0f7a4 45 [l0] (vI b :: vI a :: st) σ Q ↔ Rn d m_J6_bitCount_0f7a4 46 [l0] (vI (ushr32 a b) :: st) σ Q := q10_10 (show fnd (pgm m_J6_bitCount_0f7a4) 45 = some (46, 10, 0, 10, 0, []) from rfl)
set_option maxRecDepth 100000 in
theorem s_J6_bitCount_0f7a4_46 {d : Nat} {l0 : AV} {st : List AV} {a b : Int} {σ : Sg} {Q : AV → Sg → Prop}  : Rn d m_J6_bitCount_0f7a4 46 [l0] (vI b :: vI a :: st) σ Q ↔ Rn d m_J6_bitCount_0f7a4 47 [l0] (vI (a + b) :: st) σ Q := q10_0 (show fnd (pgm m_J6_bitCount_0f7a4) 46 = some (47, 10, 0, 0, 0, []) from rfl)
set_option maxRecDepth 100000 in
theorem s_J6_bitCount_0f7a4_47 {d : Nat} {l0 : AV} {st : List AV} {x : Int} {σ : Sg} {Q : AV → Sg → Prop}  : Rn d m_J6_bitCount_0f7a4 47 [l0] (vI x :: st) σ Q ↔ Rn d m_J6_bitCount_0f7a4 48 [vI x] st σ Q := q6 (show fnd (pgm m_J6_bitCount_0f7a4) 47 = some (48, 6, 0, 0, 0, []) from rfl) (by decide : 0 < 1)
set_option maxRecDepth 100000 in
theorem s_J6_bitCount_0f7a4_48 {d : Nat} {st : List AV} {x : Int} {σ : Sg} {Q : AV → Sg → Prop}  : Rn d m_J6_bitCount_0f7a4 48 [vI x] st σ Q ↔ Rn d m_J6_bitCount_0f7a4 49 [vI x] (vI x :: st) σ Q := q3 (show fnd (pgm m_J6_bitCount_0f7a4) 48 = some (49, 3, 0, 0, 0, []) from rfl) rfl
set_option maxRecDepth 100000 in
theorem s_J6_bitCount_0f7a4_49 {d : Nat} {l0 : AV} {st : List AV} {σ : Sg} {Q : AV → Sg → Prop}  : Rn d m_J6_bitCount_0f7a4 49 [l0] st σ Q ↔ Rn d m_J6_bitCount_0f7a4 51 [l0] (vI 63 :: st) σ Q := q0 (show fnd (pgm m_J6_bitCount_0f7a4) 49 = some (51, 0, 63, 1, 0, []) from rfl)
set_option maxRecDepth 100000 in
theorem s_J6_bitCount_0f7a4_51 {d : Nat} {l0 : AV} {st : List AV} {a b : Int} {σ : Sg} {Q : AV → Sg → Prop}  : Rn d m_J6_bitCount_0f7a4 51 [l0] (vI b :: vI a :: st) σ Q ↔ Rn d m_J6_bitCount_0f7a4 52 [l0] (vI (and32 a b) :: st) σ Q := q10_5 (show fnd (pgm m_J6_bitCount_0f7a4) 51 = some (52, 10, 0, 5, 0, []) from rfl)
set_option maxRecDepth 100000 in
theorem s_J6_bitCount_0f7a4_52 {d : Nat} {l0 : AV} {x : Int} {σ : Sg} {Q : AV → Sg → Prop}  : Rn d m_J6_bitCount_0f7a4 52 [l0] [vI x] σ Q ↔ Q (vI x) σ := q37_1 (st := []) (show fnd (pgm m_J6_bitCount_0f7a4) 52 = some (53, 37, 0, 1, 0, []) from rfl)
set_option maxRecDepth 100000 in
theorem en_J7_fill_d0a16 {d : Nat} {a0 : Nat} {a1 : Int} {σ σ0 : Sg} {r0 : AV} (h : Rn d m_J7_fill_d0a16 0 [vR a0, vL a1, none, none, none] [] σ (fun r σ1 => r = r0 ∧ σ1 = σ0)) : Ev (d + 1) m_J7_fill_d0a16 [vR a0, vL a1] σ r0 σ0 := Ev_is (Nat.le_of_ble_eq_true rfl) h
set_option maxRecDepth 100000 in
theorem eo_J7_fill_d0a16 {d : Nat} {a0 : Nat} {a1 : Int} {σ : Sg} {Q : AV → Sg → Prop} (h : Rn d m_J7_fill_d0a16 0 [vR a0, vL a1, none, none, none] [] σ Q) : ∃ r σ1, Ev (d + 1) m_J7_fill_d0a16 [vR a0, vL a1] σ r σ1 ∧ Q r σ1 := Ev_of (Nat.le_of_ble_eq_true rfl) h
set_option maxRecDepth 100000 in
theorem s_J7_fill_d0a16_0 {d : Nat} {l0 l1 l2 l3 l4 : AV} {st : List AV} {σ : Sg} {Q : AV → Sg → Prop}  : Rn d m_J7_fill_d0a16 0 [l0, l1, l2, l3, l4] st σ Q ↔ Rn d m_J7_fill_d0a16 1 [l0, l1, l2, l3, l4] (vI 0 :: st) σ Q := q0 (show fnd (pgm m_J7_fill_d0a16) 0 = some (1, 0, 0, 0, 0, []) from rfl)
set_option maxRecDepth 100000 in
theorem s_J7_fill_d0a16_1 {d : Nat} {l0 l1 l2 l3 l4 : AV} {st : List AV} {x : Int} {σ : Sg} {Q : AV → Sg → Prop}  : Rn d m_J7_fill_d0a16 1 [l0, l1, l2, l3, l4] (vI x :: st) σ Q ↔ Rn d m_J7_fill_d0a16 2 [l0, l1, l2, vI x, l4] st σ Q := q6 (show fnd (pgm m_J7_fill_d0a16) 1 = some (2, 6, 0, 3, 0, []) from rfl) (by decide : 3 < 5)
set_option maxRecDepth 100000 in
theorem s_J7_fill_d0a16_2 {d : Nat} {l1 l2 l3 l4 : AV} {st : List AV} {o : Nat} {σ : Sg} {Q : AV → Sg → Prop} (ho : o ≠ 0) : Rn d m_J7_fill_d0a16 2 [vR o, l1, l2, l3, l4] st σ Q ↔ Rn d m_J7_fill_d0a16 3 [vR o, l1, l2, l3, l4] (vR o :: st) σ Q := q5 (show fnd (pgm m_J7_fill_d0a16) 2 = some (3, 5, 0, 0, 0, []) from rfl) rfl ho
set_option maxRecDepth 100000 in
theorem s_J7_fill_d0a16_3 {d : Nat} {l0 l1 l2 l3 l4 : AV} {st : List AV} {o c n : Nat} {σ : Sg} {Q : AV → Sg → Prop} (hk : kn σ o = (c, n)) (hc : c = 1 ∨ c = 2) : Rn d m_J7_fill_d0a16 3 [l0, l1, l2, l3, l4] (vR o :: st) σ Q ↔ Rn d m_J7_fill_d0a16 4 [l0, l1, l2, l3, l4] (vI n :: st) σ Q := q32 (show fnd (pgm m_J7_fill_d0a16) 3 = some (4, 32, 0, 0, 0, []) from rfl) hk hc
set_option maxRecDepth 100000 in
theorem s_J7_fill_d0a16_4 {d : Nat} {l0 l1 l2 l3 l4 : AV} {st : List AV} {x : Int} {σ : Sg} {Q : AV → Sg → Prop}  : Rn d m_J7_fill_d0a16 4 [l0, l1, l2, l3, l4] (vI x :: st) σ Q ↔ Rn d m_J7_fill_d0a16 6 [l0, l1, l2, l3, vI x] st σ Q := q6 (show fnd (pgm m_J7_fill_d0a16) 4 = some (6, 6, 0, 4, 1, []) from rfl) (by decide : 4 < 5)
set_option maxRecDepth 100000 in
theorem s_J7_fill_d0a16_6 {d : Nat} {l0 l1 l2 l4 : AV} {st : List AV} {x : Int} {σ : Sg} {Q : AV → Sg → Prop}  : Rn d m_J7_fill_d0a16 6 [l0, l1, l2, vI x, l4] st σ Q ↔ Rn d m_J7_fill_d0a16 7 [l0, l1, l2, vI x, l4] (vI x :: st) σ Q := q3 (show fnd (pgm m_J7_fill_d0a16) 6 = some (7, 3, 0, 3, 0, []) from rfl) rfl
set_option maxRecDepth 100000 in
theorem s_J7_fill_d0a16_7 {d : Nat} {l0 l1 l2 l3 : AV} {st : List AV} {x : Int} {σ : Sg} {Q : AV → Sg → Prop}  : Rn d m_J7_fill_d0a16 7 [l0, l1, l2, l3, vI x] st σ Q ↔ Rn d m_J7_fill_d0a16 9 [l0, l1, l2, l3, vI x] (vI x :: st) σ Q := q3 (show fnd (pgm m_J7_fill_d0a16) 7 = some (9, 3, 0, 4, 1, []) from rfl) rfl
set_option maxRecDepth 100000 in
theorem s_J7_fill_d0a16_9 {d : Nat} {l0 l1 l2 l3 l4 : AV} {st : List AV} {a b : Int} {σ : Sg} {Q : AV → Sg → Prop}  : Rn d m_J7_fill_d0a16 9 [l0, l1, l2, l3, l4] (vI b :: vI a :: st) σ Q ↔ if w32 b ≤ w32 a then Rn d m_J7_fill_d0a16 22 [l0, l1, l2, l3, l4] st σ Q else Rn d m_J7_fill_d0a16 12 [l0, l1, l2, l3, l4] st σ Q := q20_3 (show fnd (pgm m_J7_fill_d0a16) 9 = some (12, 20, 0, 3, 22, []) from rfl)
set_option maxRecDepth 100000 in
theorem s_J7_fill_d0a16_12 {d : Nat} {l1 l2 l3 l4 : AV} {st : List AV} {o : Nat} {σ : Sg} {Q : AV → Sg → Prop} (ho : o ≠ 0) : Rn d m_J7_fill_d0a16 12 [vR o, l1, l2, l3, l4] st σ Q ↔ Rn d m_J7_fill_d0a16 13 [vR o, l1, l2, l3, l4] (vR o :: st) σ Q := q5 (show fnd (pgm m_J7_fill_d0a16) 12 = some (13, 5, 0, 0, 0, []) from rfl) rfl ho
set_option maxRecDepth 100000 in
theorem s_J7_fill_d0a16_13 {d : Nat} {l0 l1 l2 l4 : AV} {st : List AV} {x : Int} {σ : Sg} {Q : AV → Sg → Prop}  : Rn d m_J7_fill_d0a16 13 [l0, l1, l2, vI x, l4] st σ Q ↔ Rn d m_J7_fill_d0a16 14 [l0, l1, l2, vI x, l4] (vI x :: st) σ Q := q3 (show fnd (pgm m_J7_fill_d0a16) 13 = some (14, 3, 0, 3, 0, []) from rfl) rfl
set_option maxRecDepth 100000 in
theorem s_J7_fill_d0a16_14 {d : Nat} {l0 l3 l4 : AV} {st : List AV} {x : Int} {σ : Sg} {Q : AV → Sg → Prop}  : Rn d m_J7_fill_d0a16 14 [l0, vL x, none, l3, l4] st σ Q ↔ Rn d m_J7_fill_d0a16 15 [l0, vL x, none, l3, l4] (vL x :: st) σ Q := q4 (show fnd (pgm m_J7_fill_d0a16) 14 = some (15, 4, 0, 1, 0, []) from rfl) rfl rfl
set_option maxRecDepth 100000 in
theorem s_J7_fill_d0a16_15 {d : Nat} {l0 l1 l2 l3 l4 : AV} {st : List AV} {i x : Int} {o : Nat} {σ : Sg} {Q : AV → Sg → Prop} (hi : 0 ≤ w32 i ∧ w32 i < al σ 2 o) : Rn d m_J7_fill_d0a16 15 [l0, l1, l2, l3, l4] (vL x :: vI i :: vR o :: st) σ Q ↔ Rn d m_J7_fill_d0a16 16 [l0, l1, l2, l3, l4] st (up σ o (w32 i) x) Q := q30 (show fnd (pgm m_J7_fill_d0a16) 15 = some (16, 30, 0, 0, 0, []) from rfl) hi
set_option maxRecDepth 100000 in
theorem s_J7_fill_d0a16_16 {d : Nat} {l0 l1 l2 l4 : AV} {st : List AV} {x : Int} {σ : Sg} {Q : AV → Sg → Prop}  : Rn d m_J7_fill_d0a16 16 [l0, l1, l2, vI x, l4] st σ Q ↔ Rn d m_J7_fill_d0a16 19 [l0, l1, l2, vI (x + 1), l4] st σ Q := q9 (show fnd (pgm m_J7_fill_d0a16) 16 = some (19, 9, 1, 3, 0, []) from rfl) rfl
set_option maxRecDepth 100000 in
theorem s_J7_fill_d0a16_19 {d : Nat} {l0 l1 l2 l3 l4 : AV} {st : List AV} {σ : Sg} {Q : AV → Sg → Prop}  : Rn d m_J7_fill_d0a16 19 [l0, l1, l2, l3, l4] st σ Q ↔ Rn d m_J7_fill_d0a16 6 [l0, l1, l2, l3, l4] st σ Q := q21 (show fnd (pgm m_J7_fill_d0a16) 19 = some (22, 21, 0, 0, 6, []) from rfl)
set_option maxRecDepth 100000 in
theorem s_J7_fill_d0a16_22 {d : Nat} {l0 l1 l2 l3 l4 : AV} {σ : Sg} {Q : AV → Sg → Prop}  : Rn d m_J7_fill_d0a16 22 [l0, l1, l2, l3, l4] [] σ Q ↔ Q none σ := q37_0 (st := []) (show fnd (pgm m_J7_fill_d0a16) 22 = some (23, 37, 0, 0, 0, []) from rfl)
set_option maxRecDepth 100000 in
theorem en_J7_fill_53178 {d : Nat} {a0 : Nat} {a1 : Int} {σ σ0 : Sg} {r0 : AV} (h : Rn d m_J7_fill_53178 0 [vR a0, vI a1, none, none] [] σ (fun r σ1 => r = r0 ∧ σ1 = σ0)) : Ev (d + 1) m_J7_fill_53178 [vR a0, vI a1] σ r0 σ0 := Ev_is (Nat.le_of_ble_eq_true rfl) h
set_option maxRecDepth 100000 in
theorem eo_J7_fill_53178 {d : Nat} {a0 : Nat} {a1 : Int} {σ : Sg} {Q : AV → Sg → Prop} (h : Rn d m_J7_fill_53178 0 [vR a0, vI a1, none, none] [] σ Q) : ∃ r σ1, Ev (d + 1) m_J7_fill_53178 [vR a0, vI a1] σ r σ1 ∧ Q r σ1 := Ev_of (Nat.le_of_ble_eq_true rfl) h
set_option maxRecDepth 100000 in
theorem s_J7_fill_53178_0 {d : Nat} {l0 l1 l2 l3 : AV} {st : List AV} {σ : Sg} {Q : AV → Sg → Prop}  : Rn d m_J7_fill_53178 0 [l0, l1, l2, l3] st σ Q ↔ Rn d m_J7_fill_53178 1 [l0, l1, l2, l3] (vI 0 :: st) σ Q := q0 (show fnd (pgm m_J7_fill_53178) 0 = some (1, 0, 0, 0, 0, []) from rfl)
set_option maxRecDepth 100000 in
theorem s_J7_fill_53178_1 {d : Nat} {l0 l1 l2 l3 : AV} {st : List AV} {x : Int} {σ : Sg} {Q : AV → Sg → Prop}  : Rn d m_J7_fill_53178 1 [l0, l1, l2, l3] (vI x :: st) σ Q ↔ Rn d m_J7_fill_53178 2 [l0, l1, vI x, l3] st σ Q := q6 (show fnd (pgm m_J7_fill_53178) 1 = some (2, 6, 0, 2, 0, []) from rfl) (by decide : 2 < 4)
set_option maxRecDepth 100000 in
theorem s_J7_fill_53178_2 {d : Nat} {l1 l2 l3 : AV} {st : List AV} {o : Nat} {σ : Sg} {Q : AV → Sg → Prop} (ho : o ≠ 0) : Rn d m_J7_fill_53178 2 [vR o, l1, l2, l3] st σ Q ↔ Rn d m_J7_fill_53178 3 [vR o, l1, l2, l3] (vR o :: st) σ Q := q5 (show fnd (pgm m_J7_fill_53178) 2 = some (3, 5, 0, 0, 0, []) from rfl) rfl ho
set_option maxRecDepth 100000 in
theorem s_J7_fill_53178_3 {d : Nat} {l0 l1 l2 l3 : AV} {st : List AV} {o c n : Nat} {σ : Sg} {Q : AV → Sg → Prop} (hk : kn σ o = (c, n)) (hc : c = 1 ∨ c = 2) : Rn d m_J7_fill_53178 3 [l0, l1, l2, l3] (vR o :: st) σ Q ↔ Rn d m_J7_fill_53178 4 [l0, l1, l2, l3] (vI n :: st) σ Q := q32 (show fnd (pgm m_J7_fill_53178) 3 = some (4, 32, 0, 0, 0, []) from rfl) hk hc
set_option maxRecDepth 100000 in
theorem s_J7_fill_53178_4 {d : Nat} {l0 l1 l2 l3 : AV} {st : List AV} {x : Int} {σ : Sg} {Q : AV → Sg → Prop}  : Rn d m_J7_fill_53178 4 [l0, l1, l2, l3] (vI x :: st) σ Q ↔ Rn d m_J7_fill_53178 5 [l0, l1, l2, vI x] st σ Q := q6 (show fnd (pgm m_J7_fill_53178) 4 = some (5, 6, 0, 3, 0, []) from rfl) (by decide : 3 < 4)
set_option maxRecDepth 100000 in
theorem s_J7_fill_53178_5 {d : Nat} {l0 l1 l3 : AV} {st : List AV} {x : Int} {σ : Sg} {Q : AV → Sg → Prop}  : Rn d m_J7_fill_53178 5 [l0, l1, vI x, l3] st σ Q ↔ Rn d m_J7_fill_53178 6 [l0, l1, vI x, l3] (vI x :: st) σ Q := q3 (show fnd (pgm m_J7_fill_53178) 5 = some (6, 3, 0, 2, 0, []) from rfl) rfl
set_option maxRecDepth 100000 in
theorem s_J7_fill_53178_6 {d : Nat} {l0 l1 l2 : AV} {st : List AV} {x : Int} {σ : Sg} {Q : AV → Sg → Prop}  : Rn d m_J7_fill_53178 6 [l0, l1, l2, vI x] st σ Q ↔ Rn d m_J7_fill_53178 7 [l0, l1, l2, vI x] (vI x :: st) σ Q := q3 (show fnd (pgm m_J7_fill_53178) 6 = some (7, 3, 0, 3, 0, []) from rfl) rfl
set_option maxRecDepth 100000 in
theorem s_J7_fill_53178_7 {d : Nat} {l0 l1 l2 l3 : AV} {st : List AV} {a b : Int} {σ : Sg} {Q : AV → Sg → Prop}  : Rn d m_J7_fill_53178 7 [l0, l1, l2, l3] (vI b :: vI a :: st) σ Q ↔ if w32 b ≤ w32 a then Rn d m_J7_fill_53178 20 [l0, l1, l2, l3] st σ Q else Rn d m_J7_fill_53178 10 [l0, l1, l2, l3] st σ Q := q20_3 (show fnd (pgm m_J7_fill_53178) 7 = some (10, 20, 0, 3, 20, []) from rfl)
set_option maxRecDepth 100000 in
theorem s_J7_fill_53178_10 {d : Nat} {l1 l2 l3 : AV} {st : List AV} {o : Nat} {σ : Sg} {Q : AV → Sg → Prop} (ho : o ≠ 0) : Rn d m_J7_fill_53178 10 [vR o, l1, l2, l3] st σ Q ↔ Rn d m_J7_fill_53178 11 [vR o, l1, l2, l3] (vR o :: st) σ Q := q5 (show fnd (pgm m_J7_fill_53178) 10 = some (11, 5, 0, 0, 0, []) from rfl) rfl ho
set_option maxRecDepth 100000 in
theorem s_J7_fill_53178_11 {d : Nat} {l0 l1 l3 : AV} {st : List AV} {x : Int} {σ : Sg} {Q : AV → Sg → Prop}  : Rn d m_J7_fill_53178 11 [l0, l1, vI x, l3] st σ Q ↔ Rn d m_J7_fill_53178 12 [l0, l1, vI x, l3] (vI x :: st) σ Q := q3 (show fnd (pgm m_J7_fill_53178) 11 = some (12, 3, 0, 2, 0, []) from rfl) rfl
set_option maxRecDepth 100000 in
theorem s_J7_fill_53178_12 {d : Nat} {l0 l2 l3 : AV} {st : List AV} {x : Int} {σ : Sg} {Q : AV → Sg → Prop}  : Rn d m_J7_fill_53178 12 [l0, vI x, l2, l3] st σ Q ↔ Rn d m_J7_fill_53178 13 [l0, vI x, l2, l3] (vI x :: st) σ Q := q3 (show fnd (pgm m_J7_fill_53178) 12 = some (13, 3, 0, 1, 0, []) from rfl) rfl
set_option maxRecDepth 100000 in
theorem s_J7_fill_53178_13 {d : Nat} {l0 l1 l2 l3 : AV} {st : List AV} {i x : Int} {o : Nat} {σ : Sg} {Q : AV → Sg → Prop} (hi : 0 ≤ w32 i ∧ w32 i < al σ 1 o) : Rn d m_J7_fill_53178 13 [l0, l1, l2, l3] (vI x :: vI i :: vR o :: st) σ Q ↔ Rn d m_J7_fill_53178 14 [l0, l1, l2, l3] st (up σ o (w32 i) x) Q := q29 (show fnd (pgm m_J7_fill_53178) 13 = some (14, 29, 0, 0, 0, []) from rfl) hi
set_option maxRecDepth 100000 in
theorem s_J7_fill_53178_14 {d : Nat} {l0 l1 l3 : AV} {st : List AV} {x : Int} {σ : Sg} {Q : AV → Sg → Prop}  : Rn d m_J7_fill_53178 14 [l0, l1, vI x, l3] st σ Q ↔ Rn d m_J7_fill_53178 17 [l0, l1, vI (x + 1), l3] st σ Q := q9 (show fnd (pgm m_J7_fill_53178) 14 = some (17, 9, 1, 2, 0, []) from rfl) rfl
set_option maxRecDepth 100000 in
theorem s_J7_fill_53178_17 {d : Nat} {l0 l1 l2 l3 : AV} {st : List AV} {σ : Sg} {Q : AV → Sg → Prop}  : Rn d m_J7_fill_53178 17 [l0, l1, l2, l3] st σ Q ↔ Rn d m_J7_fill_53178 5 [l0, l1, l2, l3] st σ Q := q21 (show fnd (pgm m_J7_fill_53178) 17 = some (20, 21, 0, 0, 5, []) from rfl)
set_option maxRecDepth 100000 in
theorem s_J7_fill_53178_20 {d : Nat} {l0 l1 l2 l3 : AV} {σ : Sg} {Q : AV → Sg → Prop}  : Rn d m_J7_fill_53178 20 [l0, l1, l2, l3] [] σ Q ↔ Q none σ := q37_0 (st := []) (show fnd (pgm m_J7_fill_53178) 20 = some (21, 37, 0, 0, 0, []) from rfl)
