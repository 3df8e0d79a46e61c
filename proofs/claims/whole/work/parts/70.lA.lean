set_option maxRecDepth 100000 in
theorem l_16 {d : Nat} {l0 l1 l2 l3 : AV} {st : List AV} {σ : Sg} {X : Nat} {K : List AV → List AV → Sg → Prop} (hX : 16 ≠ X)  : Rq d m_L_law X 16 [l0, l1, l2, l3] st σ K ↔ Rq d m_L_law X 17 [l0, l1, l2, l3] (vI 0 :: st) σ K := k0 hX (show fnd (pgm m_L_law) 16 = some (17, 0, 0, 0, 0, []) from rfl)
set_option maxRecDepth 100000 in
theorem l_17 {d : Nat} {l0 l1 l2 l3 : AV} {st : List AV} {x : Int} {σ : Sg} {X : Nat} {K : List AV → List AV → Sg → Prop} (hX : 17 ≠ X)  : Rq d m_L_law X 17 [l0, l1, l2, l3] (vI x :: st) σ K ↔ Rq d m_L_law X 18 [l0, l1, l2, vI x] st σ K := k6 hX (show fnd (pgm m_L_law) 17 = some (18, 6, 0, 3, 0, []) from rfl) (by decide : 3 < 4)
set_option maxRecDepth 100000 in
theorem l_18 {d : Nat} {l0 l1 l2 : AV} {st : List AV} {x : Int} {σ : Sg} {X : Nat} {K : List AV → List AV → Sg → Prop} (hX : 18 ≠ X)  : Rq d m_L_law X 18 [l0, l1, l2, vI x] st σ K ↔ Rq d m_L_law X 19 [l0, l1, l2, vI x] (vI x :: st) σ K := k3 hX (show fnd (pgm m_L_law) 18 = some (19, 3, 0, 3, 0, []) from rfl) rfl
set_option maxRecDepth 100000 in
theorem l_19 {d : Nat} {l1 l2 l3 : AV} {st : List AV} {o : Nat} {σ : Sg} {X : Nat} {K : List AV → List AV → Sg → Prop} (hX : 19 ≠ X) (ho : o ≠ 0) : Rq d m_L_law X 19 [vR o, l1, l2, l3] st σ K ↔ Rq d m_L_law X 20 [vR o, l1, l2, l3] (vR o :: st) σ K := k5 hX (show fnd (pgm m_L_law) 19 = some (20, 5, 0, 0, 0, []) from rfl) rfl ho
set_option maxRecDepth 100000 in
theorem l_20 {d : Nat} {l0 l1 l2 l3 : AV} {st : List AV} {σ : Sg} {X : Nat} {K : List AV → List AV → Sg → Prop} (hX : 20 ≠ X) : Rq d m_L_law X 20 [l0, l1, l2, l3] (vR 999 :: st) σ K ↔ Rq d m_L_law X 21 [l0, l1, l2, l3] (vI (σ 999 (-1)) :: st) σ K := k42 hX (show fnd (pgm m_L_law) 20 = some (21, 42, 0, 0, 0, []) from rfl)
set_option maxRecDepth 100000 in
theorem l_21 {d : Nat} {l0 l1 l2 l3 : AV} {st : List AV} {σ : Sg} {X : Nat} {K : List AV → List AV → Sg → Prop} (hX : 21 ≠ X)  : Rq d m_L_law X 21 [l0, l1, l2, l3] st σ K ↔ Rq d m_L_law X 23 [l0, l1, l2, l3] (vI 6 :: st) σ K := k0 hX (show fnd (pgm m_L_law) 21 = some (23, 0, 6, 1, 0, []) from rfl)
set_option maxRecDepth 100000 in
theorem l_23 {d : Nat} {l0 l1 l2 l3 : AV} {st : List AV} {a b : Int} {σ : Sg} {X : Nat} {K : List AV → List AV → Sg → Prop} (hX : 23 ≠ X)  : Rq d m_L_law X 23 [l0, l1, l2, l3] (vI b :: vI a :: st) σ K ↔ Rq d m_L_law X 24 [l0, l1, l2, l3] (vI (a - b) :: st) σ K := k10_1 hX (show fnd (pgm m_L_law) 23 = some (24, 10, 0, 1, 0, []) from rfl)
set_option maxRecDepth 100000 in
theorem l_24 {d : Nat} {l0 l1 l2 l3 : AV} {st : List AV} {a b : Int} {σ : Sg} {X : Nat} {K : List AV → List AV → Sg → Prop} (hX : 24 ≠ X)  : Rq d m_L_law X 24 [l0, l1, l2, l3] (vI b :: vI a :: st) σ K ↔ if w32 b < w32 a then Rq d m_L_law X 1370 [l0, l1, l2, l3] st σ K else Rq d m_L_law X 27 [l0, l1, l2, l3] st σ K := k20_4 hX (show fnd (pgm m_L_law) 24 = some (27, 20, 0, 4, 1370, []) from rfl)
set_option maxRecDepth 100000 in
theorem l_27 {d : Nat} {l1 l2 l3 : AV} {st : List AV} {o : Nat} {σ : Sg} {X : Nat} {K : List AV → List AV → Sg → Prop} (hX : 27 ≠ X) (ho : o ≠ 0) : Rq d m_L_law X 27 [vR o, l1, l2, l3] st σ K ↔ Rq d m_L_law X 28 [vR o, l1, l2, l3] (vR o :: st) σ K := k5 hX (show fnd (pgm m_L_law) 27 = some (28, 5, 0, 0, 0, []) from rfl) rfl ho
set_option maxRecDepth 100000 in
theorem l_28 {d : Nat} {l0 l1 l2 : AV} {st : List AV} {x : Int} {σ : Sg} {X : Nat} {K : List AV → List AV → Sg → Prop} (hX : 28 ≠ X)  : Rq d m_L_law X 28 [l0, l1, l2, vI x] st σ K ↔ Rq d m_L_law X 29 [l0, l1, l2, vI x] (vI x :: st) σ K := k3 hX (show fnd (pgm m_L_law) 28 = some (29, 3, 0, 3, 0, []) from rfl) rfl
set_option maxRecDepth 100000 in
theorem l_29 {d : Nat} {l0 l1 l2 l3 : AV} {st : List AV} {i : Int} {σ : Sg} {X : Nat} {K : List AV → List AV → Sg → Prop} (hX : 29 ≠ X) (hi : 0 ≤ w32 i ∧ w32 i < σ 999 (-1)) : Rq d m_L_law X 29 [l0, l1, l2, l3] (vI i :: vR 999 :: st) σ K ↔ Rq d m_L_law X 30 [l0, l1, l2, l3] (vI (σ 999 (w32 i)) :: st) σ K := k41 hX (show fnd (pgm m_L_law) 29 = some (30, 41, 0, 0, 0, []) from rfl) hi
set_option maxRecDepth 100000 in
theorem l_30 {d : Nat} {l0 l1 l2 l3 : AV} {st : List AV} {σ : Sg} {X : Nat} {K : List AV → List AV → Sg → Prop} (hX : 30 ≠ X)  : Rq d m_L_law X 30 [l0, l1, l2, l3] st σ K ↔ Rq d m_L_law X 32 [l0, l1, l2, l3] (vI 63 :: st) σ K := k0 hX (show fnd (pgm m_L_law) 30 = some (32, 0, 63, 1, 0, []) from rfl)
set_option maxRecDepth 100000 in
theorem l_32 {d : Nat} {l0 l1 l2 l3 : AV} {st : List AV} {a b : Int} {σ : Sg} {X : Nat} {K : List AV → List AV → Sg → Prop} (hX : 32 ≠ X)  : Rq d m_L_law X 32 [l0, l1, l2, l3] (vI b :: vI a :: st) σ K ↔ Rq d m_L_law X 33 [l0, l1, l2, l3] (vI (and32 a b) :: st) σ K := k10_5 hX (show fnd (pgm m_L_law) 32 = some (33, 10, 0, 5, 0, []) from rfl)
set_option maxRecDepth 100000 in
theorem l_33 {d : Nat} {l0 l1 l2 l3 : AV} {st : List AV} {a : Int} {σ : Sg} {X : Nat} {K : List AV → List AV → Sg → Prop} (hX : 33 ≠ X)  : Rq d m_L_law X 33 [l0, l1, l2, l3] (vI a :: st) σ K ↔ Rq d m_L_law X (swt [(0, 192), (1, 235), (2, 268), (3, 317), (4, 396), (5, 419), (6, 452), (7, 485), (8, 518), (9, 541), (10, 574), (11, 617), (12, 670), (13, 713), (14, 726), (15, 749), (16, 782), (17, 845), (18, 888), (19, 911), (20, 954), (21, 987), (22, 1020), (23, 1053), (24, 1116), (25, 1129), (26, 1142), (27, 1165), (28, 1198), (29, 1221), (30, 1234), (31, 1258), (32, 1281), (33, 1304), (34, 1327), (35, 1350)] 1364 (w32 a)) [l0, l1, l2, l3] st σ K := k24 hX (show fnd (pgm m_L_law) 33 = some (192, 24, 0, 0, 1364, [(0, 192), (1, 235), (2, 268), (3, 317), (4, 396), (5, 419), (6, 452), (7, 485), (8, 518), (9, 541), (10, 574), (11, 617), (12, 670), (13, 713), (14, 726), (15, 749), (16, 782), (17, 845), (18, 888), (19, 911), (20, 954), (21, 987), (22, 1020), (23, 1053), (24, 1116), (25, 1129), (26, 1142), (27, 1165), (28, 1198), (29, 1221), (30, 1234), (31, 1258), (32, 1281), (33, 1304), (34, 1327), (35, 1350)]) from rfl)
set_option maxRecDepth 100000 in
theorem l_192 {d : Nat} {l0 l2 l3 : AV} {st : List AV} {o : Nat} {σ : Sg} {X : Nat} {K : List AV → List AV → Sg → Prop} (hX : 192 ≠ X) (ho : o ≠ 0) : Rq d m_L_law X 192 [l0, vR o, l2, l3] st σ K ↔ Rq d m_L_law X 193 [l0, vR o, l2, l3] (vR o :: st) σ K := k5 hX (show fnd (pgm m_L_law) 192 = some (193, 5, 0, 1, 0, []) from rfl) rfl ho
set_option maxRecDepth 100000 in
theorem l_193 {d : Nat} {l1 l2 l3 : AV} {st : List AV} {o : Nat} {σ : Sg} {X : Nat} {K : List AV → List AV → Sg → Prop} (hX : 193 ≠ X) (ho : o ≠ 0) : Rq d m_L_law X 193 [vR o, l1, l2, l3] st σ K ↔ Rq d m_L_law X 194 [vR o, l1, l2, l3] (vR o :: st) σ K := k5 hX (show fnd (pgm m_L_law) 193 = some (194, 5, 0, 0, 0, []) from rfl) rfl ho
set_option maxRecDepth 100000 in
theorem l_194 {d : Nat} {l0 l1 l2 : AV} {st : List AV} {x : Int} {σ : Sg} {X : Nat} {K : List AV → List AV → Sg → Prop} (hX : 194 ≠ X)  : Rq d m_L_law X 194 [l0, l1, l2, vI x] st σ K ↔ Rq d m_L_law X 195 [l0, l1, l2, vI x] (vI x :: st) σ K := k3 hX (show fnd (pgm m_L_law) 194 = some (195, 3, 0, 3, 0, []) from rfl) rfl
set_option maxRecDepth 100000 in
theorem l_195 {d : Nat} {l0 l1 l2 l3 : AV} {st : List AV} {σ : Sg} {X : Nat} {K : List AV → List AV → Sg → Prop} (hX : 195 ≠ X)  : Rq d m_L_law X 195 [l0, l1, l2, l3] st σ K ↔ Rq d m_L_law X 196 [l0, l1, l2, l3] (vI 1 :: st) σ K := k0 hX (show fnd (pgm m_L_law) 195 = some (196, 0, 1, 0, 0, []) from rfl)
set_option maxRecDepth 100000 in
theorem l_196 {d : Nat} {l0 l1 l2 l3 : AV} {st : List AV} {a b : Int} {σ : Sg} {X : Nat} {K : List AV → List AV → Sg → Prop} (hX : 196 ≠ X)  : Rq d m_L_law X 196 [l0, l1, l2, l3] (vI b :: vI a :: st) σ K ↔ Rq d m_L_law X 197 [l0, l1, l2, l3] (vI (a + b) :: st) σ K := k10_0 hX (show fnd (pgm m_L_law) 196 = some (197, 10, 0, 0, 0, []) from rfl)
set_option maxRecDepth 100000 in
theorem l_197 {d : Nat} {l0 l1 l2 l3 : AV} {st : List AV} {i : Int} {σ : Sg} {X : Nat} {K : List AV → List AV → Sg → Prop} (hX : 197 ≠ X) (hi : 0 ≤ w32 i ∧ w32 i < σ 999 (-1)) : Rq d m_L_law X 197 [l0, l1, l2, l3] (vI i :: vR 999 :: st) σ K ↔ Rq d m_L_law X 198 [l0, l1, l2, l3] (vI (σ 999 (w32 i)) :: st) σ K := k41 hX (show fnd (pgm m_L_law) 197 = some (198, 41, 0, 0, 0, []) from rfl) hi
set_option maxRecDepth 100000 in
theorem l_198 {d : Nat} {l1 l2 l3 : AV} {st : List AV} {o : Nat} {σ : Sg} {X : Nat} {K : List AV → List AV → Sg → Prop} (hX : 198 ≠ X) (ho : o ≠ 0) : Rq d m_L_law X 198 [vR o, l1, l2, l3] st σ K ↔ Rq d m_L_law X 199 [vR o, l1, l2, l3] (vR o :: st) σ K := k5 hX (show fnd (pgm m_L_law) 198 = some (199, 5, 0, 0, 0, []) from rfl) rfl ho
set_option maxRecDepth 100000 in
theorem l_199 {d : Nat} {l0 l1 l2 : AV} {st : List AV} {x : Int} {σ : Sg} {X : Nat} {K : List AV → List AV → Sg → Prop} (hX : 199 ≠ X)  : Rq d m_L_law X 199 [l0, l1, l2, vI x] st σ K ↔ Rq d m_L_law X 200 [l0, l1, l2, vI x] (vI x :: st) σ K := k3 hX (show fnd (pgm m_L_law) 199 = some (200, 3, 0, 3, 0, []) from rfl) rfl
set_option maxRecDepth 100000 in
theorem l_200 {d : Nat} {l0 l1 l2 l3 : AV} {st : List AV} {σ : Sg} {X : Nat} {K : List AV → List AV → Sg → Prop} (hX : 200 ≠ X)  : Rq d m_L_law X 200 [l0, l1, l2, l3] st σ K ↔ Rq d m_L_law X 201 [l0, l1, l2, l3] (vI 2 :: st) σ K := k0 hX (show fnd (pgm m_L_law) 200 = some (201, 0, 2, 0, 0, []) from rfl)
set_option maxRecDepth 100000 in
theorem l_201 {d : Nat} {l0 l1 l2 l3 : AV} {st : List AV} {a b : Int} {σ : Sg} {X : Nat} {K : List AV → List AV → Sg → Prop} (hX : 201 ≠ X)  : Rq d m_L_law X 201 [l0, l1, l2, l3] (vI b :: vI a :: st) σ K ↔ Rq d m_L_law X 202 [l0, l1, l2, l3] (vI (a + b) :: st) σ K := k10_0 hX (show fnd (pgm m_L_law) 201 = some (202, 10, 0, 0, 0, []) from rfl)
set_option maxRecDepth 100000 in
theorem l_202 {d : Nat} {l0 l1 l2 l3 : AV} {st : List AV} {i : Int} {σ : Sg} {X : Nat} {K : List AV → List AV → Sg → Prop} (hX : 202 ≠ X) (hi : 0 ≤ w32 i ∧ w32 i < σ 999 (-1)) : Rq d m_L_law X 202 [l0, l1, l2, l3] (vI i :: vR 999 :: st) σ K ↔ Rq d m_L_law X 203 [l0, l1, l2, l3] (vI (σ 999 (w32 i)) :: st) σ K := k41 hX (show fnd (pgm m_L_law) 202 = some (203, 41, 0, 0, 0, []) from rfl) hi
set_option maxRecDepth 100000 in
theorem l_203 {d : Nat} {l1 l2 l3 : AV} {st : List AV} {o : Nat} {σ : Sg} {X : Nat} {K : List AV → List AV → Sg → Prop} (hX : 203 ≠ X) (ho : o ≠ 0) : Rq d m_L_law X 203 [vR o, l1, l2, l3] st σ K ↔ Rq d m_L_law X 204 [vR o, l1, l2, l3] (vR o :: st) σ K := k5 hX (show fnd (pgm m_L_law) 203 = some (204, 5, 0, 0, 0, []) from rfl) rfl ho
set_option maxRecDepth 100000 in
theorem l_204 {d : Nat} {l0 l1 l2 : AV} {st : List AV} {x : Int} {σ : Sg} {X : Nat} {K : List AV → List AV → Sg → Prop} (hX : 204 ≠ X)  : Rq d m_L_law X 204 [l0, l1, l2, vI x] st σ K ↔ Rq d m_L_law X 205 [l0, l1, l2, vI x] (vI x :: st) σ K := k3 hX (show fnd (pgm m_L_law) 204 = some (205, 3, 0, 3, 0, []) from rfl) rfl
set_option maxRecDepth 100000 in
theorem l_205 {d : Nat} {l0 l1 l2 l3 : AV} {st : List AV} {σ : Sg} {X : Nat} {K : List AV → List AV → Sg → Prop} (hX : 205 ≠ X)  : Rq d m_L_law X 205 [l0, l1, l2, l3] st σ K ↔ Rq d m_L_law X 206 [l0, l1, l2, l3] (vI 3 :: st) σ K := k0 hX (show fnd (pgm m_L_law) 205 = some (206, 0, 3, 0, 0, []) from rfl)
set_option maxRecDepth 100000 in
theorem l_206 {d : Nat} {l0 l1 l2 l3 : AV} {st : List AV} {a b : Int} {σ : Sg} {X : Nat} {K : List AV → List AV → Sg → Prop} (hX : 206 ≠ X)  : Rq d m_L_law X 206 [l0, l1, l2, l3] (vI b :: vI a :: st) σ K ↔ Rq d m_L_law X 207 [l0, l1, l2, l3] (vI (a + b) :: st) σ K := k10_0 hX (show fnd (pgm m_L_law) 206 = some (207, 10, 0, 0, 0, []) from rfl)
set_option maxRecDepth 100000 in
theorem l_207 {d : Nat} {l0 l1 l2 l3 : AV} {st : List AV} {i : Int} {σ : Sg} {X : Nat} {K : List AV → List AV → Sg → Prop} (hX : 207 ≠ X) (hi : 0 ≤ w32 i ∧ w32 i < σ 999 (-1)) : Rq d m_L_law X 207 [l0, l1, l2, l3] (vI i :: vR 999 :: st) σ K ↔ Rq d m_L_law X 208 [l0, l1, l2, l3] (vI (σ 999 (w32 i)) :: st) σ K := k41 hX (show fnd (pgm m_L_law) 207 = some (208, 41, 0, 0, 0, []) from rfl) hi
set_option maxRecDepth 100000 in
theorem l_208 {d : Nat} {l0 l1 l2 l3 : AV} {st : List AV} {o : Nat} {a0 : Int} {a1 : Int} {a2 : Int} {σ : Sg} {X : Nat} {K : List AV → List AV → Sg → Prop} (hX : 208 ≠ X) (h4 : st.length ≤ 4) (hk : kn σ o = (0, 5)) : Rq d m_L_law X 208 [l0, l1, l2, l3] (vI a2 :: vI a1 :: vI a0 :: vR o :: st) σ K ↔ ∃ r σ1, Ev d m_X5_stone [vR o, vI a0, vI a1, vI a2] σ r σ1 ∧ Rq d m_L_law X 211 [l0, l1, l2, l3] (psh r st) σ1 K := k35 hX (show fnd (pgm m_L_law) 208 = some (211, 35, 13, 53, 4, []) from rfl) ⟨⟨by simp, by simpa using h4⟩, (by simp only [List.take, List.reverse, List.reverseAux, rcv]; rw [if_neg (by decide +kernel)]; exact decide_eq_true hk)⟩
set_option maxRecDepth 100000 in
theorem l_211 {d : Nat} {l0 l1 l3 : AV} {st : List AV} {o : Nat} {σ : Sg} {X : Nat} {K : List AV → List AV → Sg → Prop} (hX : 211 ≠ X) (ho : o ≠ 0) : Rq d m_L_law X 211 [l0, l1, vR o, l3] st σ K ↔ Rq d m_L_law X 212 [l0, l1, vR o, l3] (vR o :: st) σ K := k5 hX (show fnd (pgm m_L_law) 211 = some (212, 5, 0, 2, 0, []) from rfl) rfl ho
set_option maxRecDepth 100000 in
theorem l_212 {d : Nat} {l1 l2 l3 : AV} {st : List AV} {o : Nat} {σ : Sg} {X : Nat} {K : List AV → List AV → Sg → Prop} (hX : 212 ≠ X) (ho : o ≠ 0) : Rq d m_L_law X 212 [vR o, l1, l2, l3] st σ K ↔ Rq d m_L_law X 213 [vR o, l1, l2, l3] (vR o :: st) σ K := k5 hX (show fnd (pgm m_L_law) 212 = some (213, 5, 0, 0, 0, []) from rfl) rfl ho
set_option maxRecDepth 100000 in
theorem l_213 {d : Nat} {l0 l1 l2 : AV} {st : List AV} {x : Int} {σ : Sg} {X : Nat} {K : List AV → List AV → Sg → Prop} (hX : 213 ≠ X)  : Rq d m_L_law X 213 [l0, l1, l2, vI x] st σ K ↔ Rq d m_L_law X 214 [l0, l1, l2, vI x] (vI x :: st) σ K := k3 hX (show fnd (pgm m_L_law) 213 = some (214, 3, 0, 3, 0, []) from rfl) rfl
set_option maxRecDepth 100000 in
theorem l_214 {d : Nat} {l0 l1 l2 l3 : AV} {st : List AV} {σ : Sg} {X : Nat} {K : List AV → List AV → Sg → Prop} (hX : 214 ≠ X)  : Rq d m_L_law X 214 [l0, l1, l2, l3] st σ K ↔ Rq d m_L_law X 215 [l0, l1, l2, l3] (vI 1 :: st) σ K := k0 hX (show fnd (pgm m_L_law) 214 = some (215, 0, 1, 0, 0, []) from rfl)
set_option maxRecDepth 100000 in
theorem l_215 {d : Nat} {l0 l1 l2 l3 : AV} {st : List AV} {a b : Int} {σ : Sg} {X : Nat} {K : List AV → List AV → Sg → Prop} (hX : 215 ≠ X)  : Rq d m_L_law X 215 [l0, l1, l2, l3] (vI b :: vI a :: st) σ K ↔ Rq d m_L_law X 216 [l0, l1, l2, l3] (vI (a + b) :: st) σ K := k10_0 hX (show fnd (pgm m_L_law) 215 = some (216, 10, 0, 0, 0, []) from rfl)
set_option maxRecDepth 100000 in
theorem l_216 {d : Nat} {l0 l1 l2 l3 : AV} {st : List AV} {i : Int} {σ : Sg} {X : Nat} {K : List AV → List AV → Sg → Prop} (hX : 216 ≠ X) (hi : 0 ≤ w32 i ∧ w32 i < σ 999 (-1)) : Rq d m_L_law X 216 [l0, l1, l2, l3] (vI i :: vR 999 :: st) σ K ↔ Rq d m_L_law X 217 [l0, l1, l2, l3] (vI (σ 999 (w32 i)) :: st) σ K := k41 hX (show fnd (pgm m_L_law) 216 = some (217, 41, 0, 0, 0, []) from rfl) hi
set_option maxRecDepth 100000 in
theorem l_217 {d : Nat} {l1 l2 l3 : AV} {st : List AV} {o : Nat} {σ : Sg} {X : Nat} {K : List AV → List AV → Sg → Prop} (hX : 217 ≠ X) (ho : o ≠ 0) : Rq d m_L_law X 217 [vR o, l1, l2, l3] st σ K ↔ Rq d m_L_law X 218 [vR o, l1, l2, l3] (vR o :: st) σ K := k5 hX (show fnd (pgm m_L_law) 217 = some (218, 5, 0, 0, 0, []) from rfl) rfl ho
set_option maxRecDepth 100000 in
theorem l_218 {d : Nat} {l0 l1 l2 : AV} {st : List AV} {x : Int} {σ : Sg} {X : Nat} {K : List AV → List AV → Sg → Prop} (hX : 218 ≠ X)  : Rq d m_L_law X 218 [l0, l1, l2, vI x] st σ K ↔ Rq d m_L_law X 219 [l0, l1, l2, vI x] (vI x :: st) σ K := k3 hX (show fnd (pgm m_L_law) 218 = some (219, 3, 0, 3, 0, []) from rfl) rfl
set_option maxRecDepth 100000 in
theorem l_219 {d : Nat} {l0 l1 l2 l3 : AV} {st : List AV} {σ : Sg} {X : Nat} {K : List AV → List AV → Sg → Prop} (hX : 219 ≠ X)  : Rq d m_L_law X 219 [l0, l1, l2, l3] st σ K ↔ Rq d m_L_law X 220 [l0, l1, l2, l3] (vI 2 :: st) σ K := k0 hX (show fnd (pgm m_L_law) 219 = some (220, 0, 2, 0, 0, []) from rfl)
set_option maxRecDepth 100000 in
theorem l_220 {d : Nat} {l0 l1 l2 l3 : AV} {st : List AV} {a b : Int} {σ : Sg} {X : Nat} {K : List AV → List AV → Sg → Prop} (hX : 220 ≠ X)  : Rq d m_L_law X 220 [l0, l1, l2, l3] (vI b :: vI a :: st) σ K ↔ Rq d m_L_law X 221 [l0, l1, l2, l3] (vI (a + b) :: st) σ K := k10_0 hX (show fnd (pgm m_L_law) 220 = some (221, 10, 0, 0, 0, []) from rfl)
set_option maxRecDepth 100000 in
theorem l_221 {d : Nat} {l0 l1 l2 l3 : AV} {st : List AV} {i : Int} {σ : Sg} {X : Nat} {K : List AV → List AV → Sg → Prop} (hX : 221 ≠ X) (hi : 0 ≤ w32 i ∧ w32 i < σ 999 (-1)) : Rq d m_L_law X 221 [l0, l1, l2, l3] (vI i :: vR 999 :: st) σ K ↔ Rq d m_L_law X 222 [l0, l1, l2, l3] (vI (σ 999 (w32 i)) :: st) σ K := k41 hX (show fnd (pgm m_L_law) 221 = some (222, 41, 0, 0, 0, []) from rfl) hi
set_option maxRecDepth 100000 in
theorem l_222 {d : Nat} {l1 l2 l3 : AV} {st : List AV} {o : Nat} {σ : Sg} {X : Nat} {K : List AV → List AV → Sg → Prop} (hX : 222 ≠ X) (ho : o ≠ 0) : Rq d m_L_law X 222 [vR o, l1, l2, l3] st σ K ↔ Rq d m_L_law X 223 [vR o, l1, l2, l3] (vR o :: st) σ K := k5 hX (show fnd (pgm m_L_law) 222 = some (223, 5, 0, 0, 0, []) from rfl) rfl ho
set_option maxRecDepth 100000 in
theorem l_223 {d : Nat} {l0 l1 l2 : AV} {st : List AV} {x : Int} {σ : Sg} {X : Nat} {K : List AV → List AV → Sg → Prop} (hX : 223 ≠ X)  : Rq d m_L_law X 223 [l0, l1, l2, vI x] st σ K ↔ Rq d m_L_law X 224 [l0, l1, l2, vI x] (vI x :: st) σ K := k3 hX (show fnd (pgm m_L_law) 223 = some (224, 3, 0, 3, 0, []) from rfl) rfl
set_option maxRecDepth 100000 in
theorem l_224 {d : Nat} {l0 l1 l2 l3 : AV} {st : List AV} {σ : Sg} {X : Nat} {K : List AV → List AV → Sg → Prop} (hX : 224 ≠ X)  : Rq d m_L_law X 224 [l0, l1, l2, l3] st σ K ↔ Rq d m_L_law X 225 [l0, l1, l2, l3] (vI 3 :: st) σ K := k0 hX (show fnd (pgm m_L_law) 224 = some (225, 0, 3, 0, 0, []) from rfl)
set_option maxRecDepth 100000 in
theorem l_225 {d : Nat} {l0 l1 l2 l3 : AV} {st : List AV} {a b : Int} {σ : Sg} {X : Nat} {K : List AV → List AV → Sg → Prop} (hX : 225 ≠ X)  : Rq d m_L_law X 225 [l0, l1, l2, l3] (vI b :: vI a :: st) σ K ↔ Rq d m_L_law X 226 [l0, l1, l2, l3] (vI (a + b) :: st) σ K := k10_0 hX (show fnd (pgm m_L_law) 225 = some (226, 10, 0, 0, 0, []) from rfl)
set_option maxRecDepth 100000 in
theorem l_226 {d : Nat} {l0 l1 l2 l3 : AV} {st : List AV} {i : Int} {σ : Sg} {X : Nat} {K : List AV → List AV → Sg → Prop} (hX : 226 ≠ X) (hi : 0 ≤ w32 i ∧ w32 i < σ 999 (-1)) : Rq d m_L_law X 226 [l0, l1, l2, l3] (vI i :: vR 999 :: st) σ K ↔ Rq d m_L_law X 227 [l0, l1, l2, l3] (vI (σ 999 (w32 i)) :: st) σ K := k41 hX (show fnd (pgm m_L_law) 226 = some (227, 41, 0, 0, 0, []) from rfl) hi
set_option maxRecDepth 100000 in
theorem l_227 {d : Nat} {l0 l1 l2 l3 : AV} {st : List AV} {o : Nat} {a0 : Int} {a1 : Int} {a2 : Int} {σ : Sg} {X : Nat} {K : List AV → List AV → Sg → Prop} (hX : 227 ≠ X) (h4 : st.length ≤ 4) (hk : kn σ o = (0, 6)) : Rq d m_L_law X 227 [l0, l1, l2, l3] (vI a2 :: vI a1 :: vI a0 :: vR o :: st) σ K ↔ ∃ r σ1, Ev d m_X6_stone [vR o, vI a0, vI a1, vI a2] σ r σ1 ∧ Rq d m_L_law X 230 [l0, l1, l2, l3] (psh r st) σ1 K := k35 hX (show fnd (pgm m_L_law) 227 = some (230, 35, 17, 116, 4, []) from rfl) ⟨⟨by simp, by simpa using h4⟩, (by simp only [List.take, List.reverse, List.reverseAux, rcv]; rw [if_neg (by decide +kernel)]; exact decide_eq_true hk)⟩
set_option maxRecDepth 100000 in
theorem l_230 {d : Nat} {l0 l1 l2 l3 : AV} {st : List AV} {a b : Int} {σ : Sg} {X : Nat} {K : List AV → List AV → Sg → Prop} (hX : 230 ≠ X)  : Rq d m_L_law X 230 [l0, l1, l2, l3] (vI b :: vI a :: st) σ K ↔ if w32 a = w32 b then Rq d m_L_law X 1364 [l0, l1, l2, l3] st σ K else Rq d m_L_law X 233 [l0, l1, l2, l3] st σ K := k20_0 hX (show fnd (pgm m_L_law) 230 = some (233, 20, 0, 0, 1364, []) from rfl)
set_option maxRecDepth 100000 in
theorem l_233 {d : Nat} {l0 l1 l2 l3 : AV} {st : List AV} {σ : Sg} {X : Nat} {K : List AV → List AV → Sg → Prop} (hX : 233 ≠ X)  : Rq d m_L_law X 233 [l0, l1, l2, l3] st σ K ↔ Rq d m_L_law X 234 [l0, l1, l2, l3] (vI 0 :: st) σ K := k0 hX (show fnd (pgm m_L_law) 233 = some (234, 0, 0, 0, 0, []) from rfl)
set_option maxRecDepth 100000 in
theorem l_235 {d : Nat} {l0 l2 l3 : AV} {st : List AV} {o : Nat} {σ : Sg} {X : Nat} {K : List AV → List AV → Sg → Prop} (hX : 235 ≠ X) (ho : o ≠ 0) : Rq d m_L_law X 235 [l0, vR o, l2, l3] st σ K ↔ Rq d m_L_law X 236 [l0, vR o, l2, l3] (vR o :: st) σ K := k5 hX (show fnd (pgm m_L_law) 235 = some (236, 5, 0, 1, 0, []) from rfl) rfl ho
set_option maxRecDepth 100000 in
theorem l_236 {d : Nat} {l1 l2 l3 : AV} {st : List AV} {o : Nat} {σ : Sg} {X : Nat} {K : List AV → List AV → Sg → Prop} (hX : 236 ≠ X) (ho : o ≠ 0) : Rq d m_L_law X 236 [vR o, l1, l2, l3] st σ K ↔ Rq d m_L_law X 237 [vR o, l1, l2, l3] (vR o :: st) σ K := k5 hX (show fnd (pgm m_L_law) 236 = some (237, 5, 0, 0, 0, []) from rfl) rfl ho
set_option maxRecDepth 100000 in
theorem l_237 {d : Nat} {l0 l1 l2 : AV} {st : List AV} {x : Int} {σ : Sg} {X : Nat} {K : List AV → List AV → Sg → Prop} (hX : 237 ≠ X)  : Rq d m_L_law X 237 [l0, l1, l2, vI x] st σ K ↔ Rq d m_L_law X 238 [l0, l1, l2, vI x] (vI x :: st) σ K := k3 hX (show fnd (pgm m_L_law) 237 = some (238, 3, 0, 3, 0, []) from rfl) rfl
set_option maxRecDepth 100000 in
theorem l_238 {d : Nat} {l0 l1 l2 l3 : AV} {st : List AV} {σ : Sg} {X : Nat} {K : List AV → List AV → Sg → Prop} (hX : 238 ≠ X)  : Rq d m_L_law X 238 [l0, l1, l2, l3] st σ K ↔ Rq d m_L_law X 239 [l0, l1, l2, l3] (vI 1 :: st) σ K := k0 hX (show fnd (pgm m_L_law) 238 = some (239, 0, 1, 0, 0, []) from rfl)
set_option maxRecDepth 100000 in
theorem l_239 {d : Nat} {l0 l1 l2 l3 : AV} {st : List AV} {a b : Int} {σ : Sg} {X : Nat} {K : List AV → List AV → Sg → Prop} (hX : 239 ≠ X)  : Rq d m_L_law X 239 [l0, l1, l2, l3] (vI b :: vI a :: st) σ K ↔ Rq d m_L_law X 240 [l0, l1, l2, l3] (vI (a + b) :: st) σ K := k10_0 hX (show fnd (pgm m_L_law) 239 = some (240, 10, 0, 0, 0, []) from rfl)
set_option maxRecDepth 100000 in
theorem l_240 {d : Nat} {l0 l1 l2 l3 : AV} {st : List AV} {i : Int} {σ : Sg} {X : Nat} {K : List AV → List AV → Sg → Prop} (hX : 240 ≠ X) (hi : 0 ≤ w32 i ∧ w32 i < σ 999 (-1)) : Rq d m_L_law X 240 [l0, l1, l2, l3] (vI i :: vR 999 :: st) σ K ↔ Rq d m_L_law X 241 [l0, l1, l2, l3] (vI (σ 999 (w32 i)) :: st) σ K := k41 hX (show fnd (pgm m_L_law) 240 = some (241, 41, 0, 0, 0, []) from rfl) hi
set_option maxRecDepth 100000 in
theorem l_241 {d : Nat} {l1 l2 l3 : AV} {st : List AV} {o : Nat} {σ : Sg} {X : Nat} {K : List AV → List AV → Sg → Prop} (hX : 241 ≠ X) (ho : o ≠ 0) : Rq d m_L_law X 241 [vR o, l1, l2, l3] st σ K ↔ Rq d m_L_law X 242 [vR o, l1, l2, l3] (vR o :: st) σ K := k5 hX (show fnd (pgm m_L_law) 241 = some (242, 5, 0, 0, 0, []) from rfl) rfl ho
set_option maxRecDepth 100000 in
theorem l_242 {d : Nat} {l0 l1 l2 : AV} {st : List AV} {x : Int} {σ : Sg} {X : Nat} {K : List AV → List AV → Sg → Prop} (hX : 242 ≠ X)  : Rq d m_L_law X 242 [l0, l1, l2, vI x] st σ K ↔ Rq d m_L_law X 243 [l0, l1, l2, vI x] (vI x :: st) σ K := k3 hX (show fnd (pgm m_L_law) 242 = some (243, 3, 0, 3, 0, []) from rfl) rfl
set_option maxRecDepth 100000 in
theorem l_243 {d : Nat} {l0 l1 l2 l3 : AV} {st : List AV} {σ : Sg} {X : Nat} {K : List AV → List AV → Sg → Prop} (hX : 243 ≠ X)  : Rq d m_L_law X 243 [l0, l1, l2, l3] st σ K ↔ Rq d m_L_law X 244 [l0, l1, l2, l3] (vI 2 :: st) σ K := k0 hX (show fnd (pgm m_L_law) 243 = some (244, 0, 2, 0, 0, []) from rfl)
set_option maxRecDepth 100000 in
theorem l_244 {d : Nat} {l0 l1 l2 l3 : AV} {st : List AV} {a b : Int} {σ : Sg} {X : Nat} {K : List AV → List AV → Sg → Prop} (hX : 244 ≠ X)  : Rq d m_L_law X 244 [l0, l1, l2, l3] (vI b :: vI a :: st) σ K ↔ Rq d m_L_law X 245 [l0, l1, l2, l3] (vI (a + b) :: st) σ K := k10_0 hX (show fnd (pgm m_L_law) 244 = some (245, 10, 0, 0, 0, []) from rfl)
set_option maxRecDepth 100000 in
theorem l_245 {d : Nat} {l0 l1 l2 l3 : AV} {st : List AV} {i : Int} {σ : Sg} {X : Nat} {K : List AV → List AV → Sg → Prop} (hX : 245 ≠ X) (hi : 0 ≤ w32 i ∧ w32 i < σ 999 (-1)) : Rq d m_L_law X 245 [l0, l1, l2, l3] (vI i :: vR 999 :: st) σ K ↔ Rq d m_L_law X 246 [l0, l1, l2, l3] (vI (σ 999 (w32 i)) :: st) σ K := k41 hX (show fnd (pgm m_L_law) 245 = some (246, 41, 0, 0, 0, []) from rfl) hi
set_option maxRecDepth 100000 in
theorem l_246 {d : Nat} {l0 l1 l2 l3 : AV} {st : List AV} {o : Nat} {a0 : Int} {a1 : Int} {σ : Sg} {X : Nat} {K : List AV → List AV → Sg → Prop} (hX : 246 ≠ X) (h4 : st.length ≤ 4) (hk : kn σ o = (0, 5)) : Rq d m_L_law X 246 [l0, l1, l2, l3] (vI a1 :: vI a0 :: vR o :: st) σ K ↔ ∃ r σ1, Ev d m_X5_fence [vR o, vI a0, vI a1] σ r σ1 ∧ Rq d m_L_law X 249 [l0, l1, l2, l3] (psh r st) σ1 K := k35 hX (show fnd (pgm m_L_law) 246 = some (249, 35, 18, 54, 3, []) from rfl) ⟨⟨by simp, by simpa using h4⟩, (by simp only [List.take, List.reverse, List.reverseAux, rcv]; rw [if_neg (by decide +kernel)]; exact decide_eq_true hk)⟩
set_option maxRecDepth 100000 in
theorem l_249 {d : Nat} {l0 l1 l3 : AV} {st : List AV} {o : Nat} {σ : Sg} {X : Nat} {K : List AV → List AV → Sg → Prop} (hX : 249 ≠ X) (ho : o ≠ 0) : Rq d m_L_law X 249 [l0, l1, vR o, l3] st σ K ↔ Rq d m_L_law X 250 [l0, l1, vR o, l3] (vR o :: st) σ K := k5 hX (show fnd (pgm m_L_law) 249 = some (250, 5, 0, 2, 0, []) from rfl) rfl ho
set_option maxRecDepth 100000 in
theorem l_250 {d : Nat} {l1 l2 l3 : AV} {st : List AV} {o : Nat} {σ : Sg} {X : Nat} {K : List AV → List AV → Sg → Prop} (hX : 250 ≠ X) (ho : o ≠ 0) : Rq d m_L_law X 250 [vR o, l1, l2, l3] st σ K ↔ Rq d m_L_law X 251 [vR o, l1, l2, l3] (vR o :: st) σ K := k5 hX (show fnd (pgm m_L_law) 250 = some (251, 5, 0, 0, 0, []) from rfl) rfl ho
set_option maxRecDepth 100000 in
theorem l_251 {d : Nat} {l0 l1 l2 : AV} {st : List AV} {x : Int} {σ : Sg} {X : Nat} {K : List AV → List AV → Sg → Prop} (hX : 251 ≠ X)  : Rq d m_L_law X 251 [l0, l1, l2, vI x] st σ K ↔ Rq d m_L_law X 252 [l0, l1, l2, vI x] (vI x :: st) σ K := k3 hX (show fnd (pgm m_L_law) 251 = some (252, 3, 0, 3, 0, []) from rfl) rfl
set_option maxRecDepth 100000 in
theorem l_252 {d : Nat} {l0 l1 l2 l3 : AV} {st : List AV} {σ : Sg} {X : Nat} {K : List AV → List AV → Sg → Prop} (hX : 252 ≠ X)  : Rq d m_L_law X 252 [l0, l1, l2, l3] st σ K ↔ Rq d m_L_law X 253 [l0, l1, l2, l3] (vI 1 :: st) σ K := k0 hX (show fnd (pgm m_L_law) 252 = some (253, 0, 1, 0, 0, []) from rfl)
set_option maxRecDepth 100000 in
theorem l_253 {d : Nat} {l0 l1 l2 l3 : AV} {st : List AV} {a b : Int} {σ : Sg} {X : Nat} {K : List AV → List AV → Sg → Prop} (hX : 253 ≠ X)  : Rq d m_L_law X 253 [l0, l1, l2, l3] (vI b :: vI a :: st) σ K ↔ Rq d m_L_law X 254 [l0, l1, l2, l3] (vI (a + b) :: st) σ K := k10_0 hX (show fnd (pgm m_L_law) 253 = some (254, 10, 0, 0, 0, []) from rfl)
set_option maxRecDepth 100000 in
theorem l_254 {d : Nat} {l0 l1 l2 l3 : AV} {st : List AV} {i : Int} {σ : Sg} {X : Nat} {K : List AV → List AV → Sg → Prop} (hX : 254 ≠ X) (hi : 0 ≤ w32 i ∧ w32 i < σ 999 (-1)) : Rq d m_L_law X 254 [l0, l1, l2, l3] (vI i :: vR 999 :: st) σ K ↔ Rq d m_L_law X 255 [l0, l1, l2, l3] (vI (σ 999 (w32 i)) :: st) σ K := k41 hX (show fnd (pgm m_L_law) 254 = some (255, 41, 0, 0, 0, []) from rfl) hi
set_option maxRecDepth 100000 in
theorem l_255 {d : Nat} {l1 l2 l3 : AV} {st : List AV} {o : Nat} {σ : Sg} {X : Nat} {K : List AV → List AV → Sg → Prop} (hX : 255 ≠ X) (ho : o ≠ 0) : Rq d m_L_law X 255 [vR o, l1, l2, l3] st σ K ↔ Rq d m_L_law X 256 [vR o, l1, l2, l3] (vR o :: st) σ K := k5 hX (show fnd (pgm m_L_law) 255 = some (256, 5, 0, 0, 0, []) from rfl) rfl ho
set_option maxRecDepth 100000 in
theorem l_256 {d : Nat} {l0 l1 l2 : AV} {st : List AV} {x : Int} {σ : Sg} {X : Nat} {K : List AV → List AV → Sg → Prop} (hX : 256 ≠ X)  : Rq d m_L_law X 256 [l0, l1, l2, vI x] st σ K ↔ Rq d m_L_law X 257 [l0, l1, l2, vI x] (vI x :: st) σ K := k3 hX (show fnd (pgm m_L_law) 256 = some (257, 3, 0, 3, 0, []) from rfl) rfl
set_option maxRecDepth 100000 in
theorem l_257 {d : Nat} {l0 l1 l2 l3 : AV} {st : List AV} {σ : Sg} {X : Nat} {K : List AV → List AV → Sg → Prop} (hX : 257 ≠ X)  : Rq d m_L_law X 257 [l0, l1, l2, l3] st σ K ↔ Rq d m_L_law X 258 [l0, l1, l2, l3] (vI 2 :: st) σ K := k0 hX (show fnd (pgm m_L_law) 257 = some (258, 0, 2, 0, 0, []) from rfl)
set_option maxRecDepth 100000 in
theorem l_258 {d : Nat} {l0 l1 l2 l3 : AV} {st : List AV} {a b : Int} {σ : Sg} {X : Nat} {K : List AV → List AV → Sg → Prop} (hX : 258 ≠ X)  : Rq d m_L_law X 258 [l0, l1, l2, l3] (vI b :: vI a :: st) σ K ↔ Rq d m_L_law X 259 [l0, l1, l2, l3] (vI (a + b) :: st) σ K := k10_0 hX (show fnd (pgm m_L_law) 258 = some (259, 10, 0, 0, 0, []) from rfl)
set_option maxRecDepth 100000 in
theorem l_259 {d : Nat} {l0 l1 l2 l3 : AV} {st : List AV} {i : Int} {σ : Sg} {X : Nat} {K : List AV → List AV → Sg → Prop} (hX : 259 ≠ X) (hi : 0 ≤ w32 i ∧ w32 i < σ 999 (-1)) : Rq d m_L_law X 259 [l0, l1, l2, l3] (vI i :: vR 999 :: st) σ K ↔ Rq d m_L_law X 260 [l0, l1, l2, l3] (vI (σ 999 (w32 i)) :: st) σ K := k41 hX (show fnd (pgm m_L_law) 259 = some (260, 41, 0, 0, 0, []) from rfl) hi
set_option maxRecDepth 100000 in
theorem l_260 {d : Nat} {l0 l1 l2 l3 : AV} {st : List AV} {o : Nat} {a0 : Int} {a1 : Int} {σ : Sg} {X : Nat} {K : List AV → List AV → Sg → Prop} (hX : 260 ≠ X) (h4 : st.length ≤ 4) (hk : kn σ o = (0, 6)) : Rq d m_L_law X 260 [l0, l1, l2, l3] (vI a1 :: vI a0 :: vR o :: st) σ K ↔ ∃ r σ1, Ev d m_X6_fence [vR o, vI a0, vI a1] σ r σ1 ∧ Rq d m_L_law X 263 [l0, l1, l2, l3] (psh r st) σ1 K := k35 hX (show fnd (pgm m_L_law) 260 = some (263, 35, 22, 117, 3, []) from rfl) ⟨⟨by simp, by simpa using h4⟩, (by simp only [List.take, List.reverse, List.reverseAux, rcv]; rw [if_neg (by decide +kernel)]; exact decide_eq_true hk)⟩
set_option maxRecDepth 100000 in
theorem l_263 {d : Nat} {l0 l1 l2 l3 : AV} {st : List AV} {a b : Int} {σ : Sg} {X : Nat} {K : List AV → List AV → Sg → Prop} (hX : 263 ≠ X)  : Rq d m_L_law X 263 [l0, l1, l2, l3] (vI b :: vI a :: st) σ K ↔ if w32 a = w32 b then Rq d m_L_law X 1364 [l0, l1, l2, l3] st σ K else Rq d m_L_law X 266 [l0, l1, l2, l3] st σ K := k20_0 hX (show fnd (pgm m_L_law) 263 = some (266, 20, 0, 0, 1364, []) from rfl)
set_option maxRecDepth 100000 in
theorem l_266 {d : Nat} {l0 l1 l2 l3 : AV} {st : List AV} {σ : Sg} {X : Nat} {K : List AV → List AV → Sg → Prop} (hX : 266 ≠ X)  : Rq d m_L_law X 266 [l0, l1, l2, l3] st σ K ↔ Rq d m_L_law X 267 [l0, l1, l2, l3] (vI 0 :: st) σ K := k0 hX (show fnd (pgm m_L_law) 266 = some (267, 0, 0, 0, 0, []) from rfl)
set_option maxRecDepth 100000 in
theorem l_268 {d : Nat} {l0 l2 l3 : AV} {st : List AV} {o : Nat} {σ : Sg} {X : Nat} {K : List AV → List AV → Sg → Prop} (hX : 268 ≠ X) (ho : o ≠ 0) : Rq d m_L_law X 268 [l0, vR o, l2, l3] st σ K ↔ Rq d m_L_law X 269 [l0, vR o, l2, l3] (vR o :: st) σ K := k5 hX (show fnd (pgm m_L_law) 268 = some (269, 5, 0, 1, 0, []) from rfl) rfl ho
set_option maxRecDepth 100000 in
theorem l_269 {d : Nat} {l1 l2 l3 : AV} {st : List AV} {o : Nat} {σ : Sg} {X : Nat} {K : List AV → List AV → Sg → Prop} (hX : 269 ≠ X) (ho : o ≠ 0) : Rq d m_L_law X 269 [vR o, l1, l2, l3] st σ K ↔ Rq d m_L_law X 270 [vR o, l1, l2, l3] (vR o :: st) σ K := k5 hX (show fnd (pgm m_L_law) 269 = some (270, 5, 0, 0, 0, []) from rfl) rfl ho
set_option maxRecDepth 100000 in
theorem l_270 {d : Nat} {l0 l1 l2 : AV} {st : List AV} {x : Int} {σ : Sg} {X : Nat} {K : List AV → List AV → Sg → Prop} (hX : 270 ≠ X)  : Rq d m_L_law X 270 [l0, l1, l2, vI x] st σ K ↔ Rq d m_L_law X 271 [l0, l1, l2, vI x] (vI x :: st) σ K := k3 hX (show fnd (pgm m_L_law) 270 = some (271, 3, 0, 3, 0, []) from rfl) rfl
set_option maxRecDepth 100000 in
theorem l_271 {d : Nat} {l0 l1 l2 l3 : AV} {st : List AV} {σ : Sg} {X : Nat} {K : List AV → List AV → Sg → Prop} (hX : 271 ≠ X)  : Rq d m_L_law X 271 [l0, l1, l2, l3] st σ K ↔ Rq d m_L_law X 272 [l0, l1, l2, l3] (vI 1 :: st) σ K := k0 hX (show fnd (pgm m_L_law) 271 = some (272, 0, 1, 0, 0, []) from rfl)
set_option maxRecDepth 100000 in
theorem l_272 {d : Nat} {l0 l1 l2 l3 : AV} {st : List AV} {a b : Int} {σ : Sg} {X : Nat} {K : List AV → List AV → Sg → Prop} (hX : 272 ≠ X)  : Rq d m_L_law X 272 [l0, l1, l2, l3] (vI b :: vI a :: st) σ K ↔ Rq d m_L_law X 273 [l0, l1, l2, l3] (vI (a + b) :: st) σ K := k10_0 hX (show fnd (pgm m_L_law) 272 = some (273, 10, 0, 0, 0, []) from rfl)
set_option maxRecDepth 100000 in
theorem l_273 {d : Nat} {l0 l1 l2 l3 : AV} {st : List AV} {i : Int} {σ : Sg} {X : Nat} {K : List AV → List AV → Sg → Prop} (hX : 273 ≠ X) (hi : 0 ≤ w32 i ∧ w32 i < σ 999 (-1)) : Rq d m_L_law X 273 [l0, l1, l2, l3] (vI i :: vR 999 :: st) σ K ↔ Rq d m_L_law X 274 [l0, l1, l2, l3] (vI (σ 999 (w32 i)) :: st) σ K := k41 hX (show fnd (pgm m_L_law) 273 = some (274, 41, 0, 0, 0, []) from rfl) hi
set_option maxRecDepth 100000 in
theorem l_274 {d : Nat} {l1 l2 l3 : AV} {st : List AV} {o : Nat} {σ : Sg} {X : Nat} {K : List AV → List AV → Sg → Prop} (hX : 274 ≠ X) (ho : o ≠ 0) : Rq d m_L_law X 274 [vR o, l1, l2, l3] st σ K ↔ Rq d m_L_law X 275 [vR o, l1, l2, l3] (vR o :: st) σ K := k5 hX (show fnd (pgm m_L_law) 274 = some (275, 5, 0, 0, 0, []) from rfl) rfl ho
set_option maxRecDepth 100000 in
theorem l_275 {d : Nat} {l0 l1 l2 : AV} {st : List AV} {x : Int} {σ : Sg} {X : Nat} {K : List AV → List AV → Sg → Prop} (hX : 275 ≠ X)  : Rq d m_L_law X 275 [l0, l1, l2, vI x] st σ K ↔ Rq d m_L_law X 276 [l0, l1, l2, vI x] (vI x :: st) σ K := k3 hX (show fnd (pgm m_L_law) 275 = some (276, 3, 0, 3, 0, []) from rfl) rfl
set_option maxRecDepth 100000 in
theorem l_276 {d : Nat} {l0 l1 l2 l3 : AV} {st : List AV} {σ : Sg} {X : Nat} {K : List AV → List AV → Sg → Prop} (hX : 276 ≠ X)  : Rq d m_L_law X 276 [l0, l1, l2, l3] st σ K ↔ Rq d m_L_law X 277 [l0, l1, l2, l3] (vI 2 :: st) σ K := k0 hX (show fnd (pgm m_L_law) 276 = some (277, 0, 2, 0, 0, []) from rfl)
set_option maxRecDepth 100000 in
theorem l_277 {d : Nat} {l0 l1 l2 l3 : AV} {st : List AV} {a b : Int} {σ : Sg} {X : Nat} {K : List AV → List AV → Sg → Prop} (hX : 277 ≠ X)  : Rq d m_L_law X 277 [l0, l1, l2, l3] (vI b :: vI a :: st) σ K ↔ Rq d m_L_law X 278 [l0, l1, l2, l3] (vI (a + b) :: st) σ K := k10_0 hX (show fnd (pgm m_L_law) 277 = some (278, 10, 0, 0, 0, []) from rfl)
set_option maxRecDepth 100000 in
theorem l_278 {d : Nat} {l0 l1 l2 l3 : AV} {st : List AV} {i : Int} {σ : Sg} {X : Nat} {K : List AV → List AV → Sg → Prop} (hX : 278 ≠ X) (hi : 0 ≤ w32 i ∧ w32 i < σ 999 (-1)) : Rq d m_L_law X 278 [l0, l1, l2, l3] (vI i :: vR 999 :: st) σ K ↔ Rq d m_L_law X 279 [l0, l1, l2, l3] (vI (σ 999 (w32 i)) :: st) σ K := k41 hX (show fnd (pgm m_L_law) 278 = some (279, 41, 0, 0, 0, []) from rfl) hi
set_option maxRecDepth 100000 in
theorem l_279 {d : Nat} {l0 l1 l2 l3 : AV} {st : List AV} {a : Int} {σ : Sg} {X : Nat} {K : List AV → List AV → Sg → Prop} (hX : 279 ≠ X)  : Rq d m_L_law X 279 [l0, l1, l2, l3] (vI a :: st) σ K ↔ if w32 a = 0 then Rq d m_L_law X 286 [l0, l1, l2, l3] st σ K else Rq d m_L_law X 282 [l0, l1, l2, l3] st σ K := k19_0 hX (show fnd (pgm m_L_law) 279 = some (282, 19, 0, 0, 286, []) from rfl)
set_option maxRecDepth 100000 in
theorem l_282 {d : Nat} {l0 l1 l2 l3 : AV} {st : List AV} {σ : Sg} {X : Nat} {K : List AV → List AV → Sg → Prop} (hX : 282 ≠ X)  : Rq d m_L_law X 282 [l0, l1, l2, l3] st σ K ↔ Rq d m_L_law X 283 [l0, l1, l2, l3] (vI 1 :: st) σ K := k0 hX (show fnd (pgm m_L_law) 282 = some (283, 0, 1, 0, 0, []) from rfl)
set_option maxRecDepth 100000 in
theorem l_283 {d : Nat} {l0 l1 l2 l3 : AV} {st : List AV} {σ : Sg} {X : Nat} {K : List AV → List AV → Sg → Prop} (hX : 283 ≠ X)  : Rq d m_L_law X 283 [l0, l1, l2, l3] st σ K ↔ Rq d m_L_law X 287 [l0, l1, l2, l3] st σ K := k21 hX (show fnd (pgm m_L_law) 283 = some (286, 21, 0, 0, 287, []) from rfl)
set_option maxRecDepth 100000 in
theorem l_286 {d : Nat} {l0 l1 l2 l3 : AV} {st : List AV} {σ : Sg} {X : Nat} {K : List AV → List AV → Sg → Prop} (hX : 286 ≠ X)  : Rq d m_L_law X 286 [l0, l1, l2, l3] st σ K ↔ Rq d m_L_law X 287 [l0, l1, l2, l3] (vI 0 :: st) σ K := k0 hX (show fnd (pgm m_L_law) 286 = some (287, 0, 0, 0, 0, []) from rfl)
set_option maxRecDepth 100000 in
theorem l_287 {d : Nat} {l0 l1 l2 l3 : AV} {st : List AV} {o : Nat} {a0 : Int} {a1 : Int} {σ : Sg} {X : Nat} {K : List AV → List AV → Sg → Prop} (hX : 287 ≠ X) (h4 : st.length ≤ 4) (hk : kn σ o = (0, 5)) : Rq d m_L_law X 287 [l0, l1, l2, l3] (vI a1 :: vI a0 :: vR o :: st) σ K ↔ ∃ r σ1, Ev d m_X5_stake [vR o, vI a0, vI a1] σ r σ1 ∧ Rq d m_L_law X 290 [l0, l1, l2, l3] (psh r st) σ1 K := k35 hX (show fnd (pgm m_L_law) 287 = some (290, 35, 23, 55, 3, []) from rfl) ⟨⟨by simp, by simpa using h4⟩, (by simp only [List.take, List.reverse, List.reverseAux, rcv]; rw [if_neg (by decide +kernel)]; exact decide_eq_true hk)⟩
set_option maxRecDepth 100000 in
theorem l_290 {d : Nat} {l0 l1 l3 : AV} {st : List AV} {o : Nat} {σ : Sg} {X : Nat} {K : List AV → List AV → Sg → Prop} (hX : 290 ≠ X) (ho : o ≠ 0) : Rq d m_L_law X 290 [l0, l1, vR o, l3] st σ K ↔ Rq d m_L_law X 291 [l0, l1, vR o, l3] (vR o :: st) σ K := k5 hX (show fnd (pgm m_L_law) 290 = some (291, 5, 0, 2, 0, []) from rfl) rfl ho
set_option maxRecDepth 100000 in
theorem l_291 {d : Nat} {l1 l2 l3 : AV} {st : List AV} {o : Nat} {σ : Sg} {X : Nat} {K : List AV → List AV → Sg → Prop} (hX : 291 ≠ X) (ho : o ≠ 0) : Rq d m_L_law X 291 [vR o, l1, l2, l3] st σ K ↔ Rq d m_L_law X 292 [vR o, l1, l2, l3] (vR o :: st) σ K := k5 hX (show fnd (pgm m_L_law) 291 = some (292, 5, 0, 0, 0, []) from rfl) rfl ho
set_option maxRecDepth 100000 in
theorem l_292 {d : Nat} {l0 l1 l2 : AV} {st : List AV} {x : Int} {σ : Sg} {X : Nat} {K : List AV → List AV → Sg → Prop} (hX : 292 ≠ X)  : Rq d m_L_law X 292 [l0, l1, l2, vI x] st σ K ↔ Rq d m_L_law X 293 [l0, l1, l2, vI x] (vI x :: st) σ K := k3 hX (show fnd (pgm m_L_law) 292 = some (293, 3, 0, 3, 0, []) from rfl) rfl
set_option maxRecDepth 100000 in
theorem l_293 {d : Nat} {l0 l1 l2 l3 : AV} {st : List AV} {σ : Sg} {X : Nat} {K : List AV → List AV → Sg → Prop} (hX : 293 ≠ X)  : Rq d m_L_law X 293 [l0, l1, l2, l3] st σ K ↔ Rq d m_L_law X 294 [l0, l1, l2, l3] (vI 1 :: st) σ K := k0 hX (show fnd (pgm m_L_law) 293 = some (294, 0, 1, 0, 0, []) from rfl)
set_option maxRecDepth 100000 in
theorem l_294 {d : Nat} {l0 l1 l2 l3 : AV} {st : List AV} {a b : Int} {σ : Sg} {X : Nat} {K : List AV → List AV → Sg → Prop} (hX : 294 ≠ X)  : Rq d m_L_law X 294 [l0, l1, l2, l3] (vI b :: vI a :: st) σ K ↔ Rq d m_L_law X 295 [l0, l1, l2, l3] (vI (a + b) :: st) σ K := k10_0 hX (show fnd (pgm m_L_law) 294 = some (295, 10, 0, 0, 0, []) from rfl)
set_option maxRecDepth 100000 in
theorem l_295 {d : Nat} {l0 l1 l2 l3 : AV} {st : List AV} {i : Int} {σ : Sg} {X : Nat} {K : List AV → List AV → Sg → Prop} (hX : 295 ≠ X) (hi : 0 ≤ w32 i ∧ w32 i < σ 999 (-1)) : Rq d m_L_law X 295 [l0, l1, l2, l3] (vI i :: vR 999 :: st) σ K ↔ Rq d m_L_law X 296 [l0, l1, l2, l3] (vI (σ 999 (w32 i)) :: st) σ K := k41 hX (show fnd (pgm m_L_law) 295 = some (296, 41, 0, 0, 0, []) from rfl) hi
set_option maxRecDepth 100000 in
theorem l_296 {d : Nat} {l1 l2 l3 : AV} {st : List AV} {o : Nat} {σ : Sg} {X : Nat} {K : List AV → List AV → Sg → Prop} (hX : 296 ≠ X) (ho : o ≠ 0) : Rq d m_L_law X 296 [vR o, l1, l2, l3] st σ K ↔ Rq d m_L_law X 297 [vR o, l1, l2, l3] (vR o :: st) σ K := k5 hX (show fnd (pgm m_L_law) 296 = some (297, 5, 0, 0, 0, []) from rfl) rfl ho
set_option maxRecDepth 100000 in
theorem l_297 {d : Nat} {l0 l1 l2 : AV} {st : List AV} {x : Int} {σ : Sg} {X : Nat} {K : List AV → List AV → Sg → Prop} (hX : 297 ≠ X)  : Rq d m_L_law X 297 [l0, l1, l2, vI x] st σ K ↔ Rq d m_L_law X 298 [l0, l1, l2, vI x] (vI x :: st) σ K := k3 hX (show fnd (pgm m_L_law) 297 = some (298, 3, 0, 3, 0, []) from rfl) rfl
set_option maxRecDepth 100000 in
theorem l_298 {d : Nat} {l0 l1 l2 l3 : AV} {st : List AV} {σ : Sg} {X : Nat} {K : List AV → List AV → Sg → Prop} (hX : 298 ≠ X)  : Rq d m_L_law X 298 [l0, l1, l2, l3] st σ K ↔ Rq d m_L_law X 299 [l0, l1, l2, l3] (vI 2 :: st) σ K := k0 hX (show fnd (pgm m_L_law) 298 = some (299, 0, 2, 0, 0, []) from rfl)
set_option maxRecDepth 100000 in
theorem l_299 {d : Nat} {l0 l1 l2 l3 : AV} {st : List AV} {a b : Int} {σ : Sg} {X : Nat} {K : List AV → List AV → Sg → Prop} (hX : 299 ≠ X)  : Rq d m_L_law X 299 [l0, l1, l2, l3] (vI b :: vI a :: st) σ K ↔ Rq d m_L_law X 300 [l0, l1, l2, l3] (vI (a + b) :: st) σ K := k10_0 hX (show fnd (pgm m_L_law) 299 = some (300, 10, 0, 0, 0, []) from rfl)
set_option maxRecDepth 100000 in
theorem l_300 {d : Nat} {l0 l1 l2 l3 : AV} {st : List AV} {i : Int} {σ : Sg} {X : Nat} {K : List AV → List AV → Sg → Prop} (hX : 300 ≠ X) (hi : 0 ≤ w32 i ∧ w32 i < σ 999 (-1)) : Rq d m_L_law X 300 [l0, l1, l2, l3] (vI i :: vR 999 :: st) σ K ↔ Rq d m_L_law X 301 [l0, l1, l2, l3] (vI (σ 999 (w32 i)) :: st) σ K := k41 hX (show fnd (pgm m_L_law) 300 = some (301, 41, 0, 0, 0, []) from rfl) hi
set_option maxRecDepth 100000 in
theorem l_301 {d : Nat} {l0 l1 l2 l3 : AV} {st : List AV} {a : Int} {σ : Sg} {X : Nat} {K : List AV → List AV → Sg → Prop} (hX : 301 ≠ X)  : Rq d m_L_law X 301 [l0, l1, l2, l3] (vI a :: st) σ K ↔ if w32 a = 0 then Rq d m_L_law X 308 [l0, l1, l2, l3] st σ K else Rq d m_L_law X 304 [l0, l1, l2, l3] st σ K := k19_0 hX (show fnd (pgm m_L_law) 301 = some (304, 19, 0, 0, 308, []) from rfl)
set_option maxRecDepth 100000 in
theorem l_304 {d : Nat} {l0 l1 l2 l3 : AV} {st : List AV} {σ : Sg} {X : Nat} {K : List AV → List AV → Sg → Prop} (hX : 304 ≠ X)  : Rq d m_L_law X 304 [l0, l1, l2, l3] st σ K ↔ Rq d m_L_law X 305 [l0, l1, l2, l3] (vI 1 :: st) σ K := k0 hX (show fnd (pgm m_L_law) 304 = some (305, 0, 1, 0, 0, []) from rfl)
set_option maxRecDepth 100000 in
theorem l_305 {d : Nat} {l0 l1 l2 l3 : AV} {st : List AV} {σ : Sg} {X : Nat} {K : List AV → List AV → Sg → Prop} (hX : 305 ≠ X)  : Rq d m_L_law X 305 [l0, l1, l2, l3] st σ K ↔ Rq d m_L_law X 309 [l0, l1, l2, l3] st σ K := k21 hX (show fnd (pgm m_L_law) 305 = some (308, 21, 0, 0, 309, []) from rfl)
set_option maxRecDepth 100000 in
theorem l_308 {d : Nat} {l0 l1 l2 l3 : AV} {st : List AV} {σ : Sg} {X : Nat} {K : List AV → List AV → Sg → Prop} (hX : 308 ≠ X)  : Rq d m_L_law X 308 [l0, l1, l2, l3] st σ K ↔ Rq d m_L_law X 309 [l0, l1, l2, l3] (vI 0 :: st) σ K := k0 hX (show fnd (pgm m_L_law) 308 = some (309, 0, 0, 0, 0, []) from rfl)
set_option maxRecDepth 100000 in
theorem l_309 {d : Nat} {l0 l1 l2 l3 : AV} {st : List AV} {o : Nat} {a0 : Int} {a1 : Int} {σ : Sg} {X : Nat} {K : List AV → List AV → Sg → Prop} (hX : 309 ≠ X) (h4 : st.length ≤ 4) (hk : kn σ o = (0, 6)) : Rq d m_L_law X 309 [l0, l1, l2, l3] (vI a1 :: vI a0 :: vR o :: st) σ K ↔ ∃ r σ1, Ev d m_X6_stake [vR o, vI a0, vI a1] σ r σ1 ∧ Rq d m_L_law X 312 [l0, l1, l2, l3] (psh r st) σ1 K := k35 hX (show fnd (pgm m_L_law) 309 = some (312, 35, 27, 118, 3, []) from rfl) ⟨⟨by simp, by simpa using h4⟩, (by simp only [List.take, List.reverse, List.reverseAux, rcv]; rw [if_neg (by decide +kernel)]; exact decide_eq_true hk)⟩
set_option maxRecDepth 100000 in
theorem l_312 {d : Nat} {l0 l1 l2 l3 : AV} {st : List AV} {a b : Int} {σ : Sg} {X : Nat} {K : List AV → List AV → Sg → Prop} (hX : 312 ≠ X)  : Rq d m_L_law X 312 [l0, l1, l2, l3] (vI b :: vI a :: st) σ K ↔ if w32 a = w32 b then Rq d m_L_law X 1364 [l0, l1, l2, l3] st σ K else Rq d m_L_law X 315 [l0, l1, l2, l3] st σ K := k20_0 hX (show fnd (pgm m_L_law) 312 = some (315, 20, 0, 0, 1364, []) from rfl)
set_option maxRecDepth 100000 in
theorem l_315 {d : Nat} {l0 l1 l2 l3 : AV} {st : List AV} {σ : Sg} {X : Nat} {K : List AV → List AV → Sg → Prop} (hX : 315 ≠ X)  : Rq d m_L_law X 315 [l0, l1, l2, l3] st σ K ↔ Rq d m_L_law X 316 [l0, l1, l2, l3] (vI 0 :: st) σ K := k0 hX (show fnd (pgm m_L_law) 315 = some (316, 0, 0, 0, 0, []) from rfl)
set_option maxRecDepth 100000 in
theorem l_317 {d : Nat} {l0 l2 l3 : AV} {st : List AV} {o : Nat} {σ : Sg} {X : Nat} {K : List AV → List AV → Sg → Prop} (hX : 317 ≠ X) (ho : o ≠ 0) : Rq d m_L_law X 317 [l0, vR o, l2, l3] st σ K ↔ Rq d m_L_law X 318 [l0, vR o, l2, l3] (vR o :: st) σ K := k5 hX (show fnd (pgm m_L_law) 317 = some (318, 5, 0, 1, 0, []) from rfl) rfl ho
set_option maxRecDepth 100000 in
theorem l_318 {d : Nat} {l1 l2 l3 : AV} {st : List AV} {o : Nat} {σ : Sg} {X : Nat} {K : List AV → List AV → Sg → Prop} (hX : 318 ≠ X) (ho : o ≠ 0) : Rq d m_L_law X 318 [vR o, l1, l2, l3] st σ K ↔ Rq d m_L_law X 319 [vR o, l1, l2, l3] (vR o :: st) σ K := k5 hX (show fnd (pgm m_L_law) 318 = some (319, 5, 0, 0, 0, []) from rfl) rfl ho
set_option maxRecDepth 100000 in
theorem l_319 {d : Nat} {l0 l1 l2 : AV} {st : List AV} {x : Int} {σ : Sg} {X : Nat} {K : List AV → List AV → Sg → Prop} (hX : 319 ≠ X)  : Rq d m_L_law X 319 [l0, l1, l2, vI x] st σ K ↔ Rq d m_L_law X 320 [l0, l1, l2, vI x] (vI x :: st) σ K := k3 hX (show fnd (pgm m_L_law) 319 = some (320, 3, 0, 3, 0, []) from rfl) rfl
set_option maxRecDepth 100000 in
theorem l_320 {d : Nat} {l0 l1 l2 l3 : AV} {st : List AV} {σ : Sg} {X : Nat} {K : List AV → List AV → Sg → Prop} (hX : 320 ≠ X)  : Rq d m_L_law X 320 [l0, l1, l2, l3] st σ K ↔ Rq d m_L_law X 321 [l0, l1, l2, l3] (vI 1 :: st) σ K := k0 hX (show fnd (pgm m_L_law) 320 = some (321, 0, 1, 0, 0, []) from rfl)
set_option maxRecDepth 100000 in
theorem l_321 {d : Nat} {l0 l1 l2 l3 : AV} {st : List AV} {a b : Int} {σ : Sg} {X : Nat} {K : List AV → List AV → Sg → Prop} (hX : 321 ≠ X)  : Rq d m_L_law X 321 [l0, l1, l2, l3] (vI b :: vI a :: st) σ K ↔ Rq d m_L_law X 322 [l0, l1, l2, l3] (vI (a + b) :: st) σ K := k10_0 hX (show fnd (pgm m_L_law) 321 = some (322, 10, 0, 0, 0, []) from rfl)
set_option maxRecDepth 100000 in
theorem l_322 {d : Nat} {l0 l1 l2 l3 : AV} {st : List AV} {i : Int} {σ : Sg} {X : Nat} {K : List AV → List AV → Sg → Prop} (hX : 322 ≠ X) (hi : 0 ≤ w32 i ∧ w32 i < σ 999 (-1)) : Rq d m_L_law X 322 [l0, l1, l2, l3] (vI i :: vR 999 :: st) σ K ↔ Rq d m_L_law X 323 [l0, l1, l2, l3] (vI (σ 999 (w32 i)) :: st) σ K := k41 hX (show fnd (pgm m_L_law) 322 = some (323, 41, 0, 0, 0, []) from rfl) hi
set_option maxRecDepth 100000 in
theorem l_323 {d : Nat} {l1 l2 l3 : AV} {st : List AV} {o : Nat} {σ : Sg} {X : Nat} {K : List AV → List AV → Sg → Prop} (hX : 323 ≠ X) (ho : o ≠ 0) : Rq d m_L_law X 323 [vR o, l1, l2, l3] st σ K ↔ Rq d m_L_law X 324 [vR o, l1, l2, l3] (vR o :: st) σ K := k5 hX (show fnd (pgm m_L_law) 323 = some (324, 5, 0, 0, 0, []) from rfl) rfl ho
set_option maxRecDepth 100000 in
theorem l_324 {d : Nat} {l0 l1 l2 : AV} {st : List AV} {x : Int} {σ : Sg} {X : Nat} {K : List AV → List AV → Sg → Prop} (hX : 324 ≠ X)  : Rq d m_L_law X 324 [l0, l1, l2, vI x] st σ K ↔ Rq d m_L_law X 325 [l0, l1, l2, vI x] (vI x :: st) σ K := k3 hX (show fnd (pgm m_L_law) 324 = some (325, 3, 0, 3, 0, []) from rfl) rfl
set_option maxRecDepth 100000 in
theorem l_325 {d : Nat} {l0 l1 l2 l3 : AV} {st : List AV} {σ : Sg} {X : Nat} {K : List AV → List AV → Sg → Prop} (hX : 325 ≠ X)  : Rq d m_L_law X 325 [l0, l1, l2, l3] st σ K ↔ Rq d m_L_law X 326 [l0, l1, l2, l3] (vI 2 :: st) σ K := k0 hX (show fnd (pgm m_L_law) 325 = some (326, 0, 2, 0, 0, []) from rfl)
set_option maxRecDepth 100000 in
theorem l_326 {d : Nat} {l0 l1 l2 l3 : AV} {st : List AV} {a b : Int} {σ : Sg} {X : Nat} {K : List AV → List AV → Sg → Prop} (hX : 326 ≠ X)  : Rq d m_L_law X 326 [l0, l1, l2, l3] (vI b :: vI a :: st) σ K ↔ Rq d m_L_law X 327 [l0, l1, l2, l3] (vI (a + b) :: st) σ K := k10_0 hX (show fnd (pgm m_L_law) 326 = some (327, 10, 0, 0, 0, []) from rfl)
set_option maxRecDepth 100000 in
theorem l_327 {d : Nat} {l0 l1 l2 l3 : AV} {st : List AV} {i : Int} {σ : Sg} {X : Nat} {K : List AV → List AV → Sg → Prop} (hX : 327 ≠ X) (hi : 0 ≤ w32 i ∧ w32 i < σ 999 (-1)) : Rq d m_L_law X 327 [l0, l1, l2, l3] (vI i :: vR 999 :: st) σ K ↔ Rq d m_L_law X 328 [l0, l1, l2, l3] (vI (σ 999 (w32 i)) :: st) σ K := k41 hX (show fnd (pgm m_L_law) 327 = some (328, 41, 0, 0, 0, []) from rfl) hi
set_option maxRecDepth 100000 in
theorem l_328 {d : Nat} {l1 l2 l3 : AV} {st : List AV} {o : Nat} {σ : Sg} {X : Nat} {K : List AV → List AV → Sg → Prop} (hX : 328 ≠ X) (ho : o ≠ 0) : Rq d m_L_law X 328 [vR o, l1, l2, l3] st σ K ↔ Rq d m_L_law X 329 [vR o, l1, l2, l3] (vR o :: st) σ K := k5 hX (show fnd (pgm m_L_law) 328 = some (329, 5, 0, 0, 0, []) from rfl) rfl ho
set_option maxRecDepth 100000 in
theorem l_329 {d : Nat} {l0 l1 l2 : AV} {st : List AV} {x : Int} {σ : Sg} {X : Nat} {K : List AV → List AV → Sg → Prop} (hX : 329 ≠ X)  : Rq d m_L_law X 329 [l0, l1, l2, vI x] st σ K ↔ Rq d m_L_law X 330 [l0, l1, l2, vI x] (vI x :: st) σ K := k3 hX (show fnd (pgm m_L_law) 329 = some (330, 3, 0, 3, 0, []) from rfl) rfl
set_option maxRecDepth 100000 in
theorem l_330 {d : Nat} {l0 l1 l2 l3 : AV} {st : List AV} {σ : Sg} {X : Nat} {K : List AV → List AV → Sg → Prop} (hX : 330 ≠ X)  : Rq d m_L_law X 330 [l0, l1, l2, l3] st σ K ↔ Rq d m_L_law X 331 [l0, l1, l2, l3] (vI 3 :: st) σ K := k0 hX (show fnd (pgm m_L_law) 330 = some (331, 0, 3, 0, 0, []) from rfl)
set_option maxRecDepth 100000 in
theorem l_331 {d : Nat} {l0 l1 l2 l3 : AV} {st : List AV} {a b : Int} {σ : Sg} {X : Nat} {K : List AV → List AV → Sg → Prop} (hX : 331 ≠ X)  : Rq d m_L_law X 331 [l0, l1, l2, l3] (vI b :: vI a :: st) σ K ↔ Rq d m_L_law X 332 [l0, l1, l2, l3] (vI (a + b) :: st) σ K := k10_0 hX (show fnd (pgm m_L_law) 331 = some (332, 10, 0, 0, 0, []) from rfl)
set_option maxRecDepth 100000 in
theorem l_332 {d : Nat} {l0 l1 l2 l3 : AV} {st : List AV} {i : Int} {σ : Sg} {X : Nat} {K : List AV → List AV → Sg → Prop} (hX : 332 ≠ X) (hi : 0 ≤ w32 i ∧ w32 i < σ 999 (-1)) : Rq d m_L_law X 332 [l0, l1, l2, l3] (vI i :: vR 999 :: st) σ K ↔ Rq d m_L_law X 333 [l0, l1, l2, l3] (vI (σ 999 (w32 i)) :: st) σ K := k41 hX (show fnd (pgm m_L_law) 332 = some (333, 41, 0, 0, 0, []) from rfl) hi
set_option maxRecDepth 100000 in
theorem l_333 {d : Nat} {l1 l2 l3 : AV} {st : List AV} {o : Nat} {σ : Sg} {X : Nat} {K : List AV → List AV → Sg → Prop} (hX : 333 ≠ X) (ho : o ≠ 0) : Rq d m_L_law X 333 [vR o, l1, l2, l3] st σ K ↔ Rq d m_L_law X 334 [vR o, l1, l2, l3] (vR o :: st) σ K := k5 hX (show fnd (pgm m_L_law) 333 = some (334, 5, 0, 0, 0, []) from rfl) rfl ho
set_option maxRecDepth 100000 in
theorem l_334 {d : Nat} {l0 l1 l2 : AV} {st : List AV} {x : Int} {σ : Sg} {X : Nat} {K : List AV → List AV → Sg → Prop} (hX : 334 ≠ X)  : Rq d m_L_law X 334 [l0, l1, l2, vI x] st σ K ↔ Rq d m_L_law X 335 [l0, l1, l2, vI x] (vI x :: st) σ K := k3 hX (show fnd (pgm m_L_law) 334 = some (335, 3, 0, 3, 0, []) from rfl) rfl
set_option maxRecDepth 100000 in
theorem l_335 {d : Nat} {l0 l1 l2 l3 : AV} {st : List AV} {σ : Sg} {X : Nat} {K : List AV → List AV → Sg → Prop} (hX : 335 ≠ X)  : Rq d m_L_law X 335 [l0, l1, l2, l3] st σ K ↔ Rq d m_L_law X 336 [l0, l1, l2, l3] (vI 4 :: st) σ K := k0 hX (show fnd (pgm m_L_law) 335 = some (336, 0, 4, 0, 0, []) from rfl)
set_option maxRecDepth 100000 in
theorem l_336 {d : Nat} {l0 l1 l2 l3 : AV} {st : List AV} {a b : Int} {σ : Sg} {X : Nat} {K : List AV → List AV → Sg → Prop} (hX : 336 ≠ X)  : Rq d m_L_law X 336 [l0, l1, l2, l3] (vI b :: vI a :: st) σ K ↔ Rq d m_L_law X 337 [l0, l1, l2, l3] (vI (a + b) :: st) σ K := k10_0 hX (show fnd (pgm m_L_law) 336 = some (337, 10, 0, 0, 0, []) from rfl)
set_option maxRecDepth 100000 in
theorem l_337 {d : Nat} {l0 l1 l2 l3 : AV} {st : List AV} {i : Int} {σ : Sg} {X : Nat} {K : List AV → List AV → Sg → Prop} (hX : 337 ≠ X) (hi : 0 ≤ w32 i ∧ w32 i < σ 999 (-1)) : Rq d m_L_law X 337 [l0, l1, l2, l3] (vI i :: vR 999 :: st) σ K ↔ Rq d m_L_law X 338 [l0, l1, l2, l3] (vI (σ 999 (w32 i)) :: st) σ K := k41 hX (show fnd (pgm m_L_law) 337 = some (338, 41, 0, 0, 0, []) from rfl) hi
set_option maxRecDepth 100000 in
theorem l_338 {d : Nat} {l1 l2 l3 : AV} {st : List AV} {o : Nat} {σ : Sg} {X : Nat} {K : List AV → List AV → Sg → Prop} (hX : 338 ≠ X) (ho : o ≠ 0) : Rq d m_L_law X 338 [vR o, l1, l2, l3] st σ K ↔ Rq d m_L_law X 339 [vR o, l1, l2, l3] (vR o :: st) σ K := k5 hX (show fnd (pgm m_L_law) 338 = some (339, 5, 0, 0, 0, []) from rfl) rfl ho
set_option maxRecDepth 100000 in
theorem l_339 {d : Nat} {l0 l1 l2 : AV} {st : List AV} {x : Int} {σ : Sg} {X : Nat} {K : List AV → List AV → Sg → Prop} (hX : 339 ≠ X)  : Rq d m_L_law X 339 [l0, l1, l2, vI x] st σ K ↔ Rq d m_L_law X 340 [l0, l1, l2, vI x] (vI x :: st) σ K := k3 hX (show fnd (pgm m_L_law) 339 = some (340, 3, 0, 3, 0, []) from rfl) rfl
set_option maxRecDepth 100000 in
theorem l_340 {d : Nat} {l0 l1 l2 l3 : AV} {st : List AV} {σ : Sg} {X : Nat} {K : List AV → List AV → Sg → Prop} (hX : 340 ≠ X)  : Rq d m_L_law X 340 [l0, l1, l2, l3] st σ K ↔ Rq d m_L_law X 341 [l0, l1, l2, l3] (vI 5 :: st) σ K := k0 hX (show fnd (pgm m_L_law) 340 = some (341, 0, 5, 0, 0, []) from rfl)
set_option maxRecDepth 100000 in
theorem l_341 {d : Nat} {l0 l1 l2 l3 : AV} {st : List AV} {a b : Int} {σ : Sg} {X : Nat} {K : List AV → List AV → Sg → Prop} (hX : 341 ≠ X)  : Rq d m_L_law X 341 [l0, l1, l2, l3] (vI b :: vI a :: st) σ K ↔ Rq d m_L_law X 342 [l0, l1, l2, l3] (vI (a + b) :: st) σ K := k10_0 hX (show fnd (pgm m_L_law) 341 = some (342, 10, 0, 0, 0, []) from rfl)
set_option maxRecDepth 100000 in
theorem l_342 {d : Nat} {l0 l1 l2 l3 : AV} {st : List AV} {i : Int} {σ : Sg} {X : Nat} {K : List AV → List AV → Sg → Prop} (hX : 342 ≠ X) (hi : 0 ≤ w32 i ∧ w32 i < σ 999 (-1)) : Rq d m_L_law X 342 [l0, l1, l2, l3] (vI i :: vR 999 :: st) σ K ↔ Rq d m_L_law X 343 [l0, l1, l2, l3] (vI (σ 999 (w32 i)) :: st) σ K := k41 hX (show fnd (pgm m_L_law) 342 = some (343, 41, 0, 0, 0, []) from rfl) hi
set_option maxRecDepth 100000 in
theorem l_343 {d : Nat} {l0 l1 l2 l3 : AV} {st : List AV} {a : Int} {σ : Sg} {X : Nat} {K : List AV → List AV → Sg → Prop} (hX : 343 ≠ X)  : Rq d m_L_law X 343 [l0, l1, l2, l3] (vI a :: st) σ K ↔ if w32 a = 0 then Rq d m_L_law X 350 [l0, l1, l2, l3] st σ K else Rq d m_L_law X 346 [l0, l1, l2, l3] st σ K := k19_0 hX (show fnd (pgm m_L_law) 343 = some (346, 19, 0, 0, 350, []) from rfl)
set_option maxRecDepth 100000 in
theorem l_346 {d : Nat} {l0 l1 l2 l3 : AV} {st : List AV} {σ : Sg} {X : Nat} {K : List AV → List AV → Sg → Prop} (hX : 346 ≠ X)  : Rq d m_L_law X 346 [l0, l1, l2, l3] st σ K ↔ Rq d m_L_law X 347 [l0, l1, l2, l3] (vI 1 :: st) σ K := k0 hX (show fnd (pgm m_L_law) 346 = some (347, 0, 1, 0, 0, []) from rfl)
set_option maxRecDepth 100000 in
theorem l_347 {d : Nat} {l0 l1 l2 l3 : AV} {st : List AV} {σ : Sg} {X : Nat} {K : List AV → List AV → Sg → Prop} (hX : 347 ≠ X)  : Rq d m_L_law X 347 [l0, l1, l2, l3] st σ K ↔ Rq d m_L_law X 351 [l0, l1, l2, l3] st σ K := k21 hX (show fnd (pgm m_L_law) 347 = some (350, 21, 0, 0, 351, []) from rfl)
set_option maxRecDepth 100000 in
theorem l_350 {d : Nat} {l0 l1 l2 l3 : AV} {st : List AV} {σ : Sg} {X : Nat} {K : List AV → List AV → Sg → Prop} (hX : 350 ≠ X)  : Rq d m_L_law X 350 [l0, l1, l2, l3] st σ K ↔ Rq d m_L_law X 351 [l0, l1, l2, l3] (vI 0 :: st) σ K := k0 hX (show fnd (pgm m_L_law) 350 = some (351, 0, 0, 0, 0, []) from rfl)
set_option maxRecDepth 100000 in
theorem l_351 {d : Nat} {l0 l1 l2 l3 : AV} {st : List AV} {o : Nat} {a0 : Int} {a1 : Int} {a2 : Int} {a3 : Int} {a4 : Int} {σ : Sg} {X : Nat} {K : List AV → List AV → Sg → Prop} (hX : 351 ≠ X) (h4 : st.length ≤ 4) (hk : kn σ o = (0, 5)) : Rq d m_L_law X 351 [l0, l1, l2, l3] (vI a4 :: vI a3 :: vI a2 :: vI a1 :: vI a0 :: vR o :: st) σ K ↔ ∃ r σ1, Ev d m_X5_night [vR o, vI a0, vI a1, vI a2, vI a3, vI a4] σ r σ1 ∧ Rq d m_L_law X 354 [l0, l1, l2, l3] (psh r st) σ1 K := k35 hX (show fnd (pgm m_L_law) 351 = some (354, 35, 28, 56, 6, []) from rfl) ⟨⟨by simp, by simpa using h4⟩, (by simp only [List.take, List.reverse, List.reverseAux, rcv]; rw [if_neg (by decide +kernel)]; exact decide_eq_true hk)⟩
set_option maxRecDepth 100000 in
theorem l_354 {d : Nat} {l0 l1 l3 : AV} {st : List AV} {o : Nat} {σ : Sg} {X : Nat} {K : List AV → List AV → Sg → Prop} (hX : 354 ≠ X) (ho : o ≠ 0) : Rq d m_L_law X 354 [l0, l1, vR o, l3] st σ K ↔ Rq d m_L_law X 355 [l0, l1, vR o, l3] (vR o :: st) σ K := k5 hX (show fnd (pgm m_L_law) 354 = some (355, 5, 0, 2, 0, []) from rfl) rfl ho
set_option maxRecDepth 100000 in
theorem l_355 {d : Nat} {l1 l2 l3 : AV} {st : List AV} {o : Nat} {σ : Sg} {X : Nat} {K : List AV → List AV → Sg → Prop} (hX : 355 ≠ X) (ho : o ≠ 0) : Rq d m_L_law X 355 [vR o, l1, l2, l3] st σ K ↔ Rq d m_L_law X 356 [vR o, l1, l2, l3] (vR o :: st) σ K := k5 hX (show fnd (pgm m_L_law) 355 = some (356, 5, 0, 0, 0, []) from rfl) rfl ho
set_option maxRecDepth 100000 in
theorem l_356 {d : Nat} {l0 l1 l2 : AV} {st : List AV} {x : Int} {σ : Sg} {X : Nat} {K : List AV → List AV → Sg → Prop} (hX : 356 ≠ X)  : Rq d m_L_law X 356 [l0, l1, l2, vI x] st σ K ↔ Rq d m_L_law X 357 [l0, l1, l2, vI x] (vI x :: st) σ K := k3 hX (show fnd (pgm m_L_law) 356 = some (357, 3, 0, 3, 0, []) from rfl) rfl
set_option maxRecDepth 100000 in
theorem l_357 {d : Nat} {l0 l1 l2 l3 : AV} {st : List AV} {σ : Sg} {X : Nat} {K : List AV → List AV → Sg → Prop} (hX : 357 ≠ X)  : Rq d m_L_law X 357 [l0, l1, l2, l3] st σ K ↔ Rq d m_L_law X 358 [l0, l1, l2, l3] (vI 1 :: st) σ K := k0 hX (show fnd (pgm m_L_law) 357 = some (358, 0, 1, 0, 0, []) from rfl)
set_option maxRecDepth 100000 in
theorem l_358 {d : Nat} {l0 l1 l2 l3 : AV} {st : List AV} {a b : Int} {σ : Sg} {X : Nat} {K : List AV → List AV → Sg → Prop} (hX : 358 ≠ X)  : Rq d m_L_law X 358 [l0, l1, l2, l3] (vI b :: vI a :: st) σ K ↔ Rq d m_L_law X 359 [l0, l1, l2, l3] (vI (a + b) :: st) σ K := k10_0 hX (show fnd (pgm m_L_law) 358 = some (359, 10, 0, 0, 0, []) from rfl)
set_option maxRecDepth 100000 in
theorem l_359 {d : Nat} {l0 l1 l2 l3 : AV} {st : List AV} {i : Int} {σ : Sg} {X : Nat} {K : List AV → List AV → Sg → Prop} (hX : 359 ≠ X) (hi : 0 ≤ w32 i ∧ w32 i < σ 999 (-1)) : Rq d m_L_law X 359 [l0, l1, l2, l3] (vI i :: vR 999 :: st) σ K ↔ Rq d m_L_law X 360 [l0, l1, l2, l3] (vI (σ 999 (w32 i)) :: st) σ K := k41 hX (show fnd (pgm m_L_law) 359 = some (360, 41, 0, 0, 0, []) from rfl) hi
set_option maxRecDepth 100000 in
theorem l_360 {d : Nat} {l1 l2 l3 : AV} {st : List AV} {o : Nat} {σ : Sg} {X : Nat} {K : List AV → List AV → Sg → Prop} (hX : 360 ≠ X) (ho : o ≠ 0) : Rq d m_L_law X 360 [vR o, l1, l2, l3] st σ K ↔ Rq d m_L_law X 361 [vR o, l1, l2, l3] (vR o :: st) σ K := k5 hX (show fnd (pgm m_L_law) 360 = some (361, 5, 0, 0, 0, []) from rfl) rfl ho
set_option maxRecDepth 100000 in
theorem l_361 {d : Nat} {l0 l1 l2 : AV} {st : List AV} {x : Int} {σ : Sg} {X : Nat} {K : List AV → List AV → Sg → Prop} (hX : 361 ≠ X)  : Rq d m_L_law X 361 [l0, l1, l2, vI x] st σ K ↔ Rq d m_L_law X 362 [l0, l1, l2, vI x] (vI x :: st) σ K := k3 hX (show fnd (pgm m_L_law) 361 = some (362, 3, 0, 3, 0, []) from rfl) rfl
set_option maxRecDepth 100000 in
theorem l_362 {d : Nat} {l0 l1 l2 l3 : AV} {st : List AV} {σ : Sg} {X : Nat} {K : List AV → List AV → Sg → Prop} (hX : 362 ≠ X)  : Rq d m_L_law X 362 [l0, l1, l2, l3] st σ K ↔ Rq d m_L_law X 363 [l0, l1, l2, l3] (vI 2 :: st) σ K := k0 hX (show fnd (pgm m_L_law) 362 = some (363, 0, 2, 0, 0, []) from rfl)
set_option maxRecDepth 100000 in
theorem l_363 {d : Nat} {l0 l1 l2 l3 : AV} {st : List AV} {a b : Int} {σ : Sg} {X : Nat} {K : List AV → List AV → Sg → Prop} (hX : 363 ≠ X)  : Rq d m_L_law X 363 [l0, l1, l2, l3] (vI b :: vI a :: st) σ K ↔ Rq d m_L_law X 364 [l0, l1, l2, l3] (vI (a + b) :: st) σ K := k10_0 hX (show fnd (pgm m_L_law) 363 = some (364, 10, 0, 0, 0, []) from rfl)
set_option maxRecDepth 100000 in
theorem l_364 {d : Nat} {l0 l1 l2 l3 : AV} {st : List AV} {i : Int} {σ : Sg} {X : Nat} {K : List AV → List AV → Sg → Prop} (hX : 364 ≠ X) (hi : 0 ≤ w32 i ∧ w32 i < σ 999 (-1)) : Rq d m_L_law X 364 [l0, l1, l2, l3] (vI i :: vR 999 :: st) σ K ↔ Rq d m_L_law X 365 [l0, l1, l2, l3] (vI (σ 999 (w32 i)) :: st) σ K := k41 hX (show fnd (pgm m_L_law) 364 = some (365, 41, 0, 0, 0, []) from rfl) hi
set_option maxRecDepth 100000 in
theorem l_365 {d : Nat} {l1 l2 l3 : AV} {st : List AV} {o : Nat} {σ : Sg} {X : Nat} {K : List AV → List AV → Sg → Prop} (hX : 365 ≠ X) (ho : o ≠ 0) : Rq d m_L_law X 365 [vR o, l1, l2, l3] st σ K ↔ Rq d m_L_law X 366 [vR o, l1, l2, l3] (vR o :: st) σ K := k5 hX (show fnd (pgm m_L_law) 365 = some (366, 5, 0, 0, 0, []) from rfl) rfl ho
set_option maxRecDepth 100000 in
theorem l_366 {d : Nat} {l0 l1 l2 : AV} {st : List AV} {x : Int} {σ : Sg} {X : Nat} {K : List AV → List AV → Sg → Prop} (hX : 366 ≠ X)  : Rq d m_L_law X 366 [l0, l1, l2, vI x] st σ K ↔ Rq d m_L_law X 367 [l0, l1, l2, vI x] (vI x :: st) σ K := k3 hX (show fnd (pgm m_L_law) 366 = some (367, 3, 0, 3, 0, []) from rfl) rfl
set_option maxRecDepth 100000 in
theorem l_367 {d : Nat} {l0 l1 l2 l3 : AV} {st : List AV} {σ : Sg} {X : Nat} {K : List AV → List AV → Sg → Prop} (hX : 367 ≠ X)  : Rq d m_L_law X 367 [l0, l1, l2, l3] st σ K ↔ Rq d m_L_law X 368 [l0, l1, l2, l3] (vI 3 :: st) σ K := k0 hX (show fnd (pgm m_L_law) 367 = some (368, 0, 3, 0, 0, []) from rfl)
set_option maxRecDepth 100000 in
theorem l_368 {d : Nat} {l0 l1 l2 l3 : AV} {st : List AV} {a b : Int} {σ : Sg} {X : Nat} {K : List AV → List AV → Sg → Prop} (hX : 368 ≠ X)  : Rq d m_L_law X 368 [l0, l1, l2, l3] (vI b :: vI a :: st) σ K ↔ Rq d m_L_law X 369 [l0, l1, l2, l3] (vI (a + b) :: st) σ K := k10_0 hX (show fnd (pgm m_L_law) 368 = some (369, 10, 0, 0, 0, []) from rfl)
set_option maxRecDepth 100000 in
theorem l_369 {d : Nat} {l0 l1 l2 l3 : AV} {st : List AV} {i : Int} {σ : Sg} {X : Nat} {K : List AV → List AV → Sg → Prop} (hX : 369 ≠ X) (hi : 0 ≤ w32 i ∧ w32 i < σ 999 (-1)) : Rq d m_L_law X 369 [l0, l1, l2, l3] (vI i :: vR 999 :: st) σ K ↔ Rq d m_L_law X 370 [l0, l1, l2, l3] (vI (σ 999 (w32 i)) :: st) σ K := k41 hX (show fnd (pgm m_L_law) 369 = some (370, 41, 0, 0, 0, []) from rfl) hi
set_option maxRecDepth 100000 in
theorem l_370 {d : Nat} {l1 l2 l3 : AV} {st : List AV} {o : Nat} {σ : Sg} {X : Nat} {K : List AV → List AV → Sg → Prop} (hX : 370 ≠ X) (ho : o ≠ 0) : Rq d m_L_law X 370 [vR o, l1, l2, l3] st σ K ↔ Rq d m_L_law X 371 [vR o, l1, l2, l3] (vR o :: st) σ K := k5 hX (show fnd (pgm m_L_law) 370 = some (371, 5, 0, 0, 0, []) from rfl) rfl ho
set_option maxRecDepth 100000 in
theorem l_371 {d : Nat} {l0 l1 l2 : AV} {st : List AV} {x : Int} {σ : Sg} {X : Nat} {K : List AV → List AV → Sg → Prop} (hX : 371 ≠ X)  : Rq d m_L_law X 371 [l0, l1, l2, vI x] st σ K ↔ Rq d m_L_law X 372 [l0, l1, l2, vI x] (vI x :: st) σ K := k3 hX (show fnd (pgm m_L_law) 371 = some (372, 3, 0, 3, 0, []) from rfl) rfl
set_option maxRecDepth 100000 in
theorem l_372 {d : Nat} {l0 l1 l2 l3 : AV} {st : List AV} {σ : Sg} {X : Nat} {K : List AV → List AV → Sg → Prop} (hX : 372 ≠ X)  : Rq d m_L_law X 372 [l0, l1, l2, l3] st σ K ↔ Rq d m_L_law X 373 [l0, l1, l2, l3] (vI 4 :: st) σ K := k0 hX (show fnd (pgm m_L_law) 372 = some (373, 0, 4, 0, 0, []) from rfl)
set_option maxRecDepth 100000 in
theorem l_373 {d : Nat} {l0 l1 l2 l3 : AV} {st : List AV} {a b : Int} {σ : Sg} {X : Nat} {K : List AV → List AV → Sg → Prop} (hX : 373 ≠ X)  : Rq d m_L_law X 373 [l0, l1, l2, l3] (vI b :: vI a :: st) σ K ↔ Rq d m_L_law X 374 [l0, l1, l2, l3] (vI (a + b) :: st) σ K := k10_0 hX (show fnd (pgm m_L_law) 373 = some (374, 10, 0, 0, 0, []) from rfl)
set_option maxRecDepth 100000 in
theorem l_374 {d : Nat} {l0 l1 l2 l3 : AV} {st : List AV} {i : Int} {σ : Sg} {X : Nat} {K : List AV → List AV → Sg → Prop} (hX : 374 ≠ X) (hi : 0 ≤ w32 i ∧ w32 i < σ 999 (-1)) : Rq d m_L_law X 374 [l0, l1, l2, l3] (vI i :: vR 999 :: st) σ K ↔ Rq d m_L_law X 375 [l0, l1, l2, l3] (vI (σ 999 (w32 i)) :: st) σ K := k41 hX (show fnd (pgm m_L_law) 374 = some (375, 41, 0, 0, 0, []) from rfl) hi
set_option maxRecDepth 100000 in
theorem l_375 {d : Nat} {l1 l2 l3 : AV} {st : List AV} {o : Nat} {σ : Sg} {X : Nat} {K : List AV → List AV → Sg → Prop} (hX : 375 ≠ X) (ho : o ≠ 0) : Rq d m_L_law X 375 [vR o, l1, l2, l3] st σ K ↔ Rq d m_L_law X 376 [vR o, l1, l2, l3] (vR o :: st) σ K := k5 hX (show fnd (pgm m_L_law) 375 = some (376, 5, 0, 0, 0, []) from rfl) rfl ho
set_option maxRecDepth 100000 in
theorem l_376 {d : Nat} {l0 l1 l2 : AV} {st : List AV} {x : Int} {σ : Sg} {X : Nat} {K : List AV → List AV → Sg → Prop} (hX : 376 ≠ X)  : Rq d m_L_law X 376 [l0, l1, l2, vI x] st σ K ↔ Rq d m_L_law X 377 [l0, l1, l2, vI x] (vI x :: st) σ K := k3 hX (show fnd (pgm m_L_law) 376 = some (377, 3, 0, 3, 0, []) from rfl) rfl
set_option maxRecDepth 100000 in
theorem l_377 {d : Nat} {l0 l1 l2 l3 : AV} {st : List AV} {σ : Sg} {X : Nat} {K : List AV → List AV → Sg → Prop} (hX : 377 ≠ X)  : Rq d m_L_law X 377 [l0, l1, l2, l3] st σ K ↔ Rq d m_L_law X 378 [l0, l1, l2, l3] (vI 5 :: st) σ K := k0 hX (show fnd (pgm m_L_law) 377 = some (378, 0, 5, 0, 0, []) from rfl)
set_option maxRecDepth 100000 in
theorem l_378 {d : Nat} {l0 l1 l2 l3 : AV} {st : List AV} {a b : Int} {σ : Sg} {X : Nat} {K : List AV → List AV → Sg → Prop} (hX : 378 ≠ X)  : Rq d m_L_law X 378 [l0, l1, l2, l3] (vI b :: vI a :: st) σ K ↔ Rq d m_L_law X 379 [l0, l1, l2, l3] (vI (a + b) :: st) σ K := k10_0 hX (show fnd (pgm m_L_law) 378 = some (379, 10, 0, 0, 0, []) from rfl)
set_option maxRecDepth 100000 in
theorem l_379 {d : Nat} {l0 l1 l2 l3 : AV} {st : List AV} {i : Int} {σ : Sg} {X : Nat} {K : List AV → List AV → Sg → Prop} (hX : 379 ≠ X) (hi : 0 ≤ w32 i ∧ w32 i < σ 999 (-1)) : Rq d m_L_law X 379 [l0, l1, l2, l3] (vI i :: vR 999 :: st) σ K ↔ Rq d m_L_law X 380 [l0, l1, l2, l3] (vI (σ 999 (w32 i)) :: st) σ K := k41 hX (show fnd (pgm m_L_law) 379 = some (380, 41, 0, 0, 0, []) from rfl) hi
set_option maxRecDepth 100000 in
theorem l_380 {d : Nat} {l0 l1 l2 l3 : AV} {st : List AV} {a : Int} {σ : Sg} {X : Nat} {K : List AV → List AV → Sg → Prop} (hX : 380 ≠ X)  : Rq d m_L_law X 380 [l0, l1, l2, l3] (vI a :: st) σ K ↔ if w32 a = 0 then Rq d m_L_law X 387 [l0, l1, l2, l3] st σ K else Rq d m_L_law X 383 [l0, l1, l2, l3] st σ K := k19_0 hX (show fnd (pgm m_L_law) 380 = some (383, 19, 0, 0, 387, []) from rfl)
set_option maxRecDepth 100000 in
theorem l_383 {d : Nat} {l0 l1 l2 l3 : AV} {st : List AV} {σ : Sg} {X : Nat} {K : List AV → List AV → Sg → Prop} (hX : 383 ≠ X)  : Rq d m_L_law X 383 [l0, l1, l2, l3] st σ K ↔ Rq d m_L_law X 384 [l0, l1, l2, l3] (vI 1 :: st) σ K := k0 hX (show fnd (pgm m_L_law) 383 = some (384, 0, 1, 0, 0, []) from rfl)
set_option maxRecDepth 100000 in
theorem l_384 {d : Nat} {l0 l1 l2 l3 : AV} {st : List AV} {σ : Sg} {X : Nat} {K : List AV → List AV → Sg → Prop} (hX : 384 ≠ X)  : Rq d m_L_law X 384 [l0, l1, l2, l3] st σ K ↔ Rq d m_L_law X 388 [l0, l1, l2, l3] st σ K := k21 hX (show fnd (pgm m_L_law) 384 = some (387, 21, 0, 0, 388, []) from rfl)
set_option maxRecDepth 100000 in
theorem l_387 {d : Nat} {l0 l1 l2 l3 : AV} {st : List AV} {σ : Sg} {X : Nat} {K : List AV → List AV → Sg → Prop} (hX : 387 ≠ X)  : Rq d m_L_law X 387 [l0, l1, l2, l3] st σ K ↔ Rq d m_L_law X 388 [l0, l1, l2, l3] (vI 0 :: st) σ K := k0 hX (show fnd (pgm m_L_law) 387 = some (388, 0, 0, 0, 0, []) from rfl)
set_option maxRecDepth 100000 in
theorem l_388 {d : Nat} {l0 l1 l2 l3 : AV} {st : List AV} {o : Nat} {a0 : Int} {a1 : Int} {a2 : Int} {a3 : Int} {a4 : Int} {σ : Sg} {X : Nat} {K : List AV → List AV → Sg → Prop} (hX : 388 ≠ X) (h4 : st.length ≤ 4) (hk : kn σ o = (0, 6)) : Rq d m_L_law X 388 [l0, l1, l2, l3] (vI a4 :: vI a3 :: vI a2 :: vI a1 :: vI a0 :: vR o :: st) σ K ↔ ∃ r σ1, Ev d m_X6_night [vR o, vI a0, vI a1, vI a2, vI a3, vI a4] σ r σ1 ∧ Rq d m_L_law X 391 [l0, l1, l2, l3] (psh r st) σ1 K := k35 hX (show fnd (pgm m_L_law) 388 = some (391, 35, 32, 119, 6, []) from rfl) ⟨⟨by simp, by simpa using h4⟩, (by simp only [List.take, List.reverse, List.reverseAux, rcv]; rw [if_neg (by decide +kernel)]; exact decide_eq_true hk)⟩
set_option maxRecDepth 100000 in
theorem l_391 {d : Nat} {l0 l1 l2 l3 : AV} {st : List AV} {a b : Int} {σ : Sg} {X : Nat} {K : List AV → List AV → Sg → Prop} (hX : 391 ≠ X)  : Rq d m_L_law X 391 [l0, l1, l2, l3] (vI b :: vI a :: st) σ K ↔ if w32 a = w32 b then Rq d m_L_law X 1364 [l0, l1, l2, l3] st σ K else Rq d m_L_law X 394 [l0, l1, l2, l3] st σ K := k20_0 hX (show fnd (pgm m_L_law) 391 = some (394, 20, 0, 0, 1364, []) from rfl)
set_option maxRecDepth 100000 in
theorem l_394 {d : Nat} {l0 l1 l2 l3 : AV} {st : List AV} {σ : Sg} {X : Nat} {K : List AV → List AV → Sg → Prop} (hX : 394 ≠ X)  : Rq d m_L_law X 394 [l0, l1, l2, l3] st σ K ↔ Rq d m_L_law X 395 [l0, l1, l2, l3] (vI 0 :: st) σ K := k0 hX (show fnd (pgm m_L_law) 394 = some (395, 0, 0, 0, 0, []) from rfl)
set_option maxRecDepth 100000 in
theorem l_396 {d : Nat} {l0 l2 l3 : AV} {st : List AV} {o : Nat} {σ : Sg} {X : Nat} {K : List AV → List AV → Sg → Prop} (hX : 396 ≠ X) (ho : o ≠ 0) : Rq d m_L_law X 396 [l0, vR o, l2, l3] st σ K ↔ Rq d m_L_law X 397 [l0, vR o, l2, l3] (vR o :: st) σ K := k5 hX (show fnd (pgm m_L_law) 396 = some (397, 5, 0, 1, 0, []) from rfl) rfl ho
set_option maxRecDepth 100000 in
theorem l_397 {d : Nat} {l1 l2 l3 : AV} {st : List AV} {o : Nat} {σ : Sg} {X : Nat} {K : List AV → List AV → Sg → Prop} (hX : 397 ≠ X) (ho : o ≠ 0) : Rq d m_L_law X 397 [vR o, l1, l2, l3] st σ K ↔ Rq d m_L_law X 398 [vR o, l1, l2, l3] (vR o :: st) σ K := k5 hX (show fnd (pgm m_L_law) 397 = some (398, 5, 0, 0, 0, []) from rfl) rfl ho
set_option maxRecDepth 100000 in
theorem l_398 {d : Nat} {l0 l1 l2 : AV} {st : List AV} {x : Int} {σ : Sg} {X : Nat} {K : List AV → List AV → Sg → Prop} (hX : 398 ≠ X)  : Rq d m_L_law X 398 [l0, l1, l2, vI x] st σ K ↔ Rq d m_L_law X 399 [l0, l1, l2, vI x] (vI x :: st) σ K := k3 hX (show fnd (pgm m_L_law) 398 = some (399, 3, 0, 3, 0, []) from rfl) rfl
set_option maxRecDepth 100000 in
theorem l_399 {d : Nat} {l0 l1 l2 l3 : AV} {st : List AV} {σ : Sg} {X : Nat} {K : List AV → List AV → Sg → Prop} (hX : 399 ≠ X)  : Rq d m_L_law X 399 [l0, l1, l2, l3] st σ K ↔ Rq d m_L_law X 400 [l0, l1, l2, l3] (vI 1 :: st) σ K := k0 hX (show fnd (pgm m_L_law) 399 = some (400, 0, 1, 0, 0, []) from rfl)
set_option maxRecDepth 100000 in
theorem l_400 {d : Nat} {l0 l1 l2 l3 : AV} {st : List AV} {a b : Int} {σ : Sg} {X : Nat} {K : List AV → List AV → Sg → Prop} (hX : 400 ≠ X)  : Rq d m_L_law X 400 [l0, l1, l2, l3] (vI b :: vI a :: st) σ K ↔ Rq d m_L_law X 401 [l0, l1, l2, l3] (vI (a + b) :: st) σ K := k10_0 hX (show fnd (pgm m_L_law) 400 = some (401, 10, 0, 0, 0, []) from rfl)
set_option maxRecDepth 100000 in
theorem l_401 {d : Nat} {l0 l1 l2 l3 : AV} {st : List AV} {i : Int} {σ : Sg} {X : Nat} {K : List AV → List AV → Sg → Prop} (hX : 401 ≠ X) (hi : 0 ≤ w32 i ∧ w32 i < σ 999 (-1)) : Rq d m_L_law X 401 [l0, l1, l2, l3] (vI i :: vR 999 :: st) σ K ↔ Rq d m_L_law X 402 [l0, l1, l2, l3] (vI (σ 999 (w32 i)) :: st) σ K := k41 hX (show fnd (pgm m_L_law) 401 = some (402, 41, 0, 0, 0, []) from rfl) hi
set_option maxRecDepth 100000 in
theorem l_402 {d : Nat} {l0 l1 l2 l3 : AV} {st : List AV} {o : Nat} {a0 : Int} {σ : Sg} {X : Nat} {K : List AV → List AV → Sg → Prop} (hX : 402 ≠ X) (h4 : st.length ≤ 4) (hk : kn σ o = (0, 5)) : Rq d m_L_law X 402 [l0, l1, l2, l3] (vI a0 :: vR o :: st) σ K ↔ ∃ r σ1, Ev d m_X5_draw [vR o, vI a0] σ r σ1 ∧ Rq d m_L_law X 405 [l0, l1, l2, l3] (psh r st) σ1 K := k35 hX (show fnd (pgm m_L_law) 402 = some (405, 35, 33, 57, 2, []) from rfl) ⟨⟨by simp, by simpa using h4⟩, (by simp only [List.take, List.reverse, List.reverseAux, rcv]; rw [if_neg (by decide +kernel)]; exact decide_eq_true hk)⟩
set_option maxRecDepth 100000 in
theorem l_405 {d : Nat} {l0 l1 l3 : AV} {st : List AV} {o : Nat} {σ : Sg} {X : Nat} {K : List AV → List AV → Sg → Prop} (hX : 405 ≠ X) (ho : o ≠ 0) : Rq d m_L_law X 405 [l0, l1, vR o, l3] st σ K ↔ Rq d m_L_law X 406 [l0, l1, vR o, l3] (vR o :: st) σ K := k5 hX (show fnd (pgm m_L_law) 405 = some (406, 5, 0, 2, 0, []) from rfl) rfl ho
set_option maxRecDepth 100000 in
theorem l_406 {d : Nat} {l1 l2 l3 : AV} {st : List AV} {o : Nat} {σ : Sg} {X : Nat} {K : List AV → List AV → Sg → Prop} (hX : 406 ≠ X) (ho : o ≠ 0) : Rq d m_L_law X 406 [vR o, l1, l2, l3] st σ K ↔ Rq d m_L_law X 407 [vR o, l1, l2, l3] (vR o :: st) σ K := k5 hX (show fnd (pgm m_L_law) 406 = some (407, 5, 0, 0, 0, []) from rfl) rfl ho
set_option maxRecDepth 100000 in
theorem l_407 {d : Nat} {l0 l1 l2 : AV} {st : List AV} {x : Int} {σ : Sg} {X : Nat} {K : List AV → List AV → Sg → Prop} (hX : 407 ≠ X)  : Rq d m_L_law X 407 [l0, l1, l2, vI x] st σ K ↔ Rq d m_L_law X 408 [l0, l1, l2, vI x] (vI x :: st) σ K := k3 hX (show fnd (pgm m_L_law) 407 = some (408, 3, 0, 3, 0, []) from rfl) rfl
set_option maxRecDepth 100000 in
theorem l_408 {d : Nat} {l0 l1 l2 l3 : AV} {st : List AV} {σ : Sg} {X : Nat} {K : List AV → List AV → Sg → Prop} (hX : 408 ≠ X)  : Rq d m_L_law X 408 [l0, l1, l2, l3] st σ K ↔ Rq d m_L_law X 409 [l0, l1, l2, l3] (vI 1 :: st) σ K := k0 hX (show fnd (pgm m_L_law) 408 = some (409, 0, 1, 0, 0, []) from rfl)
set_option maxRecDepth 100000 in
theorem l_409 {d : Nat} {l0 l1 l2 l3 : AV} {st : List AV} {a b : Int} {σ : Sg} {X : Nat} {K : List AV → List AV → Sg → Prop} (hX : 409 ≠ X)  : Rq d m_L_law X 409 [l0, l1, l2, l3] (vI b :: vI a :: st) σ K ↔ Rq d m_L_law X 410 [l0, l1, l2, l3] (vI (a + b) :: st) σ K := k10_0 hX (show fnd (pgm m_L_law) 409 = some (410, 10, 0, 0, 0, []) from rfl)
set_option maxRecDepth 100000 in
theorem l_410 {d : Nat} {l0 l1 l2 l3 : AV} {st : List AV} {i : Int} {σ : Sg} {X : Nat} {K : List AV → List AV → Sg → Prop} (hX : 410 ≠ X) (hi : 0 ≤ w32 i ∧ w32 i < σ 999 (-1)) : Rq d m_L_law X 410 [l0, l1, l2, l3] (vI i :: vR 999 :: st) σ K ↔ Rq d m_L_law X 411 [l0, l1, l2, l3] (vI (σ 999 (w32 i)) :: st) σ K := k41 hX (show fnd (pgm m_L_law) 410 = some (411, 41, 0, 0, 0, []) from rfl) hi
set_option maxRecDepth 100000 in
theorem l_411 {d : Nat} {l0 l1 l2 l3 : AV} {st : List AV} {o : Nat} {a0 : Int} {σ : Sg} {X : Nat} {K : List AV → List AV → Sg → Prop} (hX : 411 ≠ X) (h4 : st.length ≤ 4) (hk : kn σ o = (0, 6)) : Rq d m_L_law X 411 [l0, l1, l2, l3] (vI a0 :: vR o :: st) σ K ↔ ∃ r σ1, Ev d m_X6_draw [vR o, vI a0] σ r σ1 ∧ Rq d m_L_law X 414 [l0, l1, l2, l3] (psh r st) σ1 K := k35 hX (show fnd (pgm m_L_law) 411 = some (414, 35, 37, 123, 2, []) from rfl) ⟨⟨by simp, by simpa using h4⟩, (by simp only [List.take, List.reverse, List.reverseAux, rcv]; rw [if_neg (by decide +kernel)]; exact decide_eq_true hk)⟩
set_option maxRecDepth 100000 in
theorem l_414 {d : Nat} {l0 l1 l2 l3 : AV} {st : List AV} {a b : Int} {σ : Sg} {X : Nat} {K : List AV → List AV → Sg → Prop} (hX : 414 ≠ X)  : Rq d m_L_law X 414 [l0, l1, l2, l3] (vI b :: vI a :: st) σ K ↔ if w32 a = w32 b then Rq d m_L_law X 1364 [l0, l1, l2, l3] st σ K else Rq d m_L_law X 417 [l0, l1, l2, l3] st σ K := k20_0 hX (show fnd (pgm m_L_law) 414 = some (417, 20, 0, 0, 1364, []) from rfl)
set_option maxRecDepth 100000 in
theorem l_417 {d : Nat} {l0 l1 l2 l3 : AV} {st : List AV} {σ : Sg} {X : Nat} {K : List AV → List AV → Sg → Prop} (hX : 417 ≠ X)  : Rq d m_L_law X 417 [l0, l1, l2, l3] st σ K ↔ Rq d m_L_law X 418 [l0, l1, l2, l3] (vI 0 :: st) σ K := k0 hX (show fnd (pgm m_L_law) 417 = some (418, 0, 0, 0, 0, []) from rfl)
set_option maxRecDepth 100000 in
theorem l_419 {d : Nat} {l0 l2 l3 : AV} {st : List AV} {o : Nat} {σ : Sg} {X : Nat} {K : List AV → List AV → Sg → Prop} (hX : 419 ≠ X) (ho : o ≠ 0) : Rq d m_L_law X 419 [l0, vR o, l2, l3] st σ K ↔ Rq d m_L_law X 420 [l0, vR o, l2, l3] (vR o :: st) σ K := k5 hX (show fnd (pgm m_L_law) 419 = some (420, 5, 0, 1, 0, []) from rfl) rfl ho
set_option maxRecDepth 100000 in
theorem l_420 {d : Nat} {l1 l2 l3 : AV} {st : List AV} {o : Nat} {σ : Sg} {X : Nat} {K : List AV → List AV → Sg → Prop} (hX : 420 ≠ X) (ho : o ≠ 0) : Rq d m_L_law X 420 [vR o, l1, l2, l3] st σ K ↔ Rq d m_L_law X 421 [vR o, l1, l2, l3] (vR o :: st) σ K := k5 hX (show fnd (pgm m_L_law) 420 = some (421, 5, 0, 0, 0, []) from rfl) rfl ho
set_option maxRecDepth 100000 in
theorem l_421 {d : Nat} {l0 l1 l2 : AV} {st : List AV} {x : Int} {σ : Sg} {X : Nat} {K : List AV → List AV → Sg → Prop} (hX : 421 ≠ X)  : Rq d m_L_law X 421 [l0, l1, l2, vI x] st σ K ↔ Rq d m_L_law X 422 [l0, l1, l2, vI x] (vI x :: st) σ K := k3 hX (show fnd (pgm m_L_law) 421 = some (422, 3, 0, 3, 0, []) from rfl) rfl
set_option maxRecDepth 100000 in
theorem l_422 {d : Nat} {l0 l1 l2 l3 : AV} {st : List AV} {σ : Sg} {X : Nat} {K : List AV → List AV → Sg → Prop} (hX : 422 ≠ X)  : Rq d m_L_law X 422 [l0, l1, l2, l3] st σ K ↔ Rq d m_L_law X 423 [l0, l1, l2, l3] (vI 1 :: st) σ K := k0 hX (show fnd (pgm m_L_law) 422 = some (423, 0, 1, 0, 0, []) from rfl)
set_option maxRecDepth 100000 in
theorem l_423 {d : Nat} {l0 l1 l2 l3 : AV} {st : List AV} {a b : Int} {σ : Sg} {X : Nat} {K : List AV → List AV → Sg → Prop} (hX : 423 ≠ X)  : Rq d m_L_law X 423 [l0, l1, l2, l3] (vI b :: vI a :: st) σ K ↔ Rq d m_L_law X 424 [l0, l1, l2, l3] (vI (a + b) :: st) σ K := k10_0 hX (show fnd (pgm m_L_law) 423 = some (424, 10, 0, 0, 0, []) from rfl)
set_option maxRecDepth 100000 in
theorem l_424 {d : Nat} {l0 l1 l2 l3 : AV} {st : List AV} {i : Int} {σ : Sg} {X : Nat} {K : List AV → List AV → Sg → Prop} (hX : 424 ≠ X) (hi : 0 ≤ w32 i ∧ w32 i < σ 999 (-1)) : Rq d m_L_law X 424 [l0, l1, l2, l3] (vI i :: vR 999 :: st) σ K ↔ Rq d m_L_law X 425 [l0, l1, l2, l3] (vI (σ 999 (w32 i)) :: st) σ K := k41 hX (show fnd (pgm m_L_law) 424 = some (425, 41, 0, 0, 0, []) from rfl) hi
set_option maxRecDepth 100000 in
theorem l_425 {d : Nat} {l1 l2 l3 : AV} {st : List AV} {o : Nat} {σ : Sg} {X : Nat} {K : List AV → List AV → Sg → Prop} (hX : 425 ≠ X) (ho : o ≠ 0) : Rq d m_L_law X 425 [vR o, l1, l2, l3] st σ K ↔ Rq d m_L_law X 426 [vR o, l1, l2, l3] (vR o :: st) σ K := k5 hX (show fnd (pgm m_L_law) 425 = some (426, 5, 0, 0, 0, []) from rfl) rfl ho
set_option maxRecDepth 100000 in
theorem l_426 {d : Nat} {l0 l1 l2 : AV} {st : List AV} {x : Int} {σ : Sg} {X : Nat} {K : List AV → List AV → Sg → Prop} (hX : 426 ≠ X)  : Rq d m_L_law X 426 [l0, l1, l2, vI x] st σ K ↔ Rq d m_L_law X 427 [l0, l1, l2, vI x] (vI x :: st) σ K := k3 hX (show fnd (pgm m_L_law) 426 = some (427, 3, 0, 3, 0, []) from rfl) rfl
set_option maxRecDepth 100000 in
theorem l_427 {d : Nat} {l0 l1 l2 l3 : AV} {st : List AV} {σ : Sg} {X : Nat} {K : List AV → List AV → Sg → Prop} (hX : 427 ≠ X)  : Rq d m_L_law X 427 [l0, l1, l2, l3] st σ K ↔ Rq d m_L_law X 428 [l0, l1, l2, l3] (vI 2 :: st) σ K := k0 hX (show fnd (pgm m_L_law) 427 = some (428, 0, 2, 0, 0, []) from rfl)
set_option maxRecDepth 100000 in
theorem l_428 {d : Nat} {l0 l1 l2 l3 : AV} {st : List AV} {a b : Int} {σ : Sg} {X : Nat} {K : List AV → List AV → Sg → Prop} (hX : 428 ≠ X)  : Rq d m_L_law X 428 [l0, l1, l2, l3] (vI b :: vI a :: st) σ K ↔ Rq d m_L_law X 429 [l0, l1, l2, l3] (vI (a + b) :: st) σ K := k10_0 hX (show fnd (pgm m_L_law) 428 = some (429, 10, 0, 0, 0, []) from rfl)
set_option maxRecDepth 100000 in
theorem l_429 {d : Nat} {l0 l1 l2 l3 : AV} {st : List AV} {i : Int} {σ : Sg} {X : Nat} {K : List AV → List AV → Sg → Prop} (hX : 429 ≠ X) (hi : 0 ≤ w32 i ∧ w32 i < σ 999 (-1)) : Rq d m_L_law X 429 [l0, l1, l2, l3] (vI i :: vR 999 :: st) σ K ↔ Rq d m_L_law X 430 [l0, l1, l2, l3] (vI (σ 999 (w32 i)) :: st) σ K := k41 hX (show fnd (pgm m_L_law) 429 = some (430, 41, 0, 0, 0, []) from rfl) hi
set_option maxRecDepth 100000 in
theorem l_430 {d : Nat} {l0 l1 l2 l3 : AV} {st : List AV} {o : Nat} {a0 : Int} {a1 : Int} {σ : Sg} {X : Nat} {K : List AV → List AV → Sg → Prop} (hX : 430 ≠ X) (h4 : st.length ≤ 4) (hk : kn σ o = (0, 5)) : Rq d m_L_law X 430 [l0, l1, l2, l3] (vI a1 :: vI a0 :: vR o :: st) σ K ↔ ∃ r σ1, Ev d m_X5_weather [vR o, vI a0, vI a1] σ r σ1 ∧ Rq d m_L_law X 433 [l0, l1, l2, l3] (psh r st) σ1 K := k35 hX (show fnd (pgm m_L_law) 430 = some (433, 35, 38, 58, 3, []) from rfl) ⟨⟨by simp, by simpa using h4⟩, (by simp only [List.take, List.reverse, List.reverseAux, rcv]; rw [if_neg (by decide +kernel)]; exact decide_eq_true hk)⟩
set_option maxRecDepth 100000 in
theorem l_433 {d : Nat} {l0 l1 l3 : AV} {st : List AV} {o : Nat} {σ : Sg} {X : Nat} {K : List AV → List AV → Sg → Prop} (hX : 433 ≠ X) (ho : o ≠ 0) : Rq d m_L_law X 433 [l0, l1, vR o, l3] st σ K ↔ Rq d m_L_law X 434 [l0, l1, vR o, l3] (vR o :: st) σ K := k5 hX (show fnd (pgm m_L_law) 433 = some (434, 5, 0, 2, 0, []) from rfl) rfl ho
set_option maxRecDepth 100000 in
theorem l_434 {d : Nat} {l1 l2 l3 : AV} {st : List AV} {o : Nat} {σ : Sg} {X : Nat} {K : List AV → List AV → Sg → Prop} (hX : 434 ≠ X) (ho : o ≠ 0) : Rq d m_L_law X 434 [vR o, l1, l2, l3] st σ K ↔ Rq d m_L_law X 435 [vR o, l1, l2, l3] (vR o :: st) σ K := k5 hX (show fnd (pgm m_L_law) 434 = some (435, 5, 0, 0, 0, []) from rfl) rfl ho
set_option maxRecDepth 100000 in
theorem l_435 {d : Nat} {l0 l1 l2 : AV} {st : List AV} {x : Int} {σ : Sg} {X : Nat} {K : List AV → List AV → Sg → Prop} (hX : 435 ≠ X)  : Rq d m_L_law X 435 [l0, l1, l2, vI x] st σ K ↔ Rq d m_L_law X 436 [l0, l1, l2, vI x] (vI x :: st) σ K := k3 hX (show fnd (pgm m_L_law) 435 = some (436, 3, 0, 3, 0, []) from rfl) rfl
set_option maxRecDepth 100000 in
theorem l_436 {d : Nat} {l0 l1 l2 l3 : AV} {st : List AV} {σ : Sg} {X : Nat} {K : List AV → List AV → Sg → Prop} (hX : 436 ≠ X)  : Rq d m_L_law X 436 [l0, l1, l2, l3] st σ K ↔ Rq d m_L_law X 437 [l0, l1, l2, l3] (vI 1 :: st) σ K := k0 hX (show fnd (pgm m_L_law) 436 = some (437, 0, 1, 0, 0, []) from rfl)
set_option maxRecDepth 100000 in
theorem l_437 {d : Nat} {l0 l1 l2 l3 : AV} {st : List AV} {a b : Int} {σ : Sg} {X : Nat} {K : List AV → List AV → Sg → Prop} (hX : 437 ≠ X)  : Rq d m_L_law X 437 [l0, l1, l2, l3] (vI b :: vI a :: st) σ K ↔ Rq d m_L_law X 438 [l0, l1, l2, l3] (vI (a + b) :: st) σ K := k10_0 hX (show fnd (pgm m_L_law) 437 = some (438, 10, 0, 0, 0, []) from rfl)
set_option maxRecDepth 100000 in
theorem l_438 {d : Nat} {l0 l1 l2 l3 : AV} {st : List AV} {i : Int} {σ : Sg} {X : Nat} {K : List AV → List AV → Sg → Prop} (hX : 438 ≠ X) (hi : 0 ≤ w32 i ∧ w32 i < σ 999 (-1)) : Rq d m_L_law X 438 [l0, l1, l2, l3] (vI i :: vR 999 :: st) σ K ↔ Rq d m_L_law X 439 [l0, l1, l2, l3] (vI (σ 999 (w32 i)) :: st) σ K := k41 hX (show fnd (pgm m_L_law) 438 = some (439, 41, 0, 0, 0, []) from rfl) hi
set_option maxRecDepth 100000 in
theorem l_439 {d : Nat} {l1 l2 l3 : AV} {st : List AV} {o : Nat} {σ : Sg} {X : Nat} {K : List AV → List AV → Sg → Prop} (hX : 439 ≠ X) (ho : o ≠ 0) : Rq d m_L_law X 439 [vR o, l1, l2, l3] st σ K ↔ Rq d m_L_law X 440 [vR o, l1, l2, l3] (vR o :: st) σ K := k5 hX (show fnd (pgm m_L_law) 439 = some (440, 5, 0, 0, 0, []) from rfl) rfl ho
set_option maxRecDepth 100000 in
theorem l_440 {d : Nat} {l0 l1 l2 : AV} {st : List AV} {x : Int} {σ : Sg} {X : Nat} {K : List AV → List AV → Sg → Prop} (hX : 440 ≠ X)  : Rq d m_L_law X 440 [l0, l1, l2, vI x] st σ K ↔ Rq d m_L_law X 441 [l0, l1, l2, vI x] (vI x :: st) σ K := k3 hX (show fnd (pgm m_L_law) 440 = some (441, 3, 0, 3, 0, []) from rfl) rfl
set_option maxRecDepth 100000 in
theorem l_441 {d : Nat} {l0 l1 l2 l3 : AV} {st : List AV} {σ : Sg} {X : Nat} {K : List AV → List AV → Sg → Prop} (hX : 441 ≠ X)  : Rq d m_L_law X 441 [l0, l1, l2, l3] st σ K ↔ Rq d m_L_law X 442 [l0, l1, l2, l3] (vI 2 :: st) σ K := k0 hX (show fnd (pgm m_L_law) 441 = some (442, 0, 2, 0, 0, []) from rfl)
set_option maxRecDepth 100000 in
theorem l_442 {d : Nat} {l0 l1 l2 l3 : AV} {st : List AV} {a b : Int} {σ : Sg} {X : Nat} {K : List AV → List AV → Sg → Prop} (hX : 442 ≠ X)  : Rq d m_L_law X 442 [l0, l1, l2, l3] (vI b :: vI a :: st) σ K ↔ Rq d m_L_law X 443 [l0, l1, l2, l3] (vI (a + b) :: st) σ K := k10_0 hX (show fnd (pgm m_L_law) 442 = some (443, 10, 0, 0, 0, []) from rfl)
set_option maxRecDepth 100000 in
theorem l_443 {d : Nat} {l0 l1 l2 l3 : AV} {st : List AV} {i : Int} {σ : Sg} {X : Nat} {K : List AV → List AV → Sg → Prop} (hX : 443 ≠ X) (hi : 0 ≤ w32 i ∧ w32 i < σ 999 (-1)) : Rq d m_L_law X 443 [l0, l1, l2, l3] (vI i :: vR 999 :: st) σ K ↔ Rq d m_L_law X 444 [l0, l1, l2, l3] (vI (σ 999 (w32 i)) :: st) σ K := k41 hX (show fnd (pgm m_L_law) 443 = some (444, 41, 0, 0, 0, []) from rfl) hi
set_option maxRecDepth 100000 in
theorem l_444 {d : Nat} {l0 l1 l2 l3 : AV} {st : List AV} {o : Nat} {a0 : Int} {a1 : Int} {σ : Sg} {X : Nat} {K : List AV → List AV → Sg → Prop} (hX : 444 ≠ X) (h4 : st.length ≤ 4) (hk : kn σ o = (0, 6)) : Rq d m_L_law X 444 [l0, l1, l2, l3] (vI a1 :: vI a0 :: vR o :: st) σ K ↔ ∃ r σ1, Ev d m_X6_weather [vR o, vI a0, vI a1] σ r σ1 ∧ Rq d m_L_law X 447 [l0, l1, l2, l3] (psh r st) σ1 K := k35 hX (show fnd (pgm m_L_law) 444 = some (447, 35, 41, 124, 3, []) from rfl) ⟨⟨by simp, by simpa using h4⟩, (by simp only [List.take, List.reverse, List.reverseAux, rcv]; rw [if_neg (by decide +kernel)]; exact decide_eq_true hk)⟩
set_option maxRecDepth 100000 in
theorem l_447 {d : Nat} {l0 l1 l2 l3 : AV} {st : List AV} {a b : Int} {σ : Sg} {X : Nat} {K : List AV → List AV → Sg → Prop} (hX : 447 ≠ X)  : Rq d m_L_law X 447 [l0, l1, l2, l3] (vI b :: vI a :: st) σ K ↔ if w32 a = w32 b then Rq d m_L_law X 1364 [l0, l1, l2, l3] st σ K else Rq d m_L_law X 450 [l0, l1, l2, l3] st σ K := k20_0 hX (show fnd (pgm m_L_law) 447 = some (450, 20, 0, 0, 1364, []) from rfl)
set_option maxRecDepth 100000 in
theorem l_450 {d : Nat} {l0 l1 l2 l3 : AV} {st : List AV} {σ : Sg} {X : Nat} {K : List AV → List AV → Sg → Prop} (hX : 450 ≠ X)  : Rq d m_L_law X 450 [l0, l1, l2, l3] st σ K ↔ Rq d m_L_law X 451 [l0, l1, l2, l3] (vI 0 :: st) σ K := k0 hX (show fnd (pgm m_L_law) 450 = some (451, 0, 0, 0, 0, []) from rfl)
set_option maxRecDepth 100000 in
theorem l_452 {d : Nat} {l0 l2 l3 : AV} {st : List AV} {o : Nat} {σ : Sg} {X : Nat} {K : List AV → List AV → Sg → Prop} (hX : 452 ≠ X) (ho : o ≠ 0) : Rq d m_L_law X 452 [l0, vR o, l2, l3] st σ K ↔ Rq d m_L_law X 453 [l0, vR o, l2, l3] (vR o :: st) σ K := k5 hX (show fnd (pgm m_L_law) 452 = some (453, 5, 0, 1, 0, []) from rfl) rfl ho
set_option maxRecDepth 100000 in
theorem l_453 {d : Nat} {l1 l2 l3 : AV} {st : List AV} {o : Nat} {σ : Sg} {X : Nat} {K : List AV → List AV → Sg → Prop} (hX : 453 ≠ X) (ho : o ≠ 0) : Rq d m_L_law X 453 [vR o, l1, l2, l3] st σ K ↔ Rq d m_L_law X 454 [vR o, l1, l2, l3] (vR o :: st) σ K := k5 hX (show fnd (pgm m_L_law) 453 = some (454, 5, 0, 0, 0, []) from rfl) rfl ho
set_option maxRecDepth 100000 in
theorem l_454 {d : Nat} {l0 l1 l2 : AV} {st : List AV} {x : Int} {σ : Sg} {X : Nat} {K : List AV → List AV → Sg → Prop} (hX : 454 ≠ X)  : Rq d m_L_law X 454 [l0, l1, l2, vI x] st σ K ↔ Rq d m_L_law X 455 [l0, l1, l2, vI x] (vI x :: st) σ K := k3 hX (show fnd (pgm m_L_law) 454 = some (455, 3, 0, 3, 0, []) from rfl) rfl
set_option maxRecDepth 100000 in
theorem l_455 {d : Nat} {l0 l1 l2 l3 : AV} {st : List AV} {σ : Sg} {X : Nat} {K : List AV → List AV → Sg → Prop} (hX : 455 ≠ X)  : Rq d m_L_law X 455 [l0, l1, l2, l3] st σ K ↔ Rq d m_L_law X 456 [l0, l1, l2, l3] (vI 1 :: st) σ K := k0 hX (show fnd (pgm m_L_law) 455 = some (456, 0, 1, 0, 0, []) from rfl)
set_option maxRecDepth 100000 in
theorem l_456 {d : Nat} {l0 l1 l2 l3 : AV} {st : List AV} {a b : Int} {σ : Sg} {X : Nat} {K : List AV → List AV → Sg → Prop} (hX : 456 ≠ X)  : Rq d m_L_law X 456 [l0, l1, l2, l3] (vI b :: vI a :: st) σ K ↔ Rq d m_L_law X 457 [l0, l1, l2, l3] (vI (a + b) :: st) σ K := k10_0 hX (show fnd (pgm m_L_law) 456 = some (457, 10, 0, 0, 0, []) from rfl)
set_option maxRecDepth 100000 in
theorem l_457 {d : Nat} {l0 l1 l2 l3 : AV} {st : List AV} {i : Int} {σ : Sg} {X : Nat} {K : List AV → List AV → Sg → Prop} (hX : 457 ≠ X) (hi : 0 ≤ w32 i ∧ w32 i < σ 999 (-1)) : Rq d m_L_law X 457 [l0, l1, l2, l3] (vI i :: vR 999 :: st) σ K ↔ Rq d m_L_law X 458 [l0, l1, l2, l3] (vI (σ 999 (w32 i)) :: st) σ K := k41 hX (show fnd (pgm m_L_law) 457 = some (458, 41, 0, 0, 0, []) from rfl) hi
set_option maxRecDepth 100000 in
theorem l_458 {d : Nat} {l1 l2 l3 : AV} {st : List AV} {o : Nat} {σ : Sg} {X : Nat} {K : List AV → List AV → Sg → Prop} (hX : 458 ≠ X) (ho : o ≠ 0) : Rq d m_L_law X 458 [vR o, l1, l2, l3] st σ K ↔ Rq d m_L_law X 459 [vR o, l1, l2, l3] (vR o :: st) σ K := k5 hX (show fnd (pgm m_L_law) 458 = some (459, 5, 0, 0, 0, []) from rfl) rfl ho
set_option maxRecDepth 100000 in
theorem l_459 {d : Nat} {l0 l1 l2 : AV} {st : List AV} {x : Int} {σ : Sg} {X : Nat} {K : List AV → List AV → Sg → Prop} (hX : 459 ≠ X)  : Rq d m_L_law X 459 [l0, l1, l2, vI x] st σ K ↔ Rq d m_L_law X 460 [l0, l1, l2, vI x] (vI x :: st) σ K := k3 hX (show fnd (pgm m_L_law) 459 = some (460, 3, 0, 3, 0, []) from rfl) rfl
set_option maxRecDepth 100000 in
theorem l_460 {d : Nat} {l0 l1 l2 l3 : AV} {st : List AV} {σ : Sg} {X : Nat} {K : List AV → List AV → Sg → Prop} (hX : 460 ≠ X)  : Rq d m_L_law X 460 [l0, l1, l2, l3] st σ K ↔ Rq d m_L_law X 461 [l0, l1, l2, l3] (vI 2 :: st) σ K := k0 hX (show fnd (pgm m_L_law) 460 = some (461, 0, 2, 0, 0, []) from rfl)
set_option maxRecDepth 100000 in
theorem l_461 {d : Nat} {l0 l1 l2 l3 : AV} {st : List AV} {a b : Int} {σ : Sg} {X : Nat} {K : List AV → List AV → Sg → Prop} (hX : 461 ≠ X)  : Rq d m_L_law X 461 [l0, l1, l2, l3] (vI b :: vI a :: st) σ K ↔ Rq d m_L_law X 462 [l0, l1, l2, l3] (vI (a + b) :: st) σ K := k10_0 hX (show fnd (pgm m_L_law) 461 = some (462, 10, 0, 0, 0, []) from rfl)
set_option maxRecDepth 100000 in
theorem l_462 {d : Nat} {l0 l1 l2 l3 : AV} {st : List AV} {i : Int} {σ : Sg} {X : Nat} {K : List AV → List AV → Sg → Prop} (hX : 462 ≠ X) (hi : 0 ≤ w32 i ∧ w32 i < σ 999 (-1)) : Rq d m_L_law X 462 [l0, l1, l2, l3] (vI i :: vR 999 :: st) σ K ↔ Rq d m_L_law X 463 [l0, l1, l2, l3] (vI (σ 999 (w32 i)) :: st) σ K := k41 hX (show fnd (pgm m_L_law) 462 = some (463, 41, 0, 0, 0, []) from rfl) hi
set_option maxRecDepth 100000 in
theorem l_463 {d : Nat} {l0 l1 l2 l3 : AV} {st : List AV} {o : Nat} {a0 : Int} {a1 : Int} {σ : Sg} {X : Nat} {K : List AV → List AV → Sg → Prop} (hX : 463 ≠ X) (h4 : st.length ≤ 4) (hk : kn σ o = (0, 5)) : Rq d m_L_law X 463 [l0, l1, l2, l3] (vI a1 :: vI a0 :: vR o :: st) σ K ↔ ∃ r σ1, Ev d m_X5_need [vR o, vI a0, vI a1] σ r σ1 ∧ Rq d m_L_law X 466 [l0, l1, l2, l3] (psh r st) σ1 K := k35 hX (show fnd (pgm m_L_law) 463 = some (466, 35, 42, 59, 3, []) from rfl) ⟨⟨by simp, by simpa using h4⟩, (by simp only [List.take, List.reverse, List.reverseAux, rcv]; rw [if_neg (by decide +kernel)]; exact decide_eq_true hk)⟩
set_option maxRecDepth 100000 in
theorem l_466 {d : Nat} {l0 l1 l3 : AV} {st : List AV} {o : Nat} {σ : Sg} {X : Nat} {K : List AV → List AV → Sg → Prop} (hX : 466 ≠ X) (ho : o ≠ 0) : Rq d m_L_law X 466 [l0, l1, vR o, l3] st σ K ↔ Rq d m_L_law X 467 [l0, l1, vR o, l3] (vR o :: st) σ K := k5 hX (show fnd (pgm m_L_law) 466 = some (467, 5, 0, 2, 0, []) from rfl) rfl ho
set_option maxRecDepth 100000 in
theorem l_467 {d : Nat} {l1 l2 l3 : AV} {st : List AV} {o : Nat} {σ : Sg} {X : Nat} {K : List AV → List AV → Sg → Prop} (hX : 467 ≠ X) (ho : o ≠ 0) : Rq d m_L_law X 467 [vR o, l1, l2, l3] st σ K ↔ Rq d m_L_law X 468 [vR o, l1, l2, l3] (vR o :: st) σ K := k5 hX (show fnd (pgm m_L_law) 467 = some (468, 5, 0, 0, 0, []) from rfl) rfl ho
set_option maxRecDepth 100000 in
theorem l_468 {d : Nat} {l0 l1 l2 : AV} {st : List AV} {x : Int} {σ : Sg} {X : Nat} {K : List AV → List AV → Sg → Prop} (hX : 468 ≠ X)  : Rq d m_L_law X 468 [l0, l1, l2, vI x] st σ K ↔ Rq d m_L_law X 469 [l0, l1, l2, vI x] (vI x :: st) σ K := k3 hX (show fnd (pgm m_L_law) 468 = some (469, 3, 0, 3, 0, []) from rfl) rfl
set_option maxRecDepth 100000 in
theorem l_469 {d : Nat} {l0 l1 l2 l3 : AV} {st : List AV} {σ : Sg} {X : Nat} {K : List AV → List AV → Sg → Prop} (hX : 469 ≠ X)  : Rq d m_L_law X 469 [l0, l1, l2, l3] st σ K ↔ Rq d m_L_law X 470 [l0, l1, l2, l3] (vI 1 :: st) σ K := k0 hX (show fnd (pgm m_L_law) 469 = some (470, 0, 1, 0, 0, []) from rfl)
set_option maxRecDepth 100000 in
theorem l_470 {d : Nat} {l0 l1 l2 l3 : AV} {st : List AV} {a b : Int} {σ : Sg} {X : Nat} {K : List AV → List AV → Sg → Prop} (hX : 470 ≠ X)  : Rq d m_L_law X 470 [l0, l1, l2, l3] (vI b :: vI a :: st) σ K ↔ Rq d m_L_law X 471 [l0, l1, l2, l3] (vI (a + b) :: st) σ K := k10_0 hX (show fnd (pgm m_L_law) 470 = some (471, 10, 0, 0, 0, []) from rfl)
set_option maxRecDepth 100000 in
theorem l_471 {d : Nat} {l0 l1 l2 l3 : AV} {st : List AV} {i : Int} {σ : Sg} {X : Nat} {K : List AV → List AV → Sg → Prop} (hX : 471 ≠ X) (hi : 0 ≤ w32 i ∧ w32 i < σ 999 (-1)) : Rq d m_L_law X 471 [l0, l1, l2, l3] (vI i :: vR 999 :: st) σ K ↔ Rq d m_L_law X 472 [l0, l1, l2, l3] (vI (σ 999 (w32 i)) :: st) σ K := k41 hX (show fnd (pgm m_L_law) 471 = some (472, 41, 0, 0, 0, []) from rfl) hi
set_option maxRecDepth 100000 in
theorem l_472 {d : Nat} {l1 l2 l3 : AV} {st : List AV} {o : Nat} {σ : Sg} {X : Nat} {K : List AV → List AV → Sg → Prop} (hX : 472 ≠ X) (ho : o ≠ 0) : Rq d m_L_law X 472 [vR o, l1, l2, l3] st σ K ↔ Rq d m_L_law X 473 [vR o, l1, l2, l3] (vR o :: st) σ K := k5 hX (show fnd (pgm m_L_law) 472 = some (473, 5, 0, 0, 0, []) from rfl) rfl ho
set_option maxRecDepth 100000 in
theorem l_473 {d : Nat} {l0 l1 l2 : AV} {st : List AV} {x : Int} {σ : Sg} {X : Nat} {K : List AV → List AV → Sg → Prop} (hX : 473 ≠ X)  : Rq d m_L_law X 473 [l0, l1, l2, vI x] st σ K ↔ Rq d m_L_law X 474 [l0, l1, l2, vI x] (vI x :: st) σ K := k3 hX (show fnd (pgm m_L_law) 473 = some (474, 3, 0, 3, 0, []) from rfl) rfl
set_option maxRecDepth 100000 in
theorem l_474 {d : Nat} {l0 l1 l2 l3 : AV} {st : List AV} {σ : Sg} {X : Nat} {K : List AV → List AV → Sg → Prop} (hX : 474 ≠ X)  : Rq d m_L_law X 474 [l0, l1, l2, l3] st σ K ↔ Rq d m_L_law X 475 [l0, l1, l2, l3] (vI 2 :: st) σ K := k0 hX (show fnd (pgm m_L_law) 474 = some (475, 0, 2, 0, 0, []) from rfl)
set_option maxRecDepth 100000 in
theorem l_475 {d : Nat} {l0 l1 l2 l3 : AV} {st : List AV} {a b : Int} {σ : Sg} {X : Nat} {K : List AV → List AV → Sg → Prop} (hX : 475 ≠ X)  : Rq d m_L_law X 475 [l0, l1, l2, l3] (vI b :: vI a :: st) σ K ↔ Rq d m_L_law X 476 [l0, l1, l2, l3] (vI (a + b) :: st) σ K := k10_0 hX (show fnd (pgm m_L_law) 475 = some (476, 10, 0, 0, 0, []) from rfl)
set_option maxRecDepth 100000 in
theorem l_476 {d : Nat} {l0 l1 l2 l3 : AV} {st : List AV} {i : Int} {σ : Sg} {X : Nat} {K : List AV → List AV → Sg → Prop} (hX : 476 ≠ X) (hi : 0 ≤ w32 i ∧ w32 i < σ 999 (-1)) : Rq d m_L_law X 476 [l0, l1, l2, l3] (vI i :: vR 999 :: st) σ K ↔ Rq d m_L_law X 477 [l0, l1, l2, l3] (vI (σ 999 (w32 i)) :: st) σ K := k41 hX (show fnd (pgm m_L_law) 476 = some (477, 41, 0, 0, 0, []) from rfl) hi
set_option maxRecDepth 100000 in
theorem l_477 {d : Nat} {l0 l1 l2 l3 : AV} {st : List AV} {o : Nat} {a0 : Int} {a1 : Int} {σ : Sg} {X : Nat} {K : List AV → List AV → Sg → Prop} (hX : 477 ≠ X) (h4 : st.length ≤ 4) (hk : kn σ o = (0, 6)) : Rq d m_L_law X 477 [l0, l1, l2, l3] (vI a1 :: vI a0 :: vR o :: st) σ K ↔ ∃ r σ1, Ev d m_X6_need [vR o, vI a0, vI a1] σ r σ1 ∧ Rq d m_L_law X 480 [l0, l1, l2, l3] (psh r st) σ1 K := k35 hX (show fnd (pgm m_L_law) 477 = some (480, 35, 45, 126, 3, []) from rfl) ⟨⟨by simp, by simpa using h4⟩, (by simp only [List.take, List.reverse, List.reverseAux, rcv]; rw [if_neg (by decide +kernel)]; exact decide_eq_true hk)⟩
set_option maxRecDepth 100000 in
theorem l_480 {d : Nat} {l0 l1 l2 l3 : AV} {st : List AV} {a b : Int} {σ : Sg} {X : Nat} {K : List AV → List AV → Sg → Prop} (hX : 480 ≠ X)  : Rq d m_L_law X 480 [l0, l1, l2, l3] (vI b :: vI a :: st) σ K ↔ if w32 a = w32 b then Rq d m_L_law X 1364 [l0, l1, l2, l3] st σ K else Rq d m_L_law X 483 [l0, l1, l2, l3] st σ K := k20_0 hX (show fnd (pgm m_L_law) 480 = some (483, 20, 0, 0, 1364, []) from rfl)
set_option maxRecDepth 100000 in
theorem l_483 {d : Nat} {l0 l1 l2 l3 : AV} {st : List AV} {σ : Sg} {X : Nat} {K : List AV → List AV → Sg → Prop} (hX : 483 ≠ X)  : Rq d m_L_law X 483 [l0, l1, l2, l3] st σ K ↔ Rq d m_L_law X 484 [l0, l1, l2, l3] (vI 0 :: st) σ K := k0 hX (show fnd (pgm m_L_law) 483 = some (484, 0, 0, 0, 0, []) from rfl)
set_option maxRecDepth 100000 in
theorem l_485 {d : Nat} {l0 l2 l3 : AV} {st : List AV} {o : Nat} {σ : Sg} {X : Nat} {K : List AV → List AV → Sg → Prop} (hX : 485 ≠ X) (ho : o ≠ 0) : Rq d m_L_law X 485 [l0, vR o, l2, l3] st σ K ↔ Rq d m_L_law X 486 [l0, vR o, l2, l3] (vR o :: st) σ K := k5 hX (show fnd (pgm m_L_law) 485 = some (486, 5, 0, 1, 0, []) from rfl) rfl ho
set_option maxRecDepth 100000 in
theorem l_486 {d : Nat} {l1 l2 l3 : AV} {st : List AV} {o : Nat} {σ : Sg} {X : Nat} {K : List AV → List AV → Sg → Prop} (hX : 486 ≠ X) (ho : o ≠ 0) : Rq d m_L_law X 486 [vR o, l1, l2, l3] st σ K ↔ Rq d m_L_law X 487 [vR o, l1, l2, l3] (vR o :: st) σ K := k5 hX (show fnd (pgm m_L_law) 486 = some (487, 5, 0, 0, 0, []) from rfl) rfl ho
set_option maxRecDepth 100000 in
theorem l_487 {d : Nat} {l0 l1 l2 : AV} {st : List AV} {x : Int} {σ : Sg} {X : Nat} {K : List AV → List AV → Sg → Prop} (hX : 487 ≠ X)  : Rq d m_L_law X 487 [l0, l1, l2, vI x] st σ K ↔ Rq d m_L_law X 488 [l0, l1, l2, vI x] (vI x :: st) σ K := k3 hX (show fnd (pgm m_L_law) 487 = some (488, 3, 0, 3, 0, []) from rfl) rfl
set_option maxRecDepth 100000 in
theorem l_488 {d : Nat} {l0 l1 l2 l3 : AV} {st : List AV} {σ : Sg} {X : Nat} {K : List AV → List AV → Sg → Prop} (hX : 488 ≠ X)  : Rq d m_L_law X 488 [l0, l1, l2, l3] st σ K ↔ Rq d m_L_law X 489 [l0, l1, l2, l3] (vI 1 :: st) σ K := k0 hX (show fnd (pgm m_L_law) 488 = some (489, 0, 1, 0, 0, []) from rfl)
set_option maxRecDepth 100000 in
theorem l_489 {d : Nat} {l0 l1 l2 l3 : AV} {st : List AV} {a b : Int} {σ : Sg} {X : Nat} {K : List AV → List AV → Sg → Prop} (hX : 489 ≠ X)  : Rq d m_L_law X 489 [l0, l1, l2, l3] (vI b :: vI a :: st) σ K ↔ Rq d m_L_law X 490 [l0, l1, l2, l3] (vI (a + b) :: st) σ K := k10_0 hX (show fnd (pgm m_L_law) 489 = some (490, 10, 0, 0, 0, []) from rfl)
set_option maxRecDepth 100000 in
theorem l_490 {d : Nat} {l0 l1 l2 l3 : AV} {st : List AV} {i : Int} {σ : Sg} {X : Nat} {K : List AV → List AV → Sg → Prop} (hX : 490 ≠ X) (hi : 0 ≤ w32 i ∧ w32 i < σ 999 (-1)) : Rq d m_L_law X 490 [l0, l1, l2, l3] (vI i :: vR 999 :: st) σ K ↔ Rq d m_L_law X 491 [l0, l1, l2, l3] (vI (σ 999 (w32 i)) :: st) σ K := k41 hX (show fnd (pgm m_L_law) 490 = some (491, 41, 0, 0, 0, []) from rfl) hi
set_option maxRecDepth 100000 in
theorem l_491 {d : Nat} {l1 l2 l3 : AV} {st : List AV} {o : Nat} {σ : Sg} {X : Nat} {K : List AV → List AV → Sg → Prop} (hX : 491 ≠ X) (ho : o ≠ 0) : Rq d m_L_law X 491 [vR o, l1, l2, l3] st σ K ↔ Rq d m_L_law X 492 [vR o, l1, l2, l3] (vR o :: st) σ K := k5 hX (show fnd (pgm m_L_law) 491 = some (492, 5, 0, 0, 0, []) from rfl) rfl ho
set_option maxRecDepth 100000 in
theorem l_492 {d : Nat} {l0 l1 l2 : AV} {st : List AV} {x : Int} {σ : Sg} {X : Nat} {K : List AV → List AV → Sg → Prop} (hX : 492 ≠ X)  : Rq d m_L_law X 492 [l0, l1, l2, vI x] st σ K ↔ Rq d m_L_law X 493 [l0, l1, l2, vI x] (vI x :: st) σ K := k3 hX (show fnd (pgm m_L_law) 492 = some (493, 3, 0, 3, 0, []) from rfl) rfl
set_option maxRecDepth 100000 in
theorem l_493 {d : Nat} {l0 l1 l2 l3 : AV} {st : List AV} {σ : Sg} {X : Nat} {K : List AV → List AV → Sg → Prop} (hX : 493 ≠ X)  : Rq d m_L_law X 493 [l0, l1, l2, l3] st σ K ↔ Rq d m_L_law X 494 [l0, l1, l2, l3] (vI 2 :: st) σ K := k0 hX (show fnd (pgm m_L_law) 493 = some (494, 0, 2, 0, 0, []) from rfl)
set_option maxRecDepth 100000 in
theorem l_494 {d : Nat} {l0 l1 l2 l3 : AV} {st : List AV} {a b : Int} {σ : Sg} {X : Nat} {K : List AV → List AV → Sg → Prop} (hX : 494 ≠ X)  : Rq d m_L_law X 494 [l0, l1, l2, l3] (vI b :: vI a :: st) σ K ↔ Rq d m_L_law X 495 [l0, l1, l2, l3] (vI (a + b) :: st) σ K := k10_0 hX (show fnd (pgm m_L_law) 494 = some (495, 10, 0, 0, 0, []) from rfl)
set_option maxRecDepth 100000 in
theorem l_495 {d : Nat} {l0 l1 l2 l3 : AV} {st : List AV} {i : Int} {σ : Sg} {X : Nat} {K : List AV → List AV → Sg → Prop} (hX : 495 ≠ X) (hi : 0 ≤ w32 i ∧ w32 i < σ 999 (-1)) : Rq d m_L_law X 495 [l0, l1, l2, l3] (vI i :: vR 999 :: st) σ K ↔ Rq d m_L_law X 496 [l0, l1, l2, l3] (vI (σ 999 (w32 i)) :: st) σ K := k41 hX (show fnd (pgm m_L_law) 495 = some (496, 41, 0, 0, 0, []) from rfl) hi
set_option maxRecDepth 100000 in
theorem l_496 {d : Nat} {l0 l1 l2 l3 : AV} {st : List AV} {o : Nat} {a0 : Int} {a1 : Int} {σ : Sg} {X : Nat} {K : List AV → List AV → Sg → Prop} (hX : 496 ≠ X) (h4 : st.length ≤ 4) (hk : kn σ o = (0, 5)) : Rq d m_L_law X 496 [l0, l1, l2, l3] (vI a1 :: vI a0 :: vR o :: st) σ K ↔ ∃ r σ1, Ev d m_X5_lies [vR o, vI a0, vI a1] σ r σ1 ∧ Rq d m_L_law X 499 [l0, l1, l2, l3] (psh r st) σ1 K := k35 hX (show fnd (pgm m_L_law) 496 = some (499, 35, 46, 60, 3, []) from rfl) ⟨⟨by simp, by simpa using h4⟩, (by simp only [List.take, List.reverse, List.reverseAux, rcv]; rw [if_neg (by decide +kernel)]; exact decide_eq_true hk)⟩
set_option maxRecDepth 100000 in
theorem l_499 {d : Nat} {l0 l1 l3 : AV} {st : List AV} {o : Nat} {σ : Sg} {X : Nat} {K : List AV → List AV → Sg → Prop} (hX : 499 ≠ X) (ho : o ≠ 0) : Rq d m_L_law X 499 [l0, l1, vR o, l3] st σ K ↔ Rq d m_L_law X 500 [l0, l1, vR o, l3] (vR o :: st) σ K := k5 hX (show fnd (pgm m_L_law) 499 = some (500, 5, 0, 2, 0, []) from rfl) rfl ho
set_option maxRecDepth 100000 in
theorem l_500 {d : Nat} {l1 l2 l3 : AV} {st : List AV} {o : Nat} {σ : Sg} {X : Nat} {K : List AV → List AV → Sg → Prop} (hX : 500 ≠ X) (ho : o ≠ 0) : Rq d m_L_law X 500 [vR o, l1, l2, l3] st σ K ↔ Rq d m_L_law X 501 [vR o, l1, l2, l3] (vR o :: st) σ K := k5 hX (show fnd (pgm m_L_law) 500 = some (501, 5, 0, 0, 0, []) from rfl) rfl ho
set_option maxRecDepth 100000 in
theorem l_501 {d : Nat} {l0 l1 l2 : AV} {st : List AV} {x : Int} {σ : Sg} {X : Nat} {K : List AV → List AV → Sg → Prop} (hX : 501 ≠ X)  : Rq d m_L_law X 501 [l0, l1, l2, vI x] st σ K ↔ Rq d m_L_law X 502 [l0, l1, l2, vI x] (vI x :: st) σ K := k3 hX (show fnd (pgm m_L_law) 501 = some (502, 3, 0, 3, 0, []) from rfl) rfl
set_option maxRecDepth 100000 in
theorem l_502 {d : Nat} {l0 l1 l2 l3 : AV} {st : List AV} {σ : Sg} {X : Nat} {K : List AV → List AV → Sg → Prop} (hX : 502 ≠ X)  : Rq d m_L_law X 502 [l0, l1, l2, l3] st σ K ↔ Rq d m_L_law X 503 [l0, l1, l2, l3] (vI 1 :: st) σ K := k0 hX (show fnd (pgm m_L_law) 502 = some (503, 0, 1, 0, 0, []) from rfl)
set_option maxRecDepth 100000 in
theorem l_503 {d : Nat} {l0 l1 l2 l3 : AV} {st : List AV} {a b : Int} {σ : Sg} {X : Nat} {K : List AV → List AV → Sg → Prop} (hX : 503 ≠ X)  : Rq d m_L_law X 503 [l0, l1, l2, l3] (vI b :: vI a :: st) σ K ↔ Rq d m_L_law X 504 [l0, l1, l2, l3] (vI (a + b) :: st) σ K := k10_0 hX (show fnd (pgm m_L_law) 503 = some (504, 10, 0, 0, 0, []) from rfl)
set_option maxRecDepth 100000 in
theorem l_504 {d : Nat} {l0 l1 l2 l3 : AV} {st : List AV} {i : Int} {σ : Sg} {X : Nat} {K : List AV → List AV → Sg → Prop} (hX : 504 ≠ X) (hi : 0 ≤ w32 i ∧ w32 i < σ 999 (-1)) : Rq d m_L_law X 504 [l0, l1, l2, l3] (vI i :: vR 999 :: st) σ K ↔ Rq d m_L_law X 505 [l0, l1, l2, l3] (vI (σ 999 (w32 i)) :: st) σ K := k41 hX (show fnd (pgm m_L_law) 504 = some (505, 41, 0, 0, 0, []) from rfl) hi
set_option maxRecDepth 100000 in
theorem l_505 {d : Nat} {l1 l2 l3 : AV} {st : List AV} {o : Nat} {σ : Sg} {X : Nat} {K : List AV → List AV → Sg → Prop} (hX : 505 ≠ X) (ho : o ≠ 0) : Rq d m_L_law X 505 [vR o, l1, l2, l3] st σ K ↔ Rq d m_L_law X 506 [vR o, l1, l2, l3] (vR o :: st) σ K := k5 hX (show fnd (pgm m_L_law) 505 = some (506, 5, 0, 0, 0, []) from rfl) rfl ho
set_option maxRecDepth 100000 in
theorem l_506 {d : Nat} {l0 l1 l2 : AV} {st : List AV} {x : Int} {σ : Sg} {X : Nat} {K : List AV → List AV → Sg → Prop} (hX : 506 ≠ X)  : Rq d m_L_law X 506 [l0, l1, l2, vI x] st σ K ↔ Rq d m_L_law X 507 [l0, l1, l2, vI x] (vI x :: st) σ K := k3 hX (show fnd (pgm m_L_law) 506 = some (507, 3, 0, 3, 0, []) from rfl) rfl
set_option maxRecDepth 100000 in
theorem l_507 {d : Nat} {l0 l1 l2 l3 : AV} {st : List AV} {σ : Sg} {X : Nat} {K : List AV → List AV → Sg → Prop} (hX : 507 ≠ X)  : Rq d m_L_law X 507 [l0, l1, l2, l3] st σ K ↔ Rq d m_L_law X 508 [l0, l1, l2, l3] (vI 2 :: st) σ K := k0 hX (show fnd (pgm m_L_law) 507 = some (508, 0, 2, 0, 0, []) from rfl)
set_option maxRecDepth 100000 in
theorem l_508 {d : Nat} {l0 l1 l2 l3 : AV} {st : List AV} {a b : Int} {σ : Sg} {X : Nat} {K : List AV → List AV → Sg → Prop} (hX : 508 ≠ X)  : Rq d m_L_law X 508 [l0, l1, l2, l3] (vI b :: vI a :: st) σ K ↔ Rq d m_L_law X 509 [l0, l1, l2, l3] (vI (a + b) :: st) σ K := k10_0 hX (show fnd (pgm m_L_law) 508 = some (509, 10, 0, 0, 0, []) from rfl)
set_option maxRecDepth 100000 in
theorem l_509 {d : Nat} {l0 l1 l2 l3 : AV} {st : List AV} {i : Int} {σ : Sg} {X : Nat} {K : List AV → List AV → Sg → Prop} (hX : 509 ≠ X) (hi : 0 ≤ w32 i ∧ w32 i < σ 999 (-1)) : Rq d m_L_law X 509 [l0, l1, l2, l3] (vI i :: vR 999 :: st) σ K ↔ Rq d m_L_law X 510 [l0, l1, l2, l3] (vI (σ 999 (w32 i)) :: st) σ K := k41 hX (show fnd (pgm m_L_law) 509 = some (510, 41, 0, 0, 0, []) from rfl) hi
set_option maxRecDepth 100000 in
theorem l_510 {d : Nat} {l0 l1 l2 l3 : AV} {st : List AV} {o : Nat} {a0 : Int} {a1 : Int} {σ : Sg} {X : Nat} {K : List AV → List AV → Sg → Prop} (hX : 510 ≠ X) (h4 : st.length ≤ 4) (hk : kn σ o = (0, 6)) : Rq d m_L_law X 510 [l0, l1, l2, l3] (vI a1 :: vI a0 :: vR o :: st) σ K ↔ ∃ r σ1, Ev d m_X6_lies [vR o, vI a0, vI a1] σ r σ1 ∧ Rq d m_L_law X 513 [l0, l1, l2, l3] (psh r st) σ1 K := k35 hX (show fnd (pgm m_L_law) 510 = some (513, 35, 49, 131, 3, []) from rfl) ⟨⟨by simp, by simpa using h4⟩, (by simp only [List.take, List.reverse, List.reverseAux, rcv]; rw [if_neg (by decide +kernel)]; exact decide_eq_true hk)⟩
set_option maxRecDepth 100000 in
theorem l_513 {d : Nat} {l0 l1 l2 l3 : AV} {st : List AV} {a b : Int} {σ : Sg} {X : Nat} {K : List AV → List AV → Sg → Prop} (hX : 513 ≠ X)  : Rq d m_L_law X 513 [l0, l1, l2, l3] (vI b :: vI a :: st) σ K ↔ if w32 a = w32 b then Rq d m_L_law X 1364 [l0, l1, l2, l3] st σ K else Rq d m_L_law X 516 [l0, l1, l2, l3] st σ K := k20_0 hX (show fnd (pgm m_L_law) 513 = some (516, 20, 0, 0, 1364, []) from rfl)
set_option maxRecDepth 100000 in
theorem l_516 {d : Nat} {l0 l1 l2 l3 : AV} {st : List AV} {σ : Sg} {X : Nat} {K : List AV → List AV → Sg → Prop} (hX : 516 ≠ X)  : Rq d m_L_law X 516 [l0, l1, l2, l3] st σ K ↔ Rq d m_L_law X 517 [l0, l1, l2, l3] (vI 0 :: st) σ K := k0 hX (show fnd (pgm m_L_law) 516 = some (517, 0, 0, 0, 0, []) from rfl)
set_option maxRecDepth 100000 in
theorem l_518 {d : Nat} {l0 l2 l3 : AV} {st : List AV} {o : Nat} {σ : Sg} {X : Nat} {K : List AV → List AV → Sg → Prop} (hX : 518 ≠ X) (ho : o ≠ 0) : Rq d m_L_law X 518 [l0, vR o, l2, l3] st σ K ↔ Rq d m_L_law X 519 [l0, vR o, l2, l3] (vR o :: st) σ K := k5 hX (show fnd (pgm m_L_law) 518 = some (519, 5, 0, 1, 0, []) from rfl) rfl ho
set_option maxRecDepth 100000 in
theorem l_519 {d : Nat} {l1 l2 l3 : AV} {st : List AV} {o : Nat} {σ : Sg} {X : Nat} {K : List AV → List AV → Sg → Prop} (hX : 519 ≠ X) (ho : o ≠ 0) : Rq d m_L_law X 519 [vR o, l1, l2, l3] st σ K ↔ Rq d m_L_law X 520 [vR o, l1, l2, l3] (vR o :: st) σ K := k5 hX (show fnd (pgm m_L_law) 519 = some (520, 5, 0, 0, 0, []) from rfl) rfl ho
set_option maxRecDepth 100000 in
theorem l_520 {d : Nat} {l0 l1 l2 : AV} {st : List AV} {x : Int} {σ : Sg} {X : Nat} {K : List AV → List AV → Sg → Prop} (hX : 520 ≠ X)  : Rq d m_L_law X 520 [l0, l1, l2, vI x] st σ K ↔ Rq d m_L_law X 521 [l0, l1, l2, vI x] (vI x :: st) σ K := k3 hX (show fnd (pgm m_L_law) 520 = some (521, 3, 0, 3, 0, []) from rfl) rfl
set_option maxRecDepth 100000 in
theorem l_521 {d : Nat} {l0 l1 l2 l3 : AV} {st : List AV} {σ : Sg} {X : Nat} {K : List AV → List AV → Sg → Prop} (hX : 521 ≠ X)  : Rq d m_L_law X 521 [l0, l1, l2, l3] st σ K ↔ Rq d m_L_law X 522 [l0, l1, l2, l3] (vI 1 :: st) σ K := k0 hX (show fnd (pgm m_L_law) 521 = some (522, 0, 1, 0, 0, []) from rfl)
set_option maxRecDepth 100000 in
theorem l_522 {d : Nat} {l0 l1 l2 l3 : AV} {st : List AV} {a b : Int} {σ : Sg} {X : Nat} {K : List AV → List AV → Sg → Prop} (hX : 522 ≠ X)  : Rq d m_L_law X 522 [l0, l1, l2, l3] (vI b :: vI a :: st) σ K ↔ Rq d m_L_law X 523 [l0, l1, l2, l3] (vI (a + b) :: st) σ K := k10_0 hX (show fnd (pgm m_L_law) 522 = some (523, 10, 0, 0, 0, []) from rfl)
set_option maxRecDepth 100000 in
theorem l_523 {d : Nat} {l0 l1 l2 l3 : AV} {st : List AV} {i : Int} {σ : Sg} {X : Nat} {K : List AV → List AV → Sg → Prop} (hX : 523 ≠ X) (hi : 0 ≤ w32 i ∧ w32 i < σ 999 (-1)) : Rq d m_L_law X 523 [l0, l1, l2, l3] (vI i :: vR 999 :: st) σ K ↔ Rq d m_L_law X 524 [l0, l1, l2, l3] (vI (σ 999 (w32 i)) :: st) σ K := k41 hX (show fnd (pgm m_L_law) 523 = some (524, 41, 0, 0, 0, []) from rfl) hi
set_option maxRecDepth 100000 in
theorem l_524 {d : Nat} {l0 l1 l2 l3 : AV} {st : List AV} {o : Nat} {a0 : Int} {σ : Sg} {X : Nat} {K : List AV → List AV → Sg → Prop} (hX : 524 ≠ X) (h4 : st.length ≤ 4) (hk : kn σ o = (0, 5)) : Rq d m_L_law X 524 [l0, l1, l2, l3] (vI a0 :: vR o :: st) σ K ↔ ∃ r σ1, Ev d m_X5_moved [vR o, vI a0] σ r σ1 ∧ Rq d m_L_law X 527 [l0, l1, l2, l3] (psh r st) σ1 K := k35 hX (show fnd (pgm m_L_law) 524 = some (527, 35, 50, 61, 2, []) from rfl) ⟨⟨by simp, by simpa using h4⟩, (by simp only [List.take, List.reverse, List.reverseAux, rcv]; rw [if_neg (by decide +kernel)]; exact decide_eq_true hk)⟩
set_option maxRecDepth 100000 in
theorem l_527 {d : Nat} {l0 l1 l3 : AV} {st : List AV} {o : Nat} {σ : Sg} {X : Nat} {K : List AV → List AV → Sg → Prop} (hX : 527 ≠ X) (ho : o ≠ 0) : Rq d m_L_law X 527 [l0, l1, vR o, l3] st σ K ↔ Rq d m_L_law X 528 [l0, l1, vR o, l3] (vR o :: st) σ K := k5 hX (show fnd (pgm m_L_law) 527 = some (528, 5, 0, 2, 0, []) from rfl) rfl ho
set_option maxRecDepth 100000 in
theorem l_528 {d : Nat} {l1 l2 l3 : AV} {st : List AV} {o : Nat} {σ : Sg} {X : Nat} {K : List AV → List AV → Sg → Prop} (hX : 528 ≠ X) (ho : o ≠ 0) : Rq d m_L_law X 528 [vR o, l1, l2, l3] st σ K ↔ Rq d m_L_law X 529 [vR o, l1, l2, l3] (vR o :: st) σ K := k5 hX (show fnd (pgm m_L_law) 528 = some (529, 5, 0, 0, 0, []) from rfl) rfl ho
set_option maxRecDepth 100000 in
theorem l_529 {d : Nat} {l0 l1 l2 : AV} {st : List AV} {x : Int} {σ : Sg} {X : Nat} {K : List AV → List AV → Sg → Prop} (hX : 529 ≠ X)  : Rq d m_L_law X 529 [l0, l1, l2, vI x] st σ K ↔ Rq d m_L_law X 530 [l0, l1, l2, vI x] (vI x :: st) σ K := k3 hX (show fnd (pgm m_L_law) 529 = some (530, 3, 0, 3, 0, []) from rfl) rfl
set_option maxRecDepth 100000 in
theorem l_530 {d : Nat} {l0 l1 l2 l3 : AV} {st : List AV} {σ : Sg} {X : Nat} {K : List AV → List AV → Sg → Prop} (hX : 530 ≠ X)  : Rq d m_L_law X 530 [l0, l1, l2, l3] st σ K ↔ Rq d m_L_law X 531 [l0, l1, l2, l3] (vI 1 :: st) σ K := k0 hX (show fnd (pgm m_L_law) 530 = some (531, 0, 1, 0, 0, []) from rfl)
set_option maxRecDepth 100000 in
theorem l_531 {d : Nat} {l0 l1 l2 l3 : AV} {st : List AV} {a b : Int} {σ : Sg} {X : Nat} {K : List AV → List AV → Sg → Prop} (hX : 531 ≠ X)  : Rq d m_L_law X 531 [l0, l1, l2, l3] (vI b :: vI a :: st) σ K ↔ Rq d m_L_law X 532 [l0, l1, l2, l3] (vI (a + b) :: st) σ K := k10_0 hX (show fnd (pgm m_L_law) 531 = some (532, 10, 0, 0, 0, []) from rfl)
set_option maxRecDepth 100000 in
theorem l_532 {d : Nat} {l0 l1 l2 l3 : AV} {st : List AV} {i : Int} {σ : Sg} {X : Nat} {K : List AV → List AV → Sg → Prop} (hX : 532 ≠ X) (hi : 0 ≤ w32 i ∧ w32 i < σ 999 (-1)) : Rq d m_L_law X 532 [l0, l1, l2, l3] (vI i :: vR 999 :: st) σ K ↔ Rq d m_L_law X 533 [l0, l1, l2, l3] (vI (σ 999 (w32 i)) :: st) σ K := k41 hX (show fnd (pgm m_L_law) 532 = some (533, 41, 0, 0, 0, []) from rfl) hi
set_option maxRecDepth 100000 in
theorem l_533 {d : Nat} {l0 l1 l2 l3 : AV} {st : List AV} {o : Nat} {a0 : Int} {σ : Sg} {X : Nat} {K : List AV → List AV → Sg → Prop} (hX : 533 ≠ X) (h4 : st.length ≤ 4) (hk : kn σ o = (0, 6)) : Rq d m_L_law X 533 [l0, l1, l2, l3] (vI a0 :: vR o :: st) σ K ↔ ∃ r σ1, Ev d m_X6_moved [vR o, vI a0] σ r σ1 ∧ Rq d m_L_law X 536 [l0, l1, l2, l3] (psh r st) σ1 K := k35 hX (show fnd (pgm m_L_law) 533 = some (536, 35, 53, 133, 2, []) from rfl) ⟨⟨by simp, by simpa using h4⟩, (by simp only [List.take, List.reverse, List.reverseAux, rcv]; rw [if_neg (by decide +kernel)]; exact decide_eq_true hk)⟩
set_option maxRecDepth 100000 in
theorem l_536 {d : Nat} {l0 l1 l2 l3 : AV} {st : List AV} {a b : Int} {σ : Sg} {X : Nat} {K : List AV → List AV → Sg → Prop} (hX : 536 ≠ X)  : Rq d m_L_law X 536 [l0, l1, l2, l3] (vI b :: vI a :: st) σ K ↔ if w32 a = w32 b then Rq d m_L_law X 1364 [l0, l1, l2, l3] st σ K else Rq d m_L_law X 539 [l0, l1, l2, l3] st σ K := k20_0 hX (show fnd (pgm m_L_law) 536 = some (539, 20, 0, 0, 1364, []) from rfl)
set_option maxRecDepth 100000 in
theorem l_539 {d : Nat} {l0 l1 l2 l3 : AV} {st : List AV} {σ : Sg} {X : Nat} {K : List AV → List AV → Sg → Prop} (hX : 539 ≠ X)  : Rq d m_L_law X 539 [l0, l1, l2, l3] st σ K ↔ Rq d m_L_law X 540 [l0, l1, l2, l3] (vI 0 :: st) σ K := k0 hX (show fnd (pgm m_L_law) 539 = some (540, 0, 0, 0, 0, []) from rfl)
set_option maxRecDepth 100000 in
theorem l_541 {d : Nat} {l0 l2 l3 : AV} {st : List AV} {o : Nat} {σ : Sg} {X : Nat} {K : List AV → List AV → Sg → Prop} (hX : 541 ≠ X) (ho : o ≠ 0) : Rq d m_L_law X 541 [l0, vR o, l2, l3] st σ K ↔ Rq d m_L_law X 542 [l0, vR o, l2, l3] (vR o :: st) σ K := k5 hX (show fnd (pgm m_L_law) 541 = some (542, 5, 0, 1, 0, []) from rfl) rfl ho
set_option maxRecDepth 100000 in
theorem l_542 {d : Nat} {l1 l2 l3 : AV} {st : List AV} {o : Nat} {σ : Sg} {X : Nat} {K : List AV → List AV → Sg → Prop} (hX : 542 ≠ X) (ho : o ≠ 0) : Rq d m_L_law X 542 [vR o, l1, l2, l3] st σ K ↔ Rq d m_L_law X 543 [vR o, l1, l2, l3] (vR o :: st) σ K := k5 hX (show fnd (pgm m_L_law) 542 = some (543, 5, 0, 0, 0, []) from rfl) rfl ho
set_option maxRecDepth 100000 in
theorem l_543 {d : Nat} {l0 l1 l2 : AV} {st : List AV} {x : Int} {σ : Sg} {X : Nat} {K : List AV → List AV → Sg → Prop} (hX : 543 ≠ X)  : Rq d m_L_law X 543 [l0, l1, l2, vI x] st σ K ↔ Rq d m_L_law X 544 [l0, l1, l2, vI x] (vI x :: st) σ K := k3 hX (show fnd (pgm m_L_law) 543 = some (544, 3, 0, 3, 0, []) from rfl) rfl
set_option maxRecDepth 100000 in
theorem l_544 {d : Nat} {l0 l1 l2 l3 : AV} {st : List AV} {σ : Sg} {X : Nat} {K : List AV → List AV → Sg → Prop} (hX : 544 ≠ X)  : Rq d m_L_law X 544 [l0, l1, l2, l3] st σ K ↔ Rq d m_L_law X 545 [l0, l1, l2, l3] (vI 1 :: st) σ K := k0 hX (show fnd (pgm m_L_law) 544 = some (545, 0, 1, 0, 0, []) from rfl)
set_option maxRecDepth 100000 in
theorem l_545 {d : Nat} {l0 l1 l2 l3 : AV} {st : List AV} {a b : Int} {σ : Sg} {X : Nat} {K : List AV → List AV → Sg → Prop} (hX : 545 ≠ X)  : Rq d m_L_law X 545 [l0, l1, l2, l3] (vI b :: vI a :: st) σ K ↔ Rq d m_L_law X 546 [l0, l1, l2, l3] (vI (a + b) :: st) σ K := k10_0 hX (show fnd (pgm m_L_law) 545 = some (546, 10, 0, 0, 0, []) from rfl)
set_option maxRecDepth 100000 in
theorem l_546 {d : Nat} {l0 l1 l2 l3 : AV} {st : List AV} {i : Int} {σ : Sg} {X : Nat} {K : List AV → List AV → Sg → Prop} (hX : 546 ≠ X) (hi : 0 ≤ w32 i ∧ w32 i < σ 999 (-1)) : Rq d m_L_law X 546 [l0, l1, l2, l3] (vI i :: vR 999 :: st) σ K ↔ Rq d m_L_law X 547 [l0, l1, l2, l3] (vI (σ 999 (w32 i)) :: st) σ K := k41 hX (show fnd (pgm m_L_law) 546 = some (547, 41, 0, 0, 0, []) from rfl) hi
set_option maxRecDepth 100000 in
theorem l_547 {d : Nat} {l1 l2 l3 : AV} {st : List AV} {o : Nat} {σ : Sg} {X : Nat} {K : List AV → List AV → Sg → Prop} (hX : 547 ≠ X) (ho : o ≠ 0) : Rq d m_L_law X 547 [vR o, l1, l2, l3] st σ K ↔ Rq d m_L_law X 548 [vR o, l1, l2, l3] (vR o :: st) σ K := k5 hX (show fnd (pgm m_L_law) 547 = some (548, 5, 0, 0, 0, []) from rfl) rfl ho
set_option maxRecDepth 100000 in
theorem l_548 {d : Nat} {l0 l1 l2 : AV} {st : List AV} {x : Int} {σ : Sg} {X : Nat} {K : List AV → List AV → Sg → Prop} (hX : 548 ≠ X)  : Rq d m_L_law X 548 [l0, l1, l2, vI x] st σ K ↔ Rq d m_L_law X 549 [l0, l1, l2, vI x] (vI x :: st) σ K := k3 hX (show fnd (pgm m_L_law) 548 = some (549, 3, 0, 3, 0, []) from rfl) rfl
set_option maxRecDepth 100000 in
theorem l_549 {d : Nat} {l0 l1 l2 l3 : AV} {st : List AV} {σ : Sg} {X : Nat} {K : List AV → List AV → Sg → Prop} (hX : 549 ≠ X)  : Rq d m_L_law X 549 [l0, l1, l2, l3] st σ K ↔ Rq d m_L_law X 550 [l0, l1, l2, l3] (vI 2 :: st) σ K := k0 hX (show fnd (pgm m_L_law) 549 = some (550, 0, 2, 0, 0, []) from rfl)
set_option maxRecDepth 100000 in
theorem l_550 {d : Nat} {l0 l1 l2 l3 : AV} {st : List AV} {a b : Int} {σ : Sg} {X : Nat} {K : List AV → List AV → Sg → Prop} (hX : 550 ≠ X)  : Rq d m_L_law X 550 [l0, l1, l2, l3] (vI b :: vI a :: st) σ K ↔ Rq d m_L_law X 551 [l0, l1, l2, l3] (vI (a + b) :: st) σ K := k10_0 hX (show fnd (pgm m_L_law) 550 = some (551, 10, 0, 0, 0, []) from rfl)
set_option maxRecDepth 100000 in
theorem l_551 {d : Nat} {l0 l1 l2 l3 : AV} {st : List AV} {i : Int} {σ : Sg} {X : Nat} {K : List AV → List AV → Sg → Prop} (hX : 551 ≠ X) (hi : 0 ≤ w32 i ∧ w32 i < σ 999 (-1)) : Rq d m_L_law X 551 [l0, l1, l2, l3] (vI i :: vR 999 :: st) σ K ↔ Rq d m_L_law X 552 [l0, l1, l2, l3] (vI (σ 999 (w32 i)) :: st) σ K := k41 hX (show fnd (pgm m_L_law) 551 = some (552, 41, 0, 0, 0, []) from rfl) hi
set_option maxRecDepth 100000 in
theorem l_552 {d : Nat} {l0 l1 l2 l3 : AV} {st : List AV} {o : Nat} {a0 : Int} {a1 : Int} {σ : Sg} {X : Nat} {K : List AV → List AV → Sg → Prop} (hX : 552 ≠ X) (h4 : st.length ≤ 4) (hk : kn σ o = (0, 5)) : Rq d m_L_law X 552 [l0, l1, l2, l3] (vI a1 :: vI a0 :: vR o :: st) σ K ↔ ∃ r σ1, Ev d m_X5_work [vR o, vI a0, vI a1] σ r σ1 ∧ Rq d m_L_law X 555 [l0, l1, l2, l3] (psh r st) σ1 K := k35 hX (show fnd (pgm m_L_law) 552 = some (555, 35, 54, 62, 3, []) from rfl) ⟨⟨by simp, by simpa using h4⟩, (by simp only [List.take, List.reverse, List.reverseAux, rcv]; rw [if_neg (by decide +kernel)]; exact decide_eq_true hk)⟩
set_option maxRecDepth 100000 in
theorem l_555 {d : Nat} {l0 l1 l3 : AV} {st : List AV} {o : Nat} {σ : Sg} {X : Nat} {K : List AV → List AV → Sg → Prop} (hX : 555 ≠ X) (ho : o ≠ 0) : Rq d m_L_law X 555 [l0, l1, vR o, l3] st σ K ↔ Rq d m_L_law X 556 [l0, l1, vR o, l3] (vR o :: st) σ K := k5 hX (show fnd (pgm m_L_law) 555 = some (556, 5, 0, 2, 0, []) from rfl) rfl ho
set_option maxRecDepth 100000 in
theorem l_556 {d : Nat} {l1 l2 l3 : AV} {st : List AV} {o : Nat} {σ : Sg} {X : Nat} {K : List AV → List AV → Sg → Prop} (hX : 556 ≠ X) (ho : o ≠ 0) : Rq d m_L_law X 556 [vR o, l1, l2, l3] st σ K ↔ Rq d m_L_law X 557 [vR o, l1, l2, l3] (vR o :: st) σ K := k5 hX (show fnd (pgm m_L_law) 556 = some (557, 5, 0, 0, 0, []) from rfl) rfl ho
set_option maxRecDepth 100000 in
theorem l_557 {d : Nat} {l0 l1 l2 : AV} {st : List AV} {x : Int} {σ : Sg} {X : Nat} {K : List AV → List AV → Sg → Prop} (hX : 557 ≠ X)  : Rq d m_L_law X 557 [l0, l1, l2, vI x] st σ K ↔ Rq d m_L_law X 558 [l0, l1, l2, vI x] (vI x :: st) σ K := k3 hX (show fnd (pgm m_L_law) 557 = some (558, 3, 0, 3, 0, []) from rfl) rfl
set_option maxRecDepth 100000 in
theorem l_558 {d : Nat} {l0 l1 l2 l3 : AV} {st : List AV} {σ : Sg} {X : Nat} {K : List AV → List AV → Sg → Prop} (hX : 558 ≠ X)  : Rq d m_L_law X 558 [l0, l1, l2, l3] st σ K ↔ Rq d m_L_law X 559 [l0, l1, l2, l3] (vI 1 :: st) σ K := k0 hX (show fnd (pgm m_L_law) 558 = some (559, 0, 1, 0, 0, []) from rfl)
set_option maxRecDepth 100000 in
theorem l_559 {d : Nat} {l0 l1 l2 l3 : AV} {st : List AV} {a b : Int} {σ : Sg} {X : Nat} {K : List AV → List AV → Sg → Prop} (hX : 559 ≠ X)  : Rq d m_L_law X 559 [l0, l1, l2, l3] (vI b :: vI a :: st) σ K ↔ Rq d m_L_law X 560 [l0, l1, l2, l3] (vI (a + b) :: st) σ K := k10_0 hX (show fnd (pgm m_L_law) 559 = some (560, 10, 0, 0, 0, []) from rfl)
set_option maxRecDepth 100000 in
theorem l_560 {d : Nat} {l0 l1 l2 l3 : AV} {st : List AV} {i : Int} {σ : Sg} {X : Nat} {K : List AV → List AV → Sg → Prop} (hX : 560 ≠ X) (hi : 0 ≤ w32 i ∧ w32 i < σ 999 (-1)) : Rq d m_L_law X 560 [l0, l1, l2, l3] (vI i :: vR 999 :: st) σ K ↔ Rq d m_L_law X 561 [l0, l1, l2, l3] (vI (σ 999 (w32 i)) :: st) σ K := k41 hX (show fnd (pgm m_L_law) 560 = some (561, 41, 0, 0, 0, []) from rfl) hi
set_option maxRecDepth 100000 in
theorem l_561 {d : Nat} {l1 l2 l3 : AV} {st : List AV} {o : Nat} {σ : Sg} {X : Nat} {K : List AV → List AV → Sg → Prop} (hX : 561 ≠ X) (ho : o ≠ 0) : Rq d m_L_law X 561 [vR o, l1, l2, l3] st σ K ↔ Rq d m_L_law X 562 [vR o, l1, l2, l3] (vR o :: st) σ K := k5 hX (show fnd (pgm m_L_law) 561 = some (562, 5, 0, 0, 0, []) from rfl) rfl ho
set_option maxRecDepth 100000 in
theorem l_562 {d : Nat} {l0 l1 l2 : AV} {st : List AV} {x : Int} {σ : Sg} {X : Nat} {K : List AV → List AV → Sg → Prop} (hX : 562 ≠ X)  : Rq d m_L_law X 562 [l0, l1, l2, vI x] st σ K ↔ Rq d m_L_law X 563 [l0, l1, l2, vI x] (vI x :: st) σ K := k3 hX (show fnd (pgm m_L_law) 562 = some (563, 3, 0, 3, 0, []) from rfl) rfl
set_option maxRecDepth 100000 in
theorem l_563 {d : Nat} {l0 l1 l2 l3 : AV} {st : List AV} {σ : Sg} {X : Nat} {K : List AV → List AV → Sg → Prop} (hX : 563 ≠ X)  : Rq d m_L_law X 563 [l0, l1, l2, l3] st σ K ↔ Rq d m_L_law X 564 [l0, l1, l2, l3] (vI 2 :: st) σ K := k0 hX (show fnd (pgm m_L_law) 563 = some (564, 0, 2, 0, 0, []) from rfl)
set_option maxRecDepth 100000 in
theorem l_564 {d : Nat} {l0 l1 l2 l3 : AV} {st : List AV} {a b : Int} {σ : Sg} {X : Nat} {K : List AV → List AV → Sg → Prop} (hX : 564 ≠ X)  : Rq d m_L_law X 564 [l0, l1, l2, l3] (vI b :: vI a :: st) σ K ↔ Rq d m_L_law X 565 [l0, l1, l2, l3] (vI (a + b) :: st) σ K := k10_0 hX (show fnd (pgm m_L_law) 564 = some (565, 10, 0, 0, 0, []) from rfl)
set_option maxRecDepth 100000 in
theorem l_565 {d : Nat} {l0 l1 l2 l3 : AV} {st : List AV} {i : Int} {σ : Sg} {X : Nat} {K : List AV → List AV → Sg → Prop} (hX : 565 ≠ X) (hi : 0 ≤ w32 i ∧ w32 i < σ 999 (-1)) : Rq d m_L_law X 565 [l0, l1, l2, l3] (vI i :: vR 999 :: st) σ K ↔ Rq d m_L_law X 566 [l0, l1, l2, l3] (vI (σ 999 (w32 i)) :: st) σ K := k41 hX (show fnd (pgm m_L_law) 565 = some (566, 41, 0, 0, 0, []) from rfl) hi
set_option maxRecDepth 100000 in
theorem l_566 {d : Nat} {l0 l1 l2 l3 : AV} {st : List AV} {o : Nat} {a0 : Int} {a1 : Int} {σ : Sg} {X : Nat} {K : List AV → List AV → Sg → Prop} (hX : 566 ≠ X) (h4 : st.length ≤ 4) (hk : kn σ o = (0, 6)) : Rq d m_L_law X 566 [l0, l1, l2, l3] (vI a1 :: vI a0 :: vR o :: st) σ K ↔ ∃ r σ1, Ev d m_X6_work [vR o, vI a0, vI a1] σ r σ1 ∧ Rq d m_L_law X 569 [l0, l1, l2, l3] (psh r st) σ1 K := k35 hX (show fnd (pgm m_L_law) 566 = some (569, 35, 57, 134, 3, []) from rfl) ⟨⟨by simp, by simpa using h4⟩, (by simp only [List.take, List.reverse, List.reverseAux, rcv]; rw [if_neg (by decide +kernel)]; exact decide_eq_true hk)⟩
set_option maxRecDepth 100000 in
theorem l_569 {d : Nat} {l0 l1 l2 l3 : AV} {st : List AV} {a b : Int} {σ : Sg} {X : Nat} {K : List AV → List AV → Sg → Prop} (hX : 569 ≠ X)  : Rq d m_L_law X 569 [l0, l1, l2, l3] (vI b :: vI a :: st) σ K ↔ if w32 a = w32 b then Rq d m_L_law X 1364 [l0, l1, l2, l3] st σ K else Rq d m_L_law X 572 [l0, l1, l2, l3] st σ K := k20_0 hX (show fnd (pgm m_L_law) 569 = some (572, 20, 0, 0, 1364, []) from rfl)
set_option maxRecDepth 100000 in
theorem l_572 {d : Nat} {l0 l1 l2 l3 : AV} {st : List AV} {σ : Sg} {X : Nat} {K : List AV → List AV → Sg → Prop} (hX : 572 ≠ X)  : Rq d m_L_law X 572 [l0, l1, l2, l3] st σ K ↔ Rq d m_L_law X 573 [l0, l1, l2, l3] (vI 0 :: st) σ K := k0 hX (show fnd (pgm m_L_law) 572 = some (573, 0, 0, 0, 0, []) from rfl)
set_option maxRecDepth 100000 in
theorem l_574 {d : Nat} {l0 l2 l3 : AV} {st : List AV} {o : Nat} {σ : Sg} {X : Nat} {K : List AV → List AV → Sg → Prop} (hX : 574 ≠ X) (ho : o ≠ 0) : Rq d m_L_law X 574 [l0, vR o, l2, l3] st σ K ↔ Rq d m_L_law X 575 [l0, vR o, l2, l3] (vR o :: st) σ K := k5 hX (show fnd (pgm m_L_law) 574 = some (575, 5, 0, 1, 0, []) from rfl) rfl ho
set_option maxRecDepth 100000 in
theorem l_575 {d : Nat} {l1 l2 l3 : AV} {st : List AV} {o : Nat} {σ : Sg} {X : Nat} {K : List AV → List AV → Sg → Prop} (hX : 575 ≠ X) (ho : o ≠ 0) : Rq d m_L_law X 575 [vR o, l1, l2, l3] st σ K ↔ Rq d m_L_law X 576 [vR o, l1, l2, l3] (vR o :: st) σ K := k5 hX (show fnd (pgm m_L_law) 575 = some (576, 5, 0, 0, 0, []) from rfl) rfl ho
set_option maxRecDepth 100000 in
theorem l_576 {d : Nat} {l0 l1 l2 : AV} {st : List AV} {x : Int} {σ : Sg} {X : Nat} {K : List AV → List AV → Sg → Prop} (hX : 576 ≠ X)  : Rq d m_L_law X 576 [l0, l1, l2, vI x] st σ K ↔ Rq d m_L_law X 577 [l0, l1, l2, vI x] (vI x :: st) σ K := k3 hX (show fnd (pgm m_L_law) 576 = some (577, 3, 0, 3, 0, []) from rfl) rfl
set_option maxRecDepth 100000 in
theorem l_577 {d : Nat} {l0 l1 l2 l3 : AV} {st : List AV} {σ : Sg} {X : Nat} {K : List AV → List AV → Sg → Prop} (hX : 577 ≠ X)  : Rq d m_L_law X 577 [l0, l1, l2, l3] st σ K ↔ Rq d m_L_law X 578 [l0, l1, l2, l3] (vI 1 :: st) σ K := k0 hX (show fnd (pgm m_L_law) 577 = some (578, 0, 1, 0, 0, []) from rfl)
set_option maxRecDepth 100000 in
theorem l_578 {d : Nat} {l0 l1 l2 l3 : AV} {st : List AV} {a b : Int} {σ : Sg} {X : Nat} {K : List AV → List AV → Sg → Prop} (hX : 578 ≠ X)  : Rq d m_L_law X 578 [l0, l1, l2, l3] (vI b :: vI a :: st) σ K ↔ Rq d m_L_law X 579 [l0, l1, l2, l3] (vI (a + b) :: st) σ K := k10_0 hX (show fnd (pgm m_L_law) 578 = some (579, 10, 0, 0, 0, []) from rfl)
set_option maxRecDepth 100000 in
theorem l_579 {d : Nat} {l0 l1 l2 l3 : AV} {st : List AV} {i : Int} {σ : Sg} {X : Nat} {K : List AV → List AV → Sg → Prop} (hX : 579 ≠ X) (hi : 0 ≤ w32 i ∧ w32 i < σ 999 (-1)) : Rq d m_L_law X 579 [l0, l1, l2, l3] (vI i :: vR 999 :: st) σ K ↔ Rq d m_L_law X 580 [l0, l1, l2, l3] (vI (σ 999 (w32 i)) :: st) σ K := k41 hX (show fnd (pgm m_L_law) 579 = some (580, 41, 0, 0, 0, []) from rfl) hi
set_option maxRecDepth 100000 in
theorem l_580 {d : Nat} {l1 l2 l3 : AV} {st : List AV} {o : Nat} {σ : Sg} {X : Nat} {K : List AV → List AV → Sg → Prop} (hX : 580 ≠ X) (ho : o ≠ 0) : Rq d m_L_law X 580 [vR o, l1, l2, l3] st σ K ↔ Rq d m_L_law X 581 [vR o, l1, l2, l3] (vR o :: st) σ K := k5 hX (show fnd (pgm m_L_law) 580 = some (581, 5, 0, 0, 0, []) from rfl) rfl ho
set_option maxRecDepth 100000 in
theorem l_581 {d : Nat} {l0 l1 l2 : AV} {st : List AV} {x : Int} {σ : Sg} {X : Nat} {K : List AV → List AV → Sg → Prop} (hX : 581 ≠ X)  : Rq d m_L_law X 581 [l0, l1, l2, vI x] st σ K ↔ Rq d m_L_law X 582 [l0, l1, l2, vI x] (vI x :: st) σ K := k3 hX (show fnd (pgm m_L_law) 581 = some (582, 3, 0, 3, 0, []) from rfl) rfl
set_option maxRecDepth 100000 in
theorem l_582 {d : Nat} {l0 l1 l2 l3 : AV} {st : List AV} {σ : Sg} {X : Nat} {K : List AV → List AV → Sg → Prop} (hX : 582 ≠ X)  : Rq d m_L_law X 582 [l0, l1, l2, l3] st σ K ↔ Rq d m_L_law X 583 [l0, l1, l2, l3] (vI 2 :: st) σ K := k0 hX (show fnd (pgm m_L_law) 582 = some (583, 0, 2, 0, 0, []) from rfl)
set_option maxRecDepth 100000 in
theorem l_583 {d : Nat} {l0 l1 l2 l3 : AV} {st : List AV} {a b : Int} {σ : Sg} {X : Nat} {K : List AV → List AV → Sg → Prop} (hX : 583 ≠ X)  : Rq d m_L_law X 583 [l0, l1, l2, l3] (vI b :: vI a :: st) σ K ↔ Rq d m_L_law X 584 [l0, l1, l2, l3] (vI (a + b) :: st) σ K := k10_0 hX (show fnd (pgm m_L_law) 583 = some (584, 10, 0, 0, 0, []) from rfl)
set_option maxRecDepth 100000 in
theorem l_584 {d : Nat} {l0 l1 l2 l3 : AV} {st : List AV} {i : Int} {σ : Sg} {X : Nat} {K : List AV → List AV → Sg → Prop} (hX : 584 ≠ X) (hi : 0 ≤ w32 i ∧ w32 i < σ 999 (-1)) : Rq d m_L_law X 584 [l0, l1, l2, l3] (vI i :: vR 999 :: st) σ K ↔ Rq d m_L_law X 585 [l0, l1, l2, l3] (vI (σ 999 (w32 i)) :: st) σ K := k41 hX (show fnd (pgm m_L_law) 584 = some (585, 41, 0, 0, 0, []) from rfl) hi
set_option maxRecDepth 100000 in
theorem l_585 {d : Nat} {l1 l2 l3 : AV} {st : List AV} {o : Nat} {σ : Sg} {X : Nat} {K : List AV → List AV → Sg → Prop} (hX : 585 ≠ X) (ho : o ≠ 0) : Rq d m_L_law X 585 [vR o, l1, l2, l3] st σ K ↔ Rq d m_L_law X 586 [vR o, l1, l2, l3] (vR o :: st) σ K := k5 hX (show fnd (pgm m_L_law) 585 = some (586, 5, 0, 0, 0, []) from rfl) rfl ho
set_option maxRecDepth 100000 in
theorem l_586 {d : Nat} {l0 l1 l2 : AV} {st : List AV} {x : Int} {σ : Sg} {X : Nat} {K : List AV → List AV → Sg → Prop} (hX : 586 ≠ X)  : Rq d m_L_law X 586 [l0, l1, l2, vI x] st σ K ↔ Rq d m_L_law X 587 [l0, l1, l2, vI x] (vI x :: st) σ K := k3 hX (show fnd (pgm m_L_law) 586 = some (587, 3, 0, 3, 0, []) from rfl) rfl
set_option maxRecDepth 100000 in
theorem l_587 {d : Nat} {l0 l1 l2 l3 : AV} {st : List AV} {σ : Sg} {X : Nat} {K : List AV → List AV → Sg → Prop} (hX : 587 ≠ X)  : Rq d m_L_law X 587 [l0, l1, l2, l3] st σ K ↔ Rq d m_L_law X 588 [l0, l1, l2, l3] (vI 3 :: st) σ K := k0 hX (show fnd (pgm m_L_law) 587 = some (588, 0, 3, 0, 0, []) from rfl)
set_option maxRecDepth 100000 in
theorem l_588 {d : Nat} {l0 l1 l2 l3 : AV} {st : List AV} {a b : Int} {σ : Sg} {X : Nat} {K : List AV → List AV → Sg → Prop} (hX : 588 ≠ X)  : Rq d m_L_law X 588 [l0, l1, l2, l3] (vI b :: vI a :: st) σ K ↔ Rq d m_L_law X 589 [l0, l1, l2, l3] (vI (a + b) :: st) σ K := k10_0 hX (show fnd (pgm m_L_law) 588 = some (589, 10, 0, 0, 0, []) from rfl)
set_option maxRecDepth 100000 in
theorem l_589 {d : Nat} {l0 l1 l2 l3 : AV} {st : List AV} {i : Int} {σ : Sg} {X : Nat} {K : List AV → List AV → Sg → Prop} (hX : 589 ≠ X) (hi : 0 ≤ w32 i ∧ w32 i < σ 999 (-1)) : Rq d m_L_law X 589 [l0, l1, l2, l3] (vI i :: vR 999 :: st) σ K ↔ Rq d m_L_law X 590 [l0, l1, l2, l3] (vI (σ 999 (w32 i)) :: st) σ K := k41 hX (show fnd (pgm m_L_law) 589 = some (590, 41, 0, 0, 0, []) from rfl) hi
set_option maxRecDepth 100000 in
theorem l_590 {d : Nat} {l0 l1 l2 l3 : AV} {st : List AV} {o : Nat} {a0 : Int} {a1 : Int} {a2 : Int} {σ : Sg} {X : Nat} {K : List AV → List AV → Sg → Prop} (hX : 590 ≠ X) (h4 : st.length ≤ 4) (hk : kn σ o = (0, 5)) : Rq d m_L_law X 590 [l0, l1, l2, l3] (vI a2 :: vI a1 :: vI a0 :: vR o :: st) σ K ↔ ∃ r σ1, Ev d m_X5_tracks [vR o, vI a0, vI a1, vI a2] σ r σ1 ∧ Rq d m_L_law X 593 [l0, l1, l2, l3] (psh r st) σ1 K := k35 hX (show fnd (pgm m_L_law) 590 = some (593, 35, 58, 63, 4, []) from rfl) ⟨⟨by simp, by simpa using h4⟩, (by simp only [List.take, List.reverse, List.reverseAux, rcv]; rw [if_neg (by decide +kernel)]; exact decide_eq_true hk)⟩
set_option maxRecDepth 100000 in
theorem l_593 {d : Nat} {l0 l1 l3 : AV} {st : List AV} {o : Nat} {σ : Sg} {X : Nat} {K : List AV → List AV → Sg → Prop} (hX : 593 ≠ X) (ho : o ≠ 0) : Rq d m_L_law X 593 [l0, l1, vR o, l3] st σ K ↔ Rq d m_L_law X 594 [l0, l1, vR o, l3] (vR o :: st) σ K := k5 hX (show fnd (pgm m_L_law) 593 = some (594, 5, 0, 2, 0, []) from rfl) rfl ho
set_option maxRecDepth 100000 in
theorem l_594 {d : Nat} {l1 l2 l3 : AV} {st : List AV} {o : Nat} {σ : Sg} {X : Nat} {K : List AV → List AV → Sg → Prop} (hX : 594 ≠ X) (ho : o ≠ 0) : Rq d m_L_law X 594 [vR o, l1, l2, l3] st σ K ↔ Rq d m_L_law X 595 [vR o, l1, l2, l3] (vR o :: st) σ K := k5 hX (show fnd (pgm m_L_law) 594 = some (595, 5, 0, 0, 0, []) from rfl) rfl ho
set_option maxRecDepth 100000 in
theorem l_595 {d : Nat} {l0 l1 l2 : AV} {st : List AV} {x : Int} {σ : Sg} {X : Nat} {K : List AV → List AV → Sg → Prop} (hX : 595 ≠ X)  : Rq d m_L_law X 595 [l0, l1, l2, vI x] st σ K ↔ Rq d m_L_law X 596 [l0, l1, l2, vI x] (vI x :: st) σ K := k3 hX (show fnd (pgm m_L_law) 595 = some (596, 3, 0, 3, 0, []) from rfl) rfl
set_option maxRecDepth 100000 in
theorem l_596 {d : Nat} {l0 l1 l2 l3 : AV} {st : List AV} {σ : Sg} {X : Nat} {K : List AV → List AV → Sg → Prop} (hX : 596 ≠ X)  : Rq d m_L_law X 596 [l0, l1, l2, l3] st σ K ↔ Rq d m_L_law X 597 [l0, l1, l2, l3] (vI 1 :: st) σ K := k0 hX (show fnd (pgm m_L_law) 596 = some (597, 0, 1, 0, 0, []) from rfl)
set_option maxRecDepth 100000 in
theorem l_597 {d : Nat} {l0 l1 l2 l3 : AV} {st : List AV} {a b : Int} {σ : Sg} {X : Nat} {K : List AV → List AV → Sg → Prop} (hX : 597 ≠ X)  : Rq d m_L_law X 597 [l0, l1, l2, l3] (vI b :: vI a :: st) σ K ↔ Rq d m_L_law X 598 [l0, l1, l2, l3] (vI (a + b) :: st) σ K := k10_0 hX (show fnd (pgm m_L_law) 597 = some (598, 10, 0, 0, 0, []) from rfl)
set_option maxRecDepth 100000 in
theorem l_598 {d : Nat} {l0 l1 l2 l3 : AV} {st : List AV} {i : Int} {σ : Sg} {X : Nat} {K : List AV → List AV → Sg → Prop} (hX : 598 ≠ X) (hi : 0 ≤ w32 i ∧ w32 i < σ 999 (-1)) : Rq d m_L_law X 598 [l0, l1, l2, l3] (vI i :: vR 999 :: st) σ K ↔ Rq d m_L_law X 599 [l0, l1, l2, l3] (vI (σ 999 (w32 i)) :: st) σ K := k41 hX (show fnd (pgm m_L_law) 598 = some (599, 41, 0, 0, 0, []) from rfl) hi
set_option maxRecDepth 100000 in
theorem l_599 {d : Nat} {l1 l2 l3 : AV} {st : List AV} {o : Nat} {σ : Sg} {X : Nat} {K : List AV → List AV → Sg → Prop} (hX : 599 ≠ X) (ho : o ≠ 0) : Rq d m_L_law X 599 [vR o, l1, l2, l3] st σ K ↔ Rq d m_L_law X 600 [vR o, l1, l2, l3] (vR o :: st) σ K := k5 hX (show fnd (pgm m_L_law) 599 = some (600, 5, 0, 0, 0, []) from rfl) rfl ho
set_option maxRecDepth 100000 in
theorem l_600 {d : Nat} {l0 l1 l2 : AV} {st : List AV} {x : Int} {σ : Sg} {X : Nat} {K : List AV → List AV → Sg → Prop} (hX : 600 ≠ X)  : Rq d m_L_law X 600 [l0, l1, l2, vI x] st σ K ↔ Rq d m_L_law X 601 [l0, l1, l2, vI x] (vI x :: st) σ K := k3 hX (show fnd (pgm m_L_law) 600 = some (601, 3, 0, 3, 0, []) from rfl) rfl
set_option maxRecDepth 100000 in
theorem l_601 {d : Nat} {l0 l1 l2 l3 : AV} {st : List AV} {σ : Sg} {X : Nat} {K : List AV → List AV → Sg → Prop} (hX : 601 ≠ X)  : Rq d m_L_law X 601 [l0, l1, l2, l3] st σ K ↔ Rq d m_L_law X 602 [l0, l1, l2, l3] (vI 2 :: st) σ K := k0 hX (show fnd (pgm m_L_law) 601 = some (602, 0, 2, 0, 0, []) from rfl)
set_option maxRecDepth 100000 in
theorem l_602 {d : Nat} {l0 l1 l2 l3 : AV} {st : List AV} {a b : Int} {σ : Sg} {X : Nat} {K : List AV → List AV → Sg → Prop} (hX : 602 ≠ X)  : Rq d m_L_law X 602 [l0, l1, l2, l3] (vI b :: vI a :: st) σ K ↔ Rq d m_L_law X 603 [l0, l1, l2, l3] (vI (a + b) :: st) σ K := k10_0 hX (show fnd (pgm m_L_law) 602 = some (603, 10, 0, 0, 0, []) from rfl)
set_option maxRecDepth 100000 in
theorem l_603 {d : Nat} {l0 l1 l2 l3 : AV} {st : List AV} {i : Int} {σ : Sg} {X : Nat} {K : List AV → List AV → Sg → Prop} (hX : 603 ≠ X) (hi : 0 ≤ w32 i ∧ w32 i < σ 999 (-1)) : Rq d m_L_law X 603 [l0, l1, l2, l3] (vI i :: vR 999 :: st) σ K ↔ Rq d m_L_law X 604 [l0, l1, l2, l3] (vI (σ 999 (w32 i)) :: st) σ K := k41 hX (show fnd (pgm m_L_law) 603 = some (604, 41, 0, 0, 0, []) from rfl) hi
set_option maxRecDepth 100000 in
theorem l_604 {d : Nat} {l1 l2 l3 : AV} {st : List AV} {o : Nat} {σ : Sg} {X : Nat} {K : List AV → List AV → Sg → Prop} (hX : 604 ≠ X) (ho : o ≠ 0) : Rq d m_L_law X 604 [vR o, l1, l2, l3] st σ K ↔ Rq d m_L_law X 605 [vR o, l1, l2, l3] (vR o :: st) σ K := k5 hX (show fnd (pgm m_L_law) 604 = some (605, 5, 0, 0, 0, []) from rfl) rfl ho
set_option maxRecDepth 100000 in
theorem l_605 {d : Nat} {l0 l1 l2 : AV} {st : List AV} {x : Int} {σ : Sg} {X : Nat} {K : List AV → List AV → Sg → Prop} (hX : 605 ≠ X)  : Rq d m_L_law X 605 [l0, l1, l2, vI x] st σ K ↔ Rq d m_L_law X 606 [l0, l1, l2, vI x] (vI x :: st) σ K := k3 hX (show fnd (pgm m_L_law) 605 = some (606, 3, 0, 3, 0, []) from rfl) rfl
set_option maxRecDepth 100000 in
theorem l_606 {d : Nat} {l0 l1 l2 l3 : AV} {st : List AV} {σ : Sg} {X : Nat} {K : List AV → List AV → Sg → Prop} (hX : 606 ≠ X)  : Rq d m_L_law X 606 [l0, l1, l2, l3] st σ K ↔ Rq d m_L_law X 607 [l0, l1, l2, l3] (vI 3 :: st) σ K := k0 hX (show fnd (pgm m_L_law) 606 = some (607, 0, 3, 0, 0, []) from rfl)
set_option maxRecDepth 100000 in
theorem l_607 {d : Nat} {l0 l1 l2 l3 : AV} {st : List AV} {a b : Int} {σ : Sg} {X : Nat} {K : List AV → List AV → Sg → Prop} (hX : 607 ≠ X)  : Rq d m_L_law X 607 [l0, l1, l2, l3] (vI b :: vI a :: st) σ K ↔ Rq d m_L_law X 608 [l0, l1, l2, l3] (vI (a + b) :: st) σ K := k10_0 hX (show fnd (pgm m_L_law) 607 = some (608, 10, 0, 0, 0, []) from rfl)
set_option maxRecDepth 100000 in
theorem l_608 {d : Nat} {l0 l1 l2 l3 : AV} {st : List AV} {i : Int} {σ : Sg} {X : Nat} {K : List AV → List AV → Sg → Prop} (hX : 608 ≠ X) (hi : 0 ≤ w32 i ∧ w32 i < σ 999 (-1)) : Rq d m_L_law X 608 [l0, l1, l2, l3] (vI i :: vR 999 :: st) σ K ↔ Rq d m_L_law X 609 [l0, l1, l2, l3] (vI (σ 999 (w32 i)) :: st) σ K := k41 hX (show fnd (pgm m_L_law) 608 = some (609, 41, 0, 0, 0, []) from rfl) hi
set_option maxRecDepth 100000 in
theorem l_609 {d : Nat} {l0 l1 l2 l3 : AV} {st : List AV} {o : Nat} {a0 : Int} {a1 : Int} {a2 : Int} {σ : Sg} {X : Nat} {K : List AV → List AV → Sg → Prop} (hX : 609 ≠ X) (h4 : st.length ≤ 4) (hk : kn σ o = (0, 6)) : Rq d m_L_law X 609 [l0, l1, l2, l3] (vI a2 :: vI a1 :: vI a0 :: vR o :: st) σ K ↔ ∃ r σ1, Ev d m_X6_tracks [vR o, vI a0, vI a1, vI a2] σ r σ1 ∧ Rq d m_L_law X 612 [l0, l1, l2, l3] (psh r st) σ1 K := k35 hX (show fnd (pgm m_L_law) 609 = some (612, 35, 61, 135, 4, []) from rfl) ⟨⟨by simp, by simpa using h4⟩, (by simp only [List.take, List.reverse, List.reverseAux, rcv]; rw [if_neg (by decide +kernel)]; exact decide_eq_true hk)⟩
set_option maxRecDepth 100000 in
theorem l_612 {d : Nat} {l0 l1 l2 l3 : AV} {st : List AV} {a b : Int} {σ : Sg} {X : Nat} {K : List AV → List AV → Sg → Prop} (hX : 612 ≠ X)  : Rq d m_L_law X 612 [l0, l1, l2, l3] (vI b :: vI a :: st) σ K ↔ if w32 a = w32 b then Rq d m_L_law X 1364 [l0, l1, l2, l3] st σ K else Rq d m_L_law X 615 [l0, l1, l2, l3] st σ K := k20_0 hX (show fnd (pgm m_L_law) 612 = some (615, 20, 0, 0, 1364, []) from rfl)
set_option maxRecDepth 100000 in
theorem l_615 {d : Nat} {l0 l1 l2 l3 : AV} {st : List AV} {σ : Sg} {X : Nat} {K : List AV → List AV → Sg → Prop} (hX : 615 ≠ X)  : Rq d m_L_law X 615 [l0, l1, l2, l3] st σ K ↔ Rq d m_L_law X 616 [l0, l1, l2, l3] (vI 0 :: st) σ K := k0 hX (show fnd (pgm m_L_law) 615 = some (616, 0, 0, 0, 0, []) from rfl)
set_option maxRecDepth 100000 in
theorem l_617 {d : Nat} {l0 l2 l3 : AV} {st : List AV} {o : Nat} {σ : Sg} {X : Nat} {K : List AV → List AV → Sg → Prop} (hX : 617 ≠ X) (ho : o ≠ 0) : Rq d m_L_law X 617 [l0, vR o, l2, l3] st σ K ↔ Rq d m_L_law X 618 [l0, vR o, l2, l3] (vR o :: st) σ K := k5 hX (show fnd (pgm m_L_law) 617 = some (618, 5, 0, 1, 0, []) from rfl) rfl ho
set_option maxRecDepth 100000 in
theorem l_618 {d : Nat} {l1 l2 l3 : AV} {st : List AV} {o : Nat} {σ : Sg} {X : Nat} {K : List AV → List AV → Sg → Prop} (hX : 618 ≠ X) (ho : o ≠ 0) : Rq d m_L_law X 618 [vR o, l1, l2, l3] st σ K ↔ Rq d m_L_law X 619 [vR o, l1, l2, l3] (vR o :: st) σ K := k5 hX (show fnd (pgm m_L_law) 618 = some (619, 5, 0, 0, 0, []) from rfl) rfl ho
set_option maxRecDepth 100000 in
theorem l_619 {d : Nat} {l0 l1 l2 : AV} {st : List AV} {x : Int} {σ : Sg} {X : Nat} {K : List AV → List AV → Sg → Prop} (hX : 619 ≠ X)  : Rq d m_L_law X 619 [l0, l1, l2, vI x] st σ K ↔ Rq d m_L_law X 620 [l0, l1, l2, vI x] (vI x :: st) σ K := k3 hX (show fnd (pgm m_L_law) 619 = some (620, 3, 0, 3, 0, []) from rfl) rfl
set_option maxRecDepth 100000 in
theorem l_620 {d : Nat} {l0 l1 l2 l3 : AV} {st : List AV} {σ : Sg} {X : Nat} {K : List AV → List AV → Sg → Prop} (hX : 620 ≠ X)  : Rq d m_L_law X 620 [l0, l1, l2, l3] st σ K ↔ Rq d m_L_law X 621 [l0, l1, l2, l3] (vI 1 :: st) σ K := k0 hX (show fnd (pgm m_L_law) 620 = some (621, 0, 1, 0, 0, []) from rfl)
set_option maxRecDepth 100000 in
theorem l_621 {d : Nat} {l0 l1 l2 l3 : AV} {st : List AV} {a b : Int} {σ : Sg} {X : Nat} {K : List AV → List AV → Sg → Prop} (hX : 621 ≠ X)  : Rq d m_L_law X 621 [l0, l1, l2, l3] (vI b :: vI a :: st) σ K ↔ Rq d m_L_law X 622 [l0, l1, l2, l3] (vI (a + b) :: st) σ K := k10_0 hX (show fnd (pgm m_L_law) 621 = some (622, 10, 0, 0, 0, []) from rfl)
set_option maxRecDepth 100000 in
theorem l_622 {d : Nat} {l0 l1 l2 l3 : AV} {st : List AV} {i : Int} {σ : Sg} {X : Nat} {K : List AV → List AV → Sg → Prop} (hX : 622 ≠ X) (hi : 0 ≤ w32 i ∧ w32 i < σ 999 (-1)) : Rq d m_L_law X 622 [l0, l1, l2, l3] (vI i :: vR 999 :: st) σ K ↔ Rq d m_L_law X 623 [l0, l1, l2, l3] (vI (σ 999 (w32 i)) :: st) σ K := k41 hX (show fnd (pgm m_L_law) 622 = some (623, 41, 0, 0, 0, []) from rfl) hi
set_option maxRecDepth 100000 in
theorem l_623 {d : Nat} {l1 l2 l3 : AV} {st : List AV} {o : Nat} {σ : Sg} {X : Nat} {K : List AV → List AV → Sg → Prop} (hX : 623 ≠ X) (ho : o ≠ 0) : Rq d m_L_law X 623 [vR o, l1, l2, l3] st σ K ↔ Rq d m_L_law X 624 [vR o, l1, l2, l3] (vR o :: st) σ K := k5 hX (show fnd (pgm m_L_law) 623 = some (624, 5, 0, 0, 0, []) from rfl) rfl ho
set_option maxRecDepth 100000 in
theorem l_624 {d : Nat} {l0 l1 l2 : AV} {st : List AV} {x : Int} {σ : Sg} {X : Nat} {K : List AV → List AV → Sg → Prop} (hX : 624 ≠ X)  : Rq d m_L_law X 624 [l0, l1, l2, vI x] st σ K ↔ Rq d m_L_law X 625 [l0, l1, l2, vI x] (vI x :: st) σ K := k3 hX (show fnd (pgm m_L_law) 624 = some (625, 3, 0, 3, 0, []) from rfl) rfl
set_option maxRecDepth 100000 in
theorem l_625 {d : Nat} {l0 l1 l2 l3 : AV} {st : List AV} {σ : Sg} {X : Nat} {K : List AV → List AV → Sg → Prop} (hX : 625 ≠ X)  : Rq d m_L_law X 625 [l0, l1, l2, l3] st σ K ↔ Rq d m_L_law X 626 [l0, l1, l2, l3] (vI 2 :: st) σ K := k0 hX (show fnd (pgm m_L_law) 625 = some (626, 0, 2, 0, 0, []) from rfl)
set_option maxRecDepth 100000 in
theorem l_626 {d : Nat} {l0 l1 l2 l3 : AV} {st : List AV} {a b : Int} {σ : Sg} {X : Nat} {K : List AV → List AV → Sg → Prop} (hX : 626 ≠ X)  : Rq d m_L_law X 626 [l0, l1, l2, l3] (vI b :: vI a :: st) σ K ↔ Rq d m_L_law X 627 [l0, l1, l2, l3] (vI (a + b) :: st) σ K := k10_0 hX (show fnd (pgm m_L_law) 626 = some (627, 10, 0, 0, 0, []) from rfl)
set_option maxRecDepth 100000 in
theorem l_627 {d : Nat} {l0 l1 l2 l3 : AV} {st : List AV} {i : Int} {σ : Sg} {X : Nat} {K : List AV → List AV → Sg → Prop} (hX : 627 ≠ X) (hi : 0 ≤ w32 i ∧ w32 i < σ 999 (-1)) : Rq d m_L_law X 627 [l0, l1, l2, l3] (vI i :: vR 999 :: st) σ K ↔ Rq d m_L_law X 628 [l0, l1, l2, l3] (vI (σ 999 (w32 i)) :: st) σ K := k41 hX (show fnd (pgm m_L_law) 627 = some (628, 41, 0, 0, 0, []) from rfl) hi
set_option maxRecDepth 100000 in
theorem l_628 {d : Nat} {l1 l2 l3 : AV} {st : List AV} {o : Nat} {σ : Sg} {X : Nat} {K : List AV → List AV → Sg → Prop} (hX : 628 ≠ X) (ho : o ≠ 0) : Rq d m_L_law X 628 [vR o, l1, l2, l3] st σ K ↔ Rq d m_L_law X 629 [vR o, l1, l2, l3] (vR o :: st) σ K := k5 hX (show fnd (pgm m_L_law) 628 = some (629, 5, 0, 0, 0, []) from rfl) rfl ho
set_option maxRecDepth 100000 in
theorem l_629 {d : Nat} {l0 l1 l2 : AV} {st : List AV} {x : Int} {σ : Sg} {X : Nat} {K : List AV → List AV → Sg → Prop} (hX : 629 ≠ X)  : Rq d m_L_law X 629 [l0, l1, l2, vI x] st σ K ↔ Rq d m_L_law X 630 [l0, l1, l2, vI x] (vI x :: st) σ K := k3 hX (show fnd (pgm m_L_law) 629 = some (630, 3, 0, 3, 0, []) from rfl) rfl
set_option maxRecDepth 100000 in
theorem l_630 {d : Nat} {l0 l1 l2 l3 : AV} {st : List AV} {σ : Sg} {X : Nat} {K : List AV → List AV → Sg → Prop} (hX : 630 ≠ X)  : Rq d m_L_law X 630 [l0, l1, l2, l3] st σ K ↔ Rq d m_L_law X 631 [l0, l1, l2, l3] (vI 3 :: st) σ K := k0 hX (show fnd (pgm m_L_law) 630 = some (631, 0, 3, 0, 0, []) from rfl)
set_option maxRecDepth 100000 in
theorem l_631 {d : Nat} {l0 l1 l2 l3 : AV} {st : List AV} {a b : Int} {σ : Sg} {X : Nat} {K : List AV → List AV → Sg → Prop} (hX : 631 ≠ X)  : Rq d m_L_law X 631 [l0, l1, l2, l3] (vI b :: vI a :: st) σ K ↔ Rq d m_L_law X 632 [l0, l1, l2, l3] (vI (a + b) :: st) σ K := k10_0 hX (show fnd (pgm m_L_law) 631 = some (632, 10, 0, 0, 0, []) from rfl)
set_option maxRecDepth 100000 in
theorem l_632 {d : Nat} {l0 l1 l2 l3 : AV} {st : List AV} {i : Int} {σ : Sg} {X : Nat} {K : List AV → List AV → Sg → Prop} (hX : 632 ≠ X) (hi : 0 ≤ w32 i ∧ w32 i < σ 999 (-1)) : Rq d m_L_law X 632 [l0, l1, l2, l3] (vI i :: vR 999 :: st) σ K ↔ Rq d m_L_law X 633 [l0, l1, l2, l3] (vI (σ 999 (w32 i)) :: st) σ K := k41 hX (show fnd (pgm m_L_law) 632 = some (633, 41, 0, 0, 0, []) from rfl) hi
set_option maxRecDepth 100000 in
theorem l_633 {d : Nat} {l1 l2 l3 : AV} {st : List AV} {o : Nat} {σ : Sg} {X : Nat} {K : List AV → List AV → Sg → Prop} (hX : 633 ≠ X) (ho : o ≠ 0) : Rq d m_L_law X 633 [vR o, l1, l2, l3] st σ K ↔ Rq d m_L_law X 634 [vR o, l1, l2, l3] (vR o :: st) σ K := k5 hX (show fnd (pgm m_L_law) 633 = some (634, 5, 0, 0, 0, []) from rfl) rfl ho
set_option maxRecDepth 100000 in
theorem l_634 {d : Nat} {l0 l1 l2 : AV} {st : List AV} {x : Int} {σ : Sg} {X : Nat} {K : List AV → List AV → Sg → Prop} (hX : 634 ≠ X)  : Rq d m_L_law X 634 [l0, l1, l2, vI x] st σ K ↔ Rq d m_L_law X 635 [l0, l1, l2, vI x] (vI x :: st) σ K := k3 hX (show fnd (pgm m_L_law) 634 = some (635, 3, 0, 3, 0, []) from rfl) rfl
set_option maxRecDepth 100000 in
theorem l_635 {d : Nat} {l0 l1 l2 l3 : AV} {st : List AV} {σ : Sg} {X : Nat} {K : List AV → List AV → Sg → Prop} (hX : 635 ≠ X)  : Rq d m_L_law X 635 [l0, l1, l2, l3] st σ K ↔ Rq d m_L_law X 636 [l0, l1, l2, l3] (vI 4 :: st) σ K := k0 hX (show fnd (pgm m_L_law) 635 = some (636, 0, 4, 0, 0, []) from rfl)
set_option maxRecDepth 100000 in
theorem l_636 {d : Nat} {l0 l1 l2 l3 : AV} {st : List AV} {a b : Int} {σ : Sg} {X : Nat} {K : List AV → List AV → Sg → Prop} (hX : 636 ≠ X)  : Rq d m_L_law X 636 [l0, l1, l2, l3] (vI b :: vI a :: st) σ K ↔ Rq d m_L_law X 637 [l0, l1, l2, l3] (vI (a + b) :: st) σ K := k10_0 hX (show fnd (pgm m_L_law) 636 = some (637, 10, 0, 0, 0, []) from rfl)
set_option maxRecDepth 100000 in
theorem l_637 {d : Nat} {l0 l1 l2 l3 : AV} {st : List AV} {i : Int} {σ : Sg} {X : Nat} {K : List AV → List AV → Sg → Prop} (hX : 637 ≠ X) (hi : 0 ≤ w32 i ∧ w32 i < σ 999 (-1)) : Rq d m_L_law X 637 [l0, l1, l2, l3] (vI i :: vR 999 :: st) σ K ↔ Rq d m_L_law X 638 [l0, l1, l2, l3] (vI (σ 999 (w32 i)) :: st) σ K := k41 hX (show fnd (pgm m_L_law) 637 = some (638, 41, 0, 0, 0, []) from rfl) hi
set_option maxRecDepth 100000 in
theorem l_638 {d : Nat} {l0 l1 l2 l3 : AV} {st : List AV} {o : Nat} {a0 : Int} {a1 : Int} {a2 : Int} {a3 : Int} {σ : Sg} {X : Nat} {K : List AV → List AV → Sg → Prop} (hX : 638 ≠ X) (h4 : st.length ≤ 4) (hk : kn σ o = (0, 5)) : Rq d m_L_law X 638 [l0, l1, l2, l3] (vI a3 :: vI a2 :: vI a1 :: vI a0 :: vR o :: st) σ K ↔ ∃ r σ1, Ev d m_X5_which [vR o, vI a0, vI a1, vI a2, vI a3] σ r σ1 ∧ Rq d m_L_law X 641 [l0, l1, l2, l3] (psh r st) σ1 K := k35 hX (show fnd (pgm m_L_law) 638 = some (641, 35, 62, 64, 5, []) from rfl) ⟨⟨by simp, by simpa using h4⟩, (by simp only [List.take, List.reverse, List.reverseAux, rcv]; rw [if_neg (by decide +kernel)]; exact decide_eq_true hk)⟩
set_option maxRecDepth 100000 in
theorem l_641 {d : Nat} {l0 l1 l3 : AV} {st : List AV} {o : Nat} {σ : Sg} {X : Nat} {K : List AV → List AV → Sg → Prop} (hX : 641 ≠ X) (ho : o ≠ 0) : Rq d m_L_law X 641 [l0, l1, vR o, l3] st σ K ↔ Rq d m_L_law X 642 [l0, l1, vR o, l3] (vR o :: st) σ K := k5 hX (show fnd (pgm m_L_law) 641 = some (642, 5, 0, 2, 0, []) from rfl) rfl ho
set_option maxRecDepth 100000 in
theorem l_642 {d : Nat} {l1 l2 l3 : AV} {st : List AV} {o : Nat} {σ : Sg} {X : Nat} {K : List AV → List AV → Sg → Prop} (hX : 642 ≠ X) (ho : o ≠ 0) : Rq d m_L_law X 642 [vR o, l1, l2, l3] st σ K ↔ Rq d m_L_law X 643 [vR o, l1, l2, l3] (vR o :: st) σ K := k5 hX (show fnd (pgm m_L_law) 642 = some (643, 5, 0, 0, 0, []) from rfl) rfl ho
set_option maxRecDepth 100000 in
theorem l_643 {d : Nat} {l0 l1 l2 : AV} {st : List AV} {x : Int} {σ : Sg} {X : Nat} {K : List AV → List AV → Sg → Prop} (hX : 643 ≠ X)  : Rq d m_L_law X 643 [l0, l1, l2, vI x] st σ K ↔ Rq d m_L_law X 644 [l0, l1, l2, vI x] (vI x :: st) σ K := k3 hX (show fnd (pgm m_L_law) 643 = some (644, 3, 0, 3, 0, []) from rfl) rfl
set_option maxRecDepth 100000 in
theorem l_644 {d : Nat} {l0 l1 l2 l3 : AV} {st : List AV} {σ : Sg} {X : Nat} {K : List AV → List AV → Sg → Prop} (hX : 644 ≠ X)  : Rq d m_L_law X 644 [l0, l1, l2, l3] st σ K ↔ Rq d m_L_law X 645 [l0, l1, l2, l3] (vI 1 :: st) σ K := k0 hX (show fnd (pgm m_L_law) 644 = some (645, 0, 1, 0, 0, []) from rfl)
set_option maxRecDepth 100000 in
theorem l_645 {d : Nat} {l0 l1 l2 l3 : AV} {st : List AV} {a b : Int} {σ : Sg} {X : Nat} {K : List AV → List AV → Sg → Prop} (hX : 645 ≠ X)  : Rq d m_L_law X 645 [l0, l1, l2, l3] (vI b :: vI a :: st) σ K ↔ Rq d m_L_law X 646 [l0, l1, l2, l3] (vI (a + b) :: st) σ K := k10_0 hX (show fnd (pgm m_L_law) 645 = some (646, 10, 0, 0, 0, []) from rfl)
set_option maxRecDepth 100000 in
theorem l_646 {d : Nat} {l0 l1 l2 l3 : AV} {st : List AV} {i : Int} {σ : Sg} {X : Nat} {K : List AV → List AV → Sg → Prop} (hX : 646 ≠ X) (hi : 0 ≤ w32 i ∧ w32 i < σ 999 (-1)) : Rq d m_L_law X 646 [l0, l1, l2, l3] (vI i :: vR 999 :: st) σ K ↔ Rq d m_L_law X 647 [l0, l1, l2, l3] (vI (σ 999 (w32 i)) :: st) σ K := k41 hX (show fnd (pgm m_L_law) 646 = some (647, 41, 0, 0, 0, []) from rfl) hi
set_option maxRecDepth 100000 in
theorem l_647 {d : Nat} {l1 l2 l3 : AV} {st : List AV} {o : Nat} {σ : Sg} {X : Nat} {K : List AV → List AV → Sg → Prop} (hX : 647 ≠ X) (ho : o ≠ 0) : Rq d m_L_law X 647 [vR o, l1, l2, l3] st σ K ↔ Rq d m_L_law X 648 [vR o, l1, l2, l3] (vR o :: st) σ K := k5 hX (show fnd (pgm m_L_law) 647 = some (648, 5, 0, 0, 0, []) from rfl) rfl ho
set_option maxRecDepth 100000 in
theorem l_648 {d : Nat} {l0 l1 l2 : AV} {st : List AV} {x : Int} {σ : Sg} {X : Nat} {K : List AV → List AV → Sg → Prop} (hX : 648 ≠ X)  : Rq d m_L_law X 648 [l0, l1, l2, vI x] st σ K ↔ Rq d m_L_law X 649 [l0, l1, l2, vI x] (vI x :: st) σ K := k3 hX (show fnd (pgm m_L_law) 648 = some (649, 3, 0, 3, 0, []) from rfl) rfl
set_option maxRecDepth 100000 in
theorem l_649 {d : Nat} {l0 l1 l2 l3 : AV} {st : List AV} {σ : Sg} {X : Nat} {K : List AV → List AV → Sg → Prop} (hX : 649 ≠ X)  : Rq d m_L_law X 649 [l0, l1, l2, l3] st σ K ↔ Rq d m_L_law X 650 [l0, l1, l2, l3] (vI 2 :: st) σ K := k0 hX (show fnd (pgm m_L_law) 649 = some (650, 0, 2, 0, 0, []) from rfl)
set_option maxRecDepth 100000 in
theorem l_650 {d : Nat} {l0 l1 l2 l3 : AV} {st : List AV} {a b : Int} {σ : Sg} {X : Nat} {K : List AV → List AV → Sg → Prop} (hX : 650 ≠ X)  : Rq d m_L_law X 650 [l0, l1, l2, l3] (vI b :: vI a :: st) σ K ↔ Rq d m_L_law X 651 [l0, l1, l2, l3] (vI (a + b) :: st) σ K := k10_0 hX (show fnd (pgm m_L_law) 650 = some (651, 10, 0, 0, 0, []) from rfl)
set_option maxRecDepth 100000 in
theorem l_651 {d : Nat} {l0 l1 l2 l3 : AV} {st : List AV} {i : Int} {σ : Sg} {X : Nat} {K : List AV → List AV → Sg → Prop} (hX : 651 ≠ X) (hi : 0 ≤ w32 i ∧ w32 i < σ 999 (-1)) : Rq d m_L_law X 651 [l0, l1, l2, l3] (vI i :: vR 999 :: st) σ K ↔ Rq d m_L_law X 652 [l0, l1, l2, l3] (vI (σ 999 (w32 i)) :: st) σ K := k41 hX (show fnd (pgm m_L_law) 651 = some (652, 41, 0, 0, 0, []) from rfl) hi
set_option maxRecDepth 100000 in
theorem l_652 {d : Nat} {l1 l2 l3 : AV} {st : List AV} {o : Nat} {σ : Sg} {X : Nat} {K : List AV → List AV → Sg → Prop} (hX : 652 ≠ X) (ho : o ≠ 0) : Rq d m_L_law X 652 [vR o, l1, l2, l3] st σ K ↔ Rq d m_L_law X 653 [vR o, l1, l2, l3] (vR o :: st) σ K := k5 hX (show fnd (pgm m_L_law) 652 = some (653, 5, 0, 0, 0, []) from rfl) rfl ho
set_option maxRecDepth 100000 in
theorem l_653 {d : Nat} {l0 l1 l2 : AV} {st : List AV} {x : Int} {σ : Sg} {X : Nat} {K : List AV → List AV → Sg → Prop} (hX : 653 ≠ X)  : Rq d m_L_law X 653 [l0, l1, l2, vI x] st σ K ↔ Rq d m_L_law X 654 [l0, l1, l2, vI x] (vI x :: st) σ K := k3 hX (show fnd (pgm m_L_law) 653 = some (654, 3, 0, 3, 0, []) from rfl) rfl
set_option maxRecDepth 100000 in
theorem l_654 {d : Nat} {l0 l1 l2 l3 : AV} {st : List AV} {σ : Sg} {X : Nat} {K : List AV → List AV → Sg → Prop} (hX : 654 ≠ X)  : Rq d m_L_law X 654 [l0, l1, l2, l3] st σ K ↔ Rq d m_L_law X 655 [l0, l1, l2, l3] (vI 3 :: st) σ K := k0 hX (show fnd (pgm m_L_law) 654 = some (655, 0, 3, 0, 0, []) from rfl)
set_option maxRecDepth 100000 in
theorem l_655 {d : Nat} {l0 l1 l2 l3 : AV} {st : List AV} {a b : Int} {σ : Sg} {X : Nat} {K : List AV → List AV → Sg → Prop} (hX : 655 ≠ X)  : Rq d m_L_law X 655 [l0, l1, l2, l3] (vI b :: vI a :: st) σ K ↔ Rq d m_L_law X 656 [l0, l1, l2, l3] (vI (a + b) :: st) σ K := k10_0 hX (show fnd (pgm m_L_law) 655 = some (656, 10, 0, 0, 0, []) from rfl)
set_option maxRecDepth 100000 in
theorem l_656 {d : Nat} {l0 l1 l2 l3 : AV} {st : List AV} {i : Int} {σ : Sg} {X : Nat} {K : List AV → List AV → Sg → Prop} (hX : 656 ≠ X) (hi : 0 ≤ w32 i ∧ w32 i < σ 999 (-1)) : Rq d m_L_law X 656 [l0, l1, l2, l3] (vI i :: vR 999 :: st) σ K ↔ Rq d m_L_law X 657 [l0, l1, l2, l3] (vI (σ 999 (w32 i)) :: st) σ K := k41 hX (show fnd (pgm m_L_law) 656 = some (657, 41, 0, 0, 0, []) from rfl) hi
set_option maxRecDepth 100000 in
theorem l_657 {d : Nat} {l1 l2 l3 : AV} {st : List AV} {o : Nat} {σ : Sg} {X : Nat} {K : List AV → List AV → Sg → Prop} (hX : 657 ≠ X) (ho : o ≠ 0) : Rq d m_L_law X 657 [vR o, l1, l2, l3] st σ K ↔ Rq d m_L_law X 658 [vR o, l1, l2, l3] (vR o :: st) σ K := k5 hX (show fnd (pgm m_L_law) 657 = some (658, 5, 0, 0, 0, []) from rfl) rfl ho
set_option maxRecDepth 100000 in
theorem l_658 {d : Nat} {l0 l1 l2 : AV} {st : List AV} {x : Int} {σ : Sg} {X : Nat} {K : List AV → List AV → Sg → Prop} (hX : 658 ≠ X)  : Rq d m_L_law X 658 [l0, l1, l2, vI x] st σ K ↔ Rq d m_L_law X 659 [l0, l1, l2, vI x] (vI x :: st) σ K := k3 hX (show fnd (pgm m_L_law) 658 = some (659, 3, 0, 3, 0, []) from rfl) rfl
set_option maxRecDepth 100000 in
theorem l_659 {d : Nat} {l0 l1 l2 l3 : AV} {st : List AV} {σ : Sg} {X : Nat} {K : List AV → List AV → Sg → Prop} (hX : 659 ≠ X)  : Rq d m_L_law X 659 [l0, l1, l2, l3] st σ K ↔ Rq d m_L_law X 660 [l0, l1, l2, l3] (vI 4 :: st) σ K := k0 hX (show fnd (pgm m_L_law) 659 = some (660, 0, 4, 0, 0, []) from rfl)
set_option maxRecDepth 100000 in
theorem l_660 {d : Nat} {l0 l1 l2 l3 : AV} {st : List AV} {a b : Int} {σ : Sg} {X : Nat} {K : List AV → List AV → Sg → Prop} (hX : 660 ≠ X)  : Rq d m_L_law X 660 [l0, l1, l2, l3] (vI b :: vI a :: st) σ K ↔ Rq d m_L_law X 661 [l0, l1, l2, l3] (vI (a + b) :: st) σ K := k10_0 hX (show fnd (pgm m_L_law) 660 = some (661, 10, 0, 0, 0, []) from rfl)
set_option maxRecDepth 100000 in
theorem l_661 {d : Nat} {l0 l1 l2 l3 : AV} {st : List AV} {i : Int} {σ : Sg} {X : Nat} {K : List AV → List AV → Sg → Prop} (hX : 661 ≠ X) (hi : 0 ≤ w32 i ∧ w32 i < σ 999 (-1)) : Rq d m_L_law X 661 [l0, l1, l2, l3] (vI i :: vR 999 :: st) σ K ↔ Rq d m_L_law X 662 [l0, l1, l2, l3] (vI (σ 999 (w32 i)) :: st) σ K := k41 hX (show fnd (pgm m_L_law) 661 = some (662, 41, 0, 0, 0, []) from rfl) hi
set_option maxRecDepth 100000 in
theorem l_662 {d : Nat} {l0 l1 l2 l3 : AV} {st : List AV} {o : Nat} {a0 : Int} {a1 : Int} {a2 : Int} {a3 : Int} {σ : Sg} {X : Nat} {K : List AV → List AV → Sg → Prop} (hX : 662 ≠ X) (h4 : st.length ≤ 4) (hk : kn σ o = (0, 6)) : Rq d m_L_law X 662 [l0, l1, l2, l3] (vI a3 :: vI a2 :: vI a1 :: vI a0 :: vR o :: st) σ K ↔ ∃ r σ1, Ev d m_X6_which [vR o, vI a0, vI a1, vI a2, vI a3] σ r σ1 ∧ Rq d m_L_law X 665 [l0, l1, l2, l3] (psh r st) σ1 K := k35 hX (show fnd (pgm m_L_law) 662 = some (665, 35, 66, 136, 5, []) from rfl) ⟨⟨by simp, by simpa using h4⟩, (by simp only [List.take, List.reverse, List.reverseAux, rcv]; rw [if_neg (by decide +kernel)]; exact decide_eq_true hk)⟩
set_option maxRecDepth 100000 in
theorem l_665 {d : Nat} {l0 l1 l2 l3 : AV} {st : List AV} {a b : Int} {σ : Sg} {X : Nat} {K : List AV → List AV → Sg → Prop} (hX : 665 ≠ X)  : Rq d m_L_law X 665 [l0, l1, l2, l3] (vI b :: vI a :: st) σ K ↔ if w32 a = w32 b then Rq d m_L_law X 1364 [l0, l1, l2, l3] st σ K else Rq d m_L_law X 668 [l0, l1, l2, l3] st σ K := k20_0 hX (show fnd (pgm m_L_law) 665 = some (668, 20, 0, 0, 1364, []) from rfl)
set_option maxRecDepth 100000 in
theorem l_668 {d : Nat} {l0 l1 l2 l3 : AV} {st : List AV} {σ : Sg} {X : Nat} {K : List AV → List AV → Sg → Prop} (hX : 668 ≠ X)  : Rq d m_L_law X 668 [l0, l1, l2, l3] st σ K ↔ Rq d m_L_law X 669 [l0, l1, l2, l3] (vI 0 :: st) σ K := k0 hX (show fnd (pgm m_L_law) 668 = some (669, 0, 0, 0, 0, []) from rfl)
set_option maxRecDepth 100000 in
theorem l_670 {d : Nat} {l0 l2 l3 : AV} {st : List AV} {o : Nat} {σ : Sg} {X : Nat} {K : List AV → List AV → Sg → Prop} (hX : 670 ≠ X) (ho : o ≠ 0) : Rq d m_L_law X 670 [l0, vR o, l2, l3] st σ K ↔ Rq d m_L_law X 671 [l0, vR o, l2, l3] (vR o :: st) σ K := k5 hX (show fnd (pgm m_L_law) 670 = some (671, 5, 0, 1, 0, []) from rfl) rfl ho
set_option maxRecDepth 100000 in
theorem l_671 {d : Nat} {l1 l2 l3 : AV} {st : List AV} {o : Nat} {σ : Sg} {X : Nat} {K : List AV → List AV → Sg → Prop} (hX : 671 ≠ X) (ho : o ≠ 0) : Rq d m_L_law X 671 [vR o, l1, l2, l3] st σ K ↔ Rq d m_L_law X 672 [vR o, l1, l2, l3] (vR o :: st) σ K := k5 hX (show fnd (pgm m_L_law) 671 = some (672, 5, 0, 0, 0, []) from rfl) rfl ho
set_option maxRecDepth 100000 in
theorem l_672 {d : Nat} {l0 l1 l2 : AV} {st : List AV} {x : Int} {σ : Sg} {X : Nat} {K : List AV → List AV → Sg → Prop} (hX : 672 ≠ X)  : Rq d m_L_law X 672 [l0, l1, l2, vI x] st σ K ↔ Rq d m_L_law X 673 [l0, l1, l2, vI x] (vI x :: st) σ K := k3 hX (show fnd (pgm m_L_law) 672 = some (673, 3, 0, 3, 0, []) from rfl) rfl
set_option maxRecDepth 100000 in
theorem l_673 {d : Nat} {l0 l1 l2 l3 : AV} {st : List AV} {σ : Sg} {X : Nat} {K : List AV → List AV → Sg → Prop} (hX : 673 ≠ X)  : Rq d m_L_law X 673 [l0, l1, l2, l3] st σ K ↔ Rq d m_L_law X 674 [l0, l1, l2, l3] (vI 1 :: st) σ K := k0 hX (show fnd (pgm m_L_law) 673 = some (674, 0, 1, 0, 0, []) from rfl)
set_option maxRecDepth 100000 in
theorem l_674 {d : Nat} {l0 l1 l2 l3 : AV} {st : List AV} {a b : Int} {σ : Sg} {X : Nat} {K : List AV → List AV → Sg → Prop} (hX : 674 ≠ X)  : Rq d m_L_law X 674 [l0, l1, l2, l3] (vI b :: vI a :: st) σ K ↔ Rq d m_L_law X 675 [l0, l1, l2, l3] (vI (a + b) :: st) σ K := k10_0 hX (show fnd (pgm m_L_law) 674 = some (675, 10, 0, 0, 0, []) from rfl)
set_option maxRecDepth 100000 in
theorem l_675 {d : Nat} {l0 l1 l2 l3 : AV} {st : List AV} {i : Int} {σ : Sg} {X : Nat} {K : List AV → List AV → Sg → Prop} (hX : 675 ≠ X) (hi : 0 ≤ w32 i ∧ w32 i < σ 999 (-1)) : Rq d m_L_law X 675 [l0, l1, l2, l3] (vI i :: vR 999 :: st) σ K ↔ Rq d m_L_law X 676 [l0, l1, l2, l3] (vI (σ 999 (w32 i)) :: st) σ K := k41 hX (show fnd (pgm m_L_law) 675 = some (676, 41, 0, 0, 0, []) from rfl) hi
set_option maxRecDepth 100000 in
theorem l_676 {d : Nat} {l1 l2 l3 : AV} {st : List AV} {o : Nat} {σ : Sg} {X : Nat} {K : List AV → List AV → Sg → Prop} (hX : 676 ≠ X) (ho : o ≠ 0) : Rq d m_L_law X 676 [vR o, l1, l2, l3] st σ K ↔ Rq d m_L_law X 677 [vR o, l1, l2, l3] (vR o :: st) σ K := k5 hX (show fnd (pgm m_L_law) 676 = some (677, 5, 0, 0, 0, []) from rfl) rfl ho
set_option maxRecDepth 100000 in
theorem l_677 {d : Nat} {l0 l1 l2 : AV} {st : List AV} {x : Int} {σ : Sg} {X : Nat} {K : List AV → List AV → Sg → Prop} (hX : 677 ≠ X)  : Rq d m_L_law X 677 [l0, l1, l2, vI x] st σ K ↔ Rq d m_L_law X 678 [l0, l1, l2, vI x] (vI x :: st) σ K := k3 hX (show fnd (pgm m_L_law) 677 = some (678, 3, 0, 3, 0, []) from rfl) rfl
set_option maxRecDepth 100000 in
theorem l_678 {d : Nat} {l0 l1 l2 l3 : AV} {st : List AV} {σ : Sg} {X : Nat} {K : List AV → List AV → Sg → Prop} (hX : 678 ≠ X)  : Rq d m_L_law X 678 [l0, l1, l2, l3] st σ K ↔ Rq d m_L_law X 679 [l0, l1, l2, l3] (vI 2 :: st) σ K := k0 hX (show fnd (pgm m_L_law) 678 = some (679, 0, 2, 0, 0, []) from rfl)
set_option maxRecDepth 100000 in
theorem l_679 {d : Nat} {l0 l1 l2 l3 : AV} {st : List AV} {a b : Int} {σ : Sg} {X : Nat} {K : List AV → List AV → Sg → Prop} (hX : 679 ≠ X)  : Rq d m_L_law X 679 [l0, l1, l2, l3] (vI b :: vI a :: st) σ K ↔ Rq d m_L_law X 680 [l0, l1, l2, l3] (vI (a + b) :: st) σ K := k10_0 hX (show fnd (pgm m_L_law) 679 = some (680, 10, 0, 0, 0, []) from rfl)
set_option maxRecDepth 100000 in
theorem l_680 {d : Nat} {l0 l1 l2 l3 : AV} {st : List AV} {i : Int} {σ : Sg} {X : Nat} {K : List AV → List AV → Sg → Prop} (hX : 680 ≠ X) (hi : 0 ≤ w32 i ∧ w32 i < σ 999 (-1)) : Rq d m_L_law X 680 [l0, l1, l2, l3] (vI i :: vR 999 :: st) σ K ↔ Rq d m_L_law X 681 [l0, l1, l2, l3] (vI (σ 999 (w32 i)) :: st) σ K := k41 hX (show fnd (pgm m_L_law) 680 = some (681, 41, 0, 0, 0, []) from rfl) hi
set_option maxRecDepth 100000 in
theorem l_681 {d : Nat} {l1 l2 l3 : AV} {st : List AV} {o : Nat} {σ : Sg} {X : Nat} {K : List AV → List AV → Sg → Prop} (hX : 681 ≠ X) (ho : o ≠ 0) : Rq d m_L_law X 681 [vR o, l1, l2, l3] st σ K ↔ Rq d m_L_law X 682 [vR o, l1, l2, l3] (vR o :: st) σ K := k5 hX (show fnd (pgm m_L_law) 681 = some (682, 5, 0, 0, 0, []) from rfl) rfl ho
set_option maxRecDepth 100000 in
theorem l_682 {d : Nat} {l0 l1 l2 : AV} {st : List AV} {x : Int} {σ : Sg} {X : Nat} {K : List AV → List AV → Sg → Prop} (hX : 682 ≠ X)  : Rq d m_L_law X 682 [l0, l1, l2, vI x] st σ K ↔ Rq d m_L_law X 683 [l0, l1, l2, vI x] (vI x :: st) σ K := k3 hX (show fnd (pgm m_L_law) 682 = some (683, 3, 0, 3, 0, []) from rfl) rfl
set_option maxRecDepth 100000 in
theorem l_683 {d : Nat} {l0 l1 l2 l3 : AV} {st : List AV} {σ : Sg} {X : Nat} {K : List AV → List AV → Sg → Prop} (hX : 683 ≠ X)  : Rq d m_L_law X 683 [l0, l1, l2, l3] st σ K ↔ Rq d m_L_law X 684 [l0, l1, l2, l3] (vI 3 :: st) σ K := k0 hX (show fnd (pgm m_L_law) 683 = some (684, 0, 3, 0, 0, []) from rfl)
set_option maxRecDepth 100000 in
theorem l_684 {d : Nat} {l0 l1 l2 l3 : AV} {st : List AV} {a b : Int} {σ : Sg} {X : Nat} {K : List AV → List AV → Sg → Prop} (hX : 684 ≠ X)  : Rq d m_L_law X 684 [l0, l1, l2, l3] (vI b :: vI a :: st) σ K ↔ Rq d m_L_law X 685 [l0, l1, l2, l3] (vI (a + b) :: st) σ K := k10_0 hX (show fnd (pgm m_L_law) 684 = some (685, 10, 0, 0, 0, []) from rfl)
set_option maxRecDepth 100000 in
theorem l_685 {d : Nat} {l0 l1 l2 l3 : AV} {st : List AV} {i : Int} {σ : Sg} {X : Nat} {K : List AV → List AV → Sg → Prop} (hX : 685 ≠ X) (hi : 0 ≤ w32 i ∧ w32 i < σ 999 (-1)) : Rq d m_L_law X 685 [l0, l1, l2, l3] (vI i :: vR 999 :: st) σ K ↔ Rq d m_L_law X 686 [l0, l1, l2, l3] (vI (σ 999 (w32 i)) :: st) σ K := k41 hX (show fnd (pgm m_L_law) 685 = some (686, 41, 0, 0, 0, []) from rfl) hi
set_option maxRecDepth 100000 in
theorem l_686 {d : Nat} {l0 l1 l2 l3 : AV} {st : List AV} {o : Nat} {a0 : Int} {a1 : Int} {a2 : Int} {σ : Sg} {X : Nat} {K : List AV → List AV → Sg → Prop} (hX : 686 ≠ X) (h4 : st.length ≤ 4) (hk : kn σ o = (0, 5)) : Rq d m_L_law X 686 [l0, l1, l2, l3] (vI a2 :: vI a1 :: vI a0 :: vR o :: st) σ K ↔ ∃ r σ1, Ev d m_X5_found [vR o, vI a0, vI a1, vI a2] σ r σ1 ∧ Rq d m_L_law X 689 [l0, l1, l2, l3] (psh r st) σ1 K := k35 hX (show fnd (pgm m_L_law) 686 = some (689, 35, 67, 65, 4, []) from rfl) ⟨⟨by simp, by simpa using h4⟩, (by simp only [List.take, List.reverse, List.reverseAux, rcv]; rw [if_neg (by decide +kernel)]; exact decide_eq_true hk)⟩
set_option maxRecDepth 100000 in
theorem l_689 {d : Nat} {l0 l1 l3 : AV} {st : List AV} {o : Nat} {σ : Sg} {X : Nat} {K : List AV → List AV → Sg → Prop} (hX : 689 ≠ X) (ho : o ≠ 0) : Rq d m_L_law X 689 [l0, l1, vR o, l3] st σ K ↔ Rq d m_L_law X 690 [l0, l1, vR o, l3] (vR o :: st) σ K := k5 hX (show fnd (pgm m_L_law) 689 = some (690, 5, 0, 2, 0, []) from rfl) rfl ho
set_option maxRecDepth 100000 in
theorem l_690 {d : Nat} {l1 l2 l3 : AV} {st : List AV} {o : Nat} {σ : Sg} {X : Nat} {K : List AV → List AV → Sg → Prop} (hX : 690 ≠ X) (ho : o ≠ 0) : Rq d m_L_law X 690 [vR o, l1, l2, l3] st σ K ↔ Rq d m_L_law X 691 [vR o, l1, l2, l3] (vR o :: st) σ K := k5 hX (show fnd (pgm m_L_law) 690 = some (691, 5, 0, 0, 0, []) from rfl) rfl ho
set_option maxRecDepth 100000 in
theorem l_691 {d : Nat} {l0 l1 l2 : AV} {st : List AV} {x : Int} {σ : Sg} {X : Nat} {K : List AV → List AV → Sg → Prop} (hX : 691 ≠ X)  : Rq d m_L_law X 691 [l0, l1, l2, vI x] st σ K ↔ Rq d m_L_law X 692 [l0, l1, l2, vI x] (vI x :: st) σ K := k3 hX (show fnd (pgm m_L_law) 691 = some (692, 3, 0, 3, 0, []) from rfl) rfl
set_option maxRecDepth 100000 in
theorem l_692 {d : Nat} {l0 l1 l2 l3 : AV} {st : List AV} {σ : Sg} {X : Nat} {K : List AV → List AV → Sg → Prop} (hX : 692 ≠ X)  : Rq d m_L_law X 692 [l0, l1, l2, l3] st σ K ↔ Rq d m_L_law X 693 [l0, l1, l2, l3] (vI 1 :: st) σ K := k0 hX (show fnd (pgm m_L_law) 692 = some (693, 0, 1, 0, 0, []) from rfl)
set_option maxRecDepth 100000 in
theorem l_693 {d : Nat} {l0 l1 l2 l3 : AV} {st : List AV} {a b : Int} {σ : Sg} {X : Nat} {K : List AV → List AV → Sg → Prop} (hX : 693 ≠ X)  : Rq d m_L_law X 693 [l0, l1, l2, l3] (vI b :: vI a :: st) σ K ↔ Rq d m_L_law X 694 [l0, l1, l2, l3] (vI (a + b) :: st) σ K := k10_0 hX (show fnd (pgm m_L_law) 693 = some (694, 10, 0, 0, 0, []) from rfl)
set_option maxRecDepth 100000 in
theorem l_694 {d : Nat} {l0 l1 l2 l3 : AV} {st : List AV} {i : Int} {σ : Sg} {X : Nat} {K : List AV → List AV → Sg → Prop} (hX : 694 ≠ X) (hi : 0 ≤ w32 i ∧ w32 i < σ 999 (-1)) : Rq d m_L_law X 694 [l0, l1, l2, l3] (vI i :: vR 999 :: st) σ K ↔ Rq d m_L_law X 695 [l0, l1, l2, l3] (vI (σ 999 (w32 i)) :: st) σ K := k41 hX (show fnd (pgm m_L_law) 694 = some (695, 41, 0, 0, 0, []) from rfl) hi
set_option maxRecDepth 100000 in
theorem l_695 {d : Nat} {l1 l2 l3 : AV} {st : List AV} {o : Nat} {σ : Sg} {X : Nat} {K : List AV → List AV → Sg → Prop} (hX : 695 ≠ X) (ho : o ≠ 0) : Rq d m_L_law X 695 [vR o, l1, l2, l3] st σ K ↔ Rq d m_L_law X 696 [vR o, l1, l2, l3] (vR o :: st) σ K := k5 hX (show fnd (pgm m_L_law) 695 = some (696, 5, 0, 0, 0, []) from rfl) rfl ho
set_option maxRecDepth 100000 in
theorem l_696 {d : Nat} {l0 l1 l2 : AV} {st : List AV} {x : Int} {σ : Sg} {X : Nat} {K : List AV → List AV → Sg → Prop} (hX : 696 ≠ X)  : Rq d m_L_law X 696 [l0, l1, l2, vI x] st σ K ↔ Rq d m_L_law X 697 [l0, l1, l2, vI x] (vI x :: st) σ K := k3 hX (show fnd (pgm m_L_law) 696 = some (697, 3, 0, 3, 0, []) from rfl) rfl
set_option maxRecDepth 100000 in
theorem l_697 {d : Nat} {l0 l1 l2 l3 : AV} {st : List AV} {σ : Sg} {X : Nat} {K : List AV → List AV → Sg → Prop} (hX : 697 ≠ X)  : Rq d m_L_law X 697 [l0, l1, l2, l3] st σ K ↔ Rq d m_L_law X 698 [l0, l1, l2, l3] (vI 2 :: st) σ K := k0 hX (show fnd (pgm m_L_law) 697 = some (698, 0, 2, 0, 0, []) from rfl)
set_option maxRecDepth 100000 in
theorem l_698 {d : Nat} {l0 l1 l2 l3 : AV} {st : List AV} {a b : Int} {σ : Sg} {X : Nat} {K : List AV → List AV → Sg → Prop} (hX : 698 ≠ X)  : Rq d m_L_law X 698 [l0, l1, l2, l3] (vI b :: vI a :: st) σ K ↔ Rq d m_L_law X 699 [l0, l1, l2, l3] (vI (a + b) :: st) σ K := k10_0 hX (show fnd (pgm m_L_law) 698 = some (699, 10, 0, 0, 0, []) from rfl)
set_option maxRecDepth 100000 in
theorem l_699 {d : Nat} {l0 l1 l2 l3 : AV} {st : List AV} {i : Int} {σ : Sg} {X : Nat} {K : List AV → List AV → Sg → Prop} (hX : 699 ≠ X) (hi : 0 ≤ w32 i ∧ w32 i < σ 999 (-1)) : Rq d m_L_law X 699 [l0, l1, l2, l3] (vI i :: vR 999 :: st) σ K ↔ Rq d m_L_law X 700 [l0, l1, l2, l3] (vI (σ 999 (w32 i)) :: st) σ K := k41 hX (show fnd (pgm m_L_law) 699 = some (700, 41, 0, 0, 0, []) from rfl) hi
set_option maxRecDepth 100000 in
theorem l_700 {d : Nat} {l1 l2 l3 : AV} {st : List AV} {o : Nat} {σ : Sg} {X : Nat} {K : List AV → List AV → Sg → Prop} (hX : 700 ≠ X) (ho : o ≠ 0) : Rq d m_L_law X 700 [vR o, l1, l2, l3] st σ K ↔ Rq d m_L_law X 701 [vR o, l1, l2, l3] (vR o :: st) σ K := k5 hX (show fnd (pgm m_L_law) 700 = some (701, 5, 0, 0, 0, []) from rfl) rfl ho
set_option maxRecDepth 100000 in
theorem l_701 {d : Nat} {l0 l1 l2 : AV} {st : List AV} {x : Int} {σ : Sg} {X : Nat} {K : List AV → List AV → Sg → Prop} (hX : 701 ≠ X)  : Rq d m_L_law X 701 [l0, l1, l2, vI x] st σ K ↔ Rq d m_L_law X 702 [l0, l1, l2, vI x] (vI x :: st) σ K := k3 hX (show fnd (pgm m_L_law) 701 = some (702, 3, 0, 3, 0, []) from rfl) rfl
set_option maxRecDepth 100000 in
theorem l_702 {d : Nat} {l0 l1 l2 l3 : AV} {st : List AV} {σ : Sg} {X : Nat} {K : List AV → List AV → Sg → Prop} (hX : 702 ≠ X)  : Rq d m_L_law X 702 [l0, l1, l2, l3] st σ K ↔ Rq d m_L_law X 703 [l0, l1, l2, l3] (vI 3 :: st) σ K := k0 hX (show fnd (pgm m_L_law) 702 = some (703, 0, 3, 0, 0, []) from rfl)
set_option maxRecDepth 100000 in
theorem l_703 {d : Nat} {l0 l1 l2 l3 : AV} {st : List AV} {a b : Int} {σ : Sg} {X : Nat} {K : List AV → List AV → Sg → Prop} (hX : 703 ≠ X)  : Rq d m_L_law X 703 [l0, l1, l2, l3] (vI b :: vI a :: st) σ K ↔ Rq d m_L_law X 704 [l0, l1, l2, l3] (vI (a + b) :: st) σ K := k10_0 hX (show fnd (pgm m_L_law) 703 = some (704, 10, 0, 0, 0, []) from rfl)
set_option maxRecDepth 100000 in
theorem l_704 {d : Nat} {l0 l1 l2 l3 : AV} {st : List AV} {i : Int} {σ : Sg} {X : Nat} {K : List AV → List AV → Sg → Prop} (hX : 704 ≠ X) (hi : 0 ≤ w32 i ∧ w32 i < σ 999 (-1)) : Rq d m_L_law X 704 [l0, l1, l2, l3] (vI i :: vR 999 :: st) σ K ↔ Rq d m_L_law X 705 [l0, l1, l2, l3] (vI (σ 999 (w32 i)) :: st) σ K := k41 hX (show fnd (pgm m_L_law) 704 = some (705, 41, 0, 0, 0, []) from rfl) hi
set_option maxRecDepth 100000 in
theorem l_705 {d : Nat} {l0 l1 l2 l3 : AV} {st : List AV} {o : Nat} {a0 : Int} {a1 : Int} {a2 : Int} {σ : Sg} {X : Nat} {K : List AV → List AV → Sg → Prop} (hX : 705 ≠ X) (h4 : st.length ≤ 4) (hk : kn σ o = (0, 6)) : Rq d m_L_law X 705 [l0, l1, l2, l3] (vI a2 :: vI a1 :: vI a0 :: vR o :: st) σ K ↔ ∃ r σ1, Ev d m_X6_found [vR o, vI a0, vI a1, vI a2] σ r σ1 ∧ Rq d m_L_law X 708 [l0, l1, l2, l3] (psh r st) σ1 K := k35 hX (show fnd (pgm m_L_law) 705 = some (708, 35, 70, 137, 4, []) from rfl) ⟨⟨by simp, by simpa using h4⟩, (by simp only [List.take, List.reverse, List.reverseAux, rcv]; rw [if_neg (by decide +kernel)]; exact decide_eq_true hk)⟩
set_option maxRecDepth 100000 in
theorem l_708 {d : Nat} {l0 l1 l2 l3 : AV} {st : List AV} {a b : Int} {σ : Sg} {X : Nat} {K : List AV → List AV → Sg → Prop} (hX : 708 ≠ X)  : Rq d m_L_law X 708 [l0, l1, l2, l3] (vI b :: vI a :: st) σ K ↔ if w32 a = w32 b then Rq d m_L_law X 1364 [l0, l1, l2, l3] st σ K else Rq d m_L_law X 711 [l0, l1, l2, l3] st σ K := k20_0 hX (show fnd (pgm m_L_law) 708 = some (711, 20, 0, 0, 1364, []) from rfl)
set_option maxRecDepth 100000 in
theorem l_711 {d : Nat} {l0 l1 l2 l3 : AV} {st : List AV} {σ : Sg} {X : Nat} {K : List AV → List AV → Sg → Prop} (hX : 711 ≠ X)  : Rq d m_L_law X 711 [l0, l1, l2, l3] st σ K ↔ Rq d m_L_law X 712 [l0, l1, l2, l3] (vI 0 :: st) σ K := k0 hX (show fnd (pgm m_L_law) 711 = some (712, 0, 0, 0, 0, []) from rfl)
set_option maxRecDepth 100000 in
theorem l_713 {d : Nat} {l0 l2 l3 : AV} {st : List AV} {o : Nat} {σ : Sg} {X : Nat} {K : List AV → List AV → Sg → Prop} (hX : 713 ≠ X) (ho : o ≠ 0) : Rq d m_L_law X 713 [l0, vR o, l2, l3] st σ K ↔ Rq d m_L_law X 714 [l0, vR o, l2, l3] (vR o :: st) σ K := k5 hX (show fnd (pgm m_L_law) 713 = some (714, 5, 0, 1, 0, []) from rfl) rfl ho
set_option maxRecDepth 100000 in
theorem l_714 {d : Nat} {l0 l1 l2 l3 : AV} {st : List AV} {o : Nat} {σ : Sg} {X : Nat} {K : List AV → List AV → Sg → Prop} (hX : 714 ≠ X) (h4 : st.length ≤ 4) (hk : kn σ o = (0, 5)) : Rq d m_L_law X 714 [l0, l1, l2, l3] (vR o :: st) σ K ↔ ∃ r σ1, Ev d m_X5_proof [vR o] σ r σ1 ∧ Rq d m_L_law X 717 [l0, l1, l2, l3] (psh r st) σ1 K := k35 hX (show fnd (pgm m_L_law) 714 = some (717, 35, 71, 66, 1, []) from rfl) ⟨⟨by simp, by simpa using h4⟩, (by simp only [List.take, List.reverse, List.reverseAux, rcv]; rw [if_neg (by decide +kernel)]; exact decide_eq_true hk)⟩
set_option maxRecDepth 100000 in
theorem l_717 {d : Nat} {l0 l1 l3 : AV} {st : List AV} {o : Nat} {σ : Sg} {X : Nat} {K : List AV → List AV → Sg → Prop} (hX : 717 ≠ X) (ho : o ≠ 0) : Rq d m_L_law X 717 [l0, l1, vR o, l3] st σ K ↔ Rq d m_L_law X 718 [l0, l1, vR o, l3] (vR o :: st) σ K := k5 hX (show fnd (pgm m_L_law) 717 = some (718, 5, 0, 2, 0, []) from rfl) rfl ho
set_option maxRecDepth 100000 in
theorem l_718 {d : Nat} {l0 l1 l2 l3 : AV} {st : List AV} {o : Nat} {σ : Sg} {X : Nat} {K : List AV → List AV → Sg → Prop} (hX : 718 ≠ X) (h4 : st.length ≤ 4) (hk : kn σ o = (0, 6)) : Rq d m_L_law X 718 [l0, l1, l2, l3] (vR o :: st) σ K ↔ ∃ r σ1, Ev d m_X6_proof [vR o] σ r σ1 ∧ Rq d m_L_law X 721 [l0, l1, l2, l3] (psh r st) σ1 K := k35 hX (show fnd (pgm m_L_law) 718 = some (721, 35, 75, 139, 1, []) from rfl) ⟨⟨by simp, by simpa using h4⟩, (by simp only [List.take, List.reverse, List.reverseAux, rcv]; rw [if_neg (by decide +kernel)]; exact decide_eq_true hk)⟩
set_option maxRecDepth 100000 in
theorem l_721 {d : Nat} {l0 l1 l2 l3 : AV} {st : List AV} {a b : Int} {σ : Sg} {X : Nat} {K : List AV → List AV → Sg → Prop} (hX : 721 ≠ X)  : Rq d m_L_law X 721 [l0, l1, l2, l3] (vI b :: vI a :: st) σ K ↔ if w32 a = w32 b then Rq d m_L_law X 1364 [l0, l1, l2, l3] st σ K else Rq d m_L_law X 724 [l0, l1, l2, l3] st σ K := k20_0 hX (show fnd (pgm m_L_law) 721 = some (724, 20, 0, 0, 1364, []) from rfl)
set_option maxRecDepth 100000 in
theorem l_724 {d : Nat} {l0 l1 l2 l3 : AV} {st : List AV} {σ : Sg} {X : Nat} {K : List AV → List AV → Sg → Prop} (hX : 724 ≠ X)  : Rq d m_L_law X 724 [l0, l1, l2, l3] st σ K ↔ Rq d m_L_law X 725 [l0, l1, l2, l3] (vI 0 :: st) σ K := k0 hX (show fnd (pgm m_L_law) 724 = some (725, 0, 0, 0, 0, []) from rfl)
set_option maxRecDepth 100000 in
theorem l_726 {d : Nat} {l0 l2 l3 : AV} {st : List AV} {o : Nat} {σ : Sg} {X : Nat} {K : List AV → List AV → Sg → Prop} (hX : 726 ≠ X) (ho : o ≠ 0) : Rq d m_L_law X 726 [l0, vR o, l2, l3] st σ K ↔ Rq d m_L_law X 727 [l0, vR o, l2, l3] (vR o :: st) σ K := k5 hX (show fnd (pgm m_L_law) 726 = some (727, 5, 0, 1, 0, []) from rfl) rfl ho
set_option maxRecDepth 100000 in
theorem l_727 {d : Nat} {l1 l2 l3 : AV} {st : List AV} {o : Nat} {σ : Sg} {X : Nat} {K : List AV → List AV → Sg → Prop} (hX : 727 ≠ X) (ho : o ≠ 0) : Rq d m_L_law X 727 [vR o, l1, l2, l3] st σ K ↔ Rq d m_L_law X 728 [vR o, l1, l2, l3] (vR o :: st) σ K := k5 hX (show fnd (pgm m_L_law) 727 = some (728, 5, 0, 0, 0, []) from rfl) rfl ho
set_option maxRecDepth 100000 in
theorem l_728 {d : Nat} {l0 l1 l2 : AV} {st : List AV} {x : Int} {σ : Sg} {X : Nat} {K : List AV → List AV → Sg → Prop} (hX : 728 ≠ X)  : Rq d m_L_law X 728 [l0, l1, l2, vI x] st σ K ↔ Rq d m_L_law X 729 [l0, l1, l2, vI x] (vI x :: st) σ K := k3 hX (show fnd (pgm m_L_law) 728 = some (729, 3, 0, 3, 0, []) from rfl) rfl
set_option maxRecDepth 100000 in
theorem l_729 {d : Nat} {l0 l1 l2 l3 : AV} {st : List AV} {σ : Sg} {X : Nat} {K : List AV → List AV → Sg → Prop} (hX : 729 ≠ X)  : Rq d m_L_law X 729 [l0, l1, l2, l3] st σ K ↔ Rq d m_L_law X 730 [l0, l1, l2, l3] (vI 1 :: st) σ K := k0 hX (show fnd (pgm m_L_law) 729 = some (730, 0, 1, 0, 0, []) from rfl)
set_option maxRecDepth 100000 in
theorem l_730 {d : Nat} {l0 l1 l2 l3 : AV} {st : List AV} {a b : Int} {σ : Sg} {X : Nat} {K : List AV → List AV → Sg → Prop} (hX : 730 ≠ X)  : Rq d m_L_law X 730 [l0, l1, l2, l3] (vI b :: vI a :: st) σ K ↔ Rq d m_L_law X 731 [l0, l1, l2, l3] (vI (a + b) :: st) σ K := k10_0 hX (show fnd (pgm m_L_law) 730 = some (731, 10, 0, 0, 0, []) from rfl)
set_option maxRecDepth 100000 in
theorem l_731 {d : Nat} {l0 l1 l2 l3 : AV} {st : List AV} {i : Int} {σ : Sg} {X : Nat} {K : List AV → List AV → Sg → Prop} (hX : 731 ≠ X) (hi : 0 ≤ w32 i ∧ w32 i < σ 999 (-1)) : Rq d m_L_law X 731 [l0, l1, l2, l3] (vI i :: vR 999 :: st) σ K ↔ Rq d m_L_law X 732 [l0, l1, l2, l3] (vI (σ 999 (w32 i)) :: st) σ K := k41 hX (show fnd (pgm m_L_law) 731 = some (732, 41, 0, 0, 0, []) from rfl) hi
set_option maxRecDepth 100000 in
theorem l_732 {d : Nat} {l0 l1 l2 l3 : AV} {st : List AV} {o : Nat} {a0 : Int} {σ : Sg} {X : Nat} {K : List AV → List AV → Sg → Prop} (hX : 732 ≠ X) (h4 : st.length ≤ 4) (hk : kn σ o = (0, 5)) : Rq d m_L_law X 732 [l0, l1, l2, l3] (vI a0 :: vR o :: st) σ K ↔ ∃ r σ1, Ev d m_X5_watch [vR o, vI a0] σ r σ1 ∧ Rq d m_L_law X 735 [l0, l1, l2, l3] (psh r st) σ1 K := k35 hX (show fnd (pgm m_L_law) 732 = some (735, 35, 76, 67, 2, []) from rfl) ⟨⟨by simp, by simpa using h4⟩, (by simp only [List.take, List.reverse, List.reverseAux, rcv]; rw [if_neg (by decide +kernel)]; exact decide_eq_true hk)⟩
set_option maxRecDepth 100000 in
theorem l_735 {d : Nat} {l0 l1 l3 : AV} {st : List AV} {o : Nat} {σ : Sg} {X : Nat} {K : List AV → List AV → Sg → Prop} (hX : 735 ≠ X) (ho : o ≠ 0) : Rq d m_L_law X 735 [l0, l1, vR o, l3] st σ K ↔ Rq d m_L_law X 736 [l0, l1, vR o, l3] (vR o :: st) σ K := k5 hX (show fnd (pgm m_L_law) 735 = some (736, 5, 0, 2, 0, []) from rfl) rfl ho
set_option maxRecDepth 100000 in
theorem l_736 {d : Nat} {l1 l2 l3 : AV} {st : List AV} {o : Nat} {σ : Sg} {X : Nat} {K : List AV → List AV → Sg → Prop} (hX : 736 ≠ X) (ho : o ≠ 0) : Rq d m_L_law X 736 [vR o, l1, l2, l3] st σ K ↔ Rq d m_L_law X 737 [vR o, l1, l2, l3] (vR o :: st) σ K := k5 hX (show fnd (pgm m_L_law) 736 = some (737, 5, 0, 0, 0, []) from rfl) rfl ho
set_option maxRecDepth 100000 in
theorem l_737 {d : Nat} {l0 l1 l2 : AV} {st : List AV} {x : Int} {σ : Sg} {X : Nat} {K : List AV → List AV → Sg → Prop} (hX : 737 ≠ X)  : Rq d m_L_law X 737 [l0, l1, l2, vI x] st σ K ↔ Rq d m_L_law X 738 [l0, l1, l2, vI x] (vI x :: st) σ K := k3 hX (show fnd (pgm m_L_law) 737 = some (738, 3, 0, 3, 0, []) from rfl) rfl
set_option maxRecDepth 100000 in
theorem l_738 {d : Nat} {l0 l1 l2 l3 : AV} {st : List AV} {σ : Sg} {X : Nat} {K : List AV → List AV → Sg → Prop} (hX : 738 ≠ X)  : Rq d m_L_law X 738 [l0, l1, l2, l3] st σ K ↔ Rq d m_L_law X 739 [l0, l1, l2, l3] (vI 1 :: st) σ K := k0 hX (show fnd (pgm m_L_law) 738 = some (739, 0, 1, 0, 0, []) from rfl)
set_option maxRecDepth 100000 in
theorem l_739 {d : Nat} {l0 l1 l2 l3 : AV} {st : List AV} {a b : Int} {σ : Sg} {X : Nat} {K : List AV → List AV → Sg → Prop} (hX : 739 ≠ X)  : Rq d m_L_law X 739 [l0, l1, l2, l3] (vI b :: vI a :: st) σ K ↔ Rq d m_L_law X 740 [l0, l1, l2, l3] (vI (a + b) :: st) σ K := k10_0 hX (show fnd (pgm m_L_law) 739 = some (740, 10, 0, 0, 0, []) from rfl)
set_option maxRecDepth 100000 in
theorem l_740 {d : Nat} {l0 l1 l2 l3 : AV} {st : List AV} {i : Int} {σ : Sg} {X : Nat} {K : List AV → List AV → Sg → Prop} (hX : 740 ≠ X) (hi : 0 ≤ w32 i ∧ w32 i < σ 999 (-1)) : Rq d m_L_law X 740 [l0, l1, l2, l3] (vI i :: vR 999 :: st) σ K ↔ Rq d m_L_law X 741 [l0, l1, l2, l3] (vI (σ 999 (w32 i)) :: st) σ K := k41 hX (show fnd (pgm m_L_law) 740 = some (741, 41, 0, 0, 0, []) from rfl) hi
set_option maxRecDepth 100000 in
theorem l_741 {d : Nat} {l0 l1 l2 l3 : AV} {st : List AV} {o : Nat} {a0 : Int} {σ : Sg} {X : Nat} {K : List AV → List AV → Sg → Prop} (hX : 741 ≠ X) (h4 : st.length ≤ 4) (hk : kn σ o = (0, 6)) : Rq d m_L_law X 741 [l0, l1, l2, l3] (vI a0 :: vR o :: st) σ K ↔ ∃ r σ1, Ev d m_X6_watch [vR o, vI a0] σ r σ1 ∧ Rq d m_L_law X 744 [l0, l1, l2, l3] (psh r st) σ1 K := k35 hX (show fnd (pgm m_L_law) 741 = some (744, 35, 79, 141, 2, []) from rfl) ⟨⟨by simp, by simpa using h4⟩, (by simp only [List.take, List.reverse, List.reverseAux, rcv]; rw [if_neg (by decide +kernel)]; exact decide_eq_true hk)⟩
set_option maxRecDepth 100000 in
theorem l_744 {d : Nat} {l0 l1 l2 l3 : AV} {st : List AV} {a b : Int} {σ : Sg} {X : Nat} {K : List AV → List AV → Sg → Prop} (hX : 744 ≠ X)  : Rq d m_L_law X 744 [l0, l1, l2, l3] (vI b :: vI a :: st) σ K ↔ if w32 a = w32 b then Rq d m_L_law X 1364 [l0, l1, l2, l3] st σ K else Rq d m_L_law X 747 [l0, l1, l2, l3] st σ K := k20_0 hX (show fnd (pgm m_L_law) 744 = some (747, 20, 0, 0, 1364, []) from rfl)
set_option maxRecDepth 100000 in
theorem l_747 {d : Nat} {l0 l1 l2 l3 : AV} {st : List AV} {σ : Sg} {X : Nat} {K : List AV → List AV → Sg → Prop} (hX : 747 ≠ X)  : Rq d m_L_law X 747 [l0, l1, l2, l3] st σ K ↔ Rq d m_L_law X 748 [l0, l1, l2, l3] (vI 0 :: st) σ K := k0 hX (show fnd (pgm m_L_law) 747 = some (748, 0, 0, 0, 0, []) from rfl)
set_option maxRecDepth 100000 in
theorem l_749 {d : Nat} {l0 l2 l3 : AV} {st : List AV} {o : Nat} {σ : Sg} {X : Nat} {K : List AV → List AV → Sg → Prop} (hX : 749 ≠ X) (ho : o ≠ 0) : Rq d m_L_law X 749 [l0, vR o, l2, l3] st σ K ↔ Rq d m_L_law X 750 [l0, vR o, l2, l3] (vR o :: st) σ K := k5 hX (show fnd (pgm m_L_law) 749 = some (750, 5, 0, 1, 0, []) from rfl) rfl ho
set_option maxRecDepth 100000 in
theorem l_750 {d : Nat} {l1 l2 l3 : AV} {st : List AV} {o : Nat} {σ : Sg} {X : Nat} {K : List AV → List AV → Sg → Prop} (hX : 750 ≠ X) (ho : o ≠ 0) : Rq d m_L_law X 750 [vR o, l1, l2, l3] st σ K ↔ Rq d m_L_law X 751 [vR o, l1, l2, l3] (vR o :: st) σ K := k5 hX (show fnd (pgm m_L_law) 750 = some (751, 5, 0, 0, 0, []) from rfl) rfl ho
set_option maxRecDepth 100000 in
theorem l_751 {d : Nat} {l0 l1 l2 : AV} {st : List AV} {x : Int} {σ : Sg} {X : Nat} {K : List AV → List AV → Sg → Prop} (hX : 751 ≠ X)  : Rq d m_L_law X 751 [l0, l1, l2, vI x] st σ K ↔ Rq d m_L_law X 752 [l0, l1, l2, vI x] (vI x :: st) σ K := k3 hX (show fnd (pgm m_L_law) 751 = some (752, 3, 0, 3, 0, []) from rfl) rfl
set_option maxRecDepth 100000 in
theorem l_752 {d : Nat} {l0 l1 l2 l3 : AV} {st : List AV} {σ : Sg} {X : Nat} {K : List AV → List AV → Sg → Prop} (hX : 752 ≠ X)  : Rq d m_L_law X 752 [l0, l1, l2, l3] st σ K ↔ Rq d m_L_law X 753 [l0, l1, l2, l3] (vI 1 :: st) σ K := k0 hX (show fnd (pgm m_L_law) 752 = some (753, 0, 1, 0, 0, []) from rfl)
set_option maxRecDepth 100000 in
theorem l_753 {d : Nat} {l0 l1 l2 l3 : AV} {st : List AV} {a b : Int} {σ : Sg} {X : Nat} {K : List AV → List AV → Sg → Prop} (hX : 753 ≠ X)  : Rq d m_L_law X 753 [l0, l1, l2, l3] (vI b :: vI a :: st) σ K ↔ Rq d m_L_law X 754 [l0, l1, l2, l3] (vI (a + b) :: st) σ K := k10_0 hX (show fnd (pgm m_L_law) 753 = some (754, 10, 0, 0, 0, []) from rfl)
set_option maxRecDepth 100000 in
theorem l_754 {d : Nat} {l0 l1 l2 l3 : AV} {st : List AV} {i : Int} {σ : Sg} {X : Nat} {K : List AV → List AV → Sg → Prop} (hX : 754 ≠ X) (hi : 0 ≤ w32 i ∧ w32 i < σ 999 (-1)) : Rq d m_L_law X 754 [l0, l1, l2, l3] (vI i :: vR 999 :: st) σ K ↔ Rq d m_L_law X 755 [l0, l1, l2, l3] (vI (σ 999 (w32 i)) :: st) σ K := k41 hX (show fnd (pgm m_L_law) 754 = some (755, 41, 0, 0, 0, []) from rfl) hi
set_option maxRecDepth 100000 in
theorem l_755 {d : Nat} {l1 l2 l3 : AV} {st : List AV} {o : Nat} {σ : Sg} {X : Nat} {K : List AV → List AV → Sg → Prop} (hX : 755 ≠ X) (ho : o ≠ 0) : Rq d m_L_law X 755 [vR o, l1, l2, l3] st σ K ↔ Rq d m_L_law X 756 [vR o, l1, l2, l3] (vR o :: st) σ K := k5 hX (show fnd (pgm m_L_law) 755 = some (756, 5, 0, 0, 0, []) from rfl) rfl ho
set_option maxRecDepth 100000 in
theorem l_756 {d : Nat} {l0 l1 l2 : AV} {st : List AV} {x : Int} {σ : Sg} {X : Nat} {K : List AV → List AV → Sg → Prop} (hX : 756 ≠ X)  : Rq d m_L_law X 756 [l0, l1, l2, vI x] st σ K ↔ Rq d m_L_law X 757 [l0, l1, l2, vI x] (vI x :: st) σ K := k3 hX (show fnd (pgm m_L_law) 756 = some (757, 3, 0, 3, 0, []) from rfl) rfl
set_option maxRecDepth 100000 in
theorem l_757 {d : Nat} {l0 l1 l2 l3 : AV} {st : List AV} {σ : Sg} {X : Nat} {K : List AV → List AV → Sg → Prop} (hX : 757 ≠ X)  : Rq d m_L_law X 757 [l0, l1, l2, l3] st σ K ↔ Rq d m_L_law X 758 [l0, l1, l2, l3] (vI 2 :: st) σ K := k0 hX (show fnd (pgm m_L_law) 757 = some (758, 0, 2, 0, 0, []) from rfl)
set_option maxRecDepth 100000 in
theorem l_758 {d : Nat} {l0 l1 l2 l3 : AV} {st : List AV} {a b : Int} {σ : Sg} {X : Nat} {K : List AV → List AV → Sg → Prop} (hX : 758 ≠ X)  : Rq d m_L_law X 758 [l0, l1, l2, l3] (vI b :: vI a :: st) σ K ↔ Rq d m_L_law X 759 [l0, l1, l2, l3] (vI (a + b) :: st) σ K := k10_0 hX (show fnd (pgm m_L_law) 758 = some (759, 10, 0, 0, 0, []) from rfl)
set_option maxRecDepth 100000 in
theorem l_759 {d : Nat} {l0 l1 l2 l3 : AV} {st : List AV} {i : Int} {σ : Sg} {X : Nat} {K : List AV → List AV → Sg → Prop} (hX : 759 ≠ X) (hi : 0 ≤ w32 i ∧ w32 i < σ 999 (-1)) : Rq d m_L_law X 759 [l0, l1, l2, l3] (vI i :: vR 999 :: st) σ K ↔ Rq d m_L_law X 760 [l0, l1, l2, l3] (vI (σ 999 (w32 i)) :: st) σ K := k41 hX (show fnd (pgm m_L_law) 759 = some (760, 41, 0, 0, 0, []) from rfl) hi
set_option maxRecDepth 100000 in
theorem l_760 {d : Nat} {l0 l1 l2 l3 : AV} {st : List AV} {o : Nat} {a0 : Int} {a1 : Int} {σ : Sg} {X : Nat} {K : List AV → List AV → Sg → Prop} (hX : 760 ≠ X) (h4 : st.length ≤ 4) (hk : kn σ o = (0, 5)) : Rq d m_L_law X 760 [l0, l1, l2, l3] (vI a1 :: vI a0 :: vR o :: st) σ K ↔ ∃ r σ1, Ev d m_X5_hold [vR o, vI a0, vI a1] σ r σ1 ∧ Rq d m_L_law X 763 [l0, l1, l2, l3] (psh r st) σ1 K := k35 hX (show fnd (pgm m_L_law) 760 = some (763, 35, 80, 68, 3, []) from rfl) ⟨⟨by simp, by simpa using h4⟩, (by simp only [List.take, List.reverse, List.reverseAux, rcv]; rw [if_neg (by decide +kernel)]; exact decide_eq_true hk)⟩
set_option maxRecDepth 100000 in
theorem l_763 {d : Nat} {l0 l1 l3 : AV} {st : List AV} {o : Nat} {σ : Sg} {X : Nat} {K : List AV → List AV → Sg → Prop} (hX : 763 ≠ X) (ho : o ≠ 0) : Rq d m_L_law X 763 [l0, l1, vR o, l3] st σ K ↔ Rq d m_L_law X 764 [l0, l1, vR o, l3] (vR o :: st) σ K := k5 hX (show fnd (pgm m_L_law) 763 = some (764, 5, 0, 2, 0, []) from rfl) rfl ho
set_option maxRecDepth 100000 in
theorem l_764 {d : Nat} {l1 l2 l3 : AV} {st : List AV} {o : Nat} {σ : Sg} {X : Nat} {K : List AV → List AV → Sg → Prop} (hX : 764 ≠ X) (ho : o ≠ 0) : Rq d m_L_law X 764 [vR o, l1, l2, l3] st σ K ↔ Rq d m_L_law X 765 [vR o, l1, l2, l3] (vR o :: st) σ K := k5 hX (show fnd (pgm m_L_law) 764 = some (765, 5, 0, 0, 0, []) from rfl) rfl ho
set_option maxRecDepth 100000 in
theorem l_765 {d : Nat} {l0 l1 l2 : AV} {st : List AV} {x : Int} {σ : Sg} {X : Nat} {K : List AV → List AV → Sg → Prop} (hX : 765 ≠ X)  : Rq d m_L_law X 765 [l0, l1, l2, vI x] st σ K ↔ Rq d m_L_law X 766 [l0, l1, l2, vI x] (vI x :: st) σ K := k3 hX (show fnd (pgm m_L_law) 765 = some (766, 3, 0, 3, 0, []) from rfl) rfl
set_option maxRecDepth 100000 in
theorem l_766 {d : Nat} {l0 l1 l2 l3 : AV} {st : List AV} {σ : Sg} {X : Nat} {K : List AV → List AV → Sg → Prop} (hX : 766 ≠ X)  : Rq d m_L_law X 766 [l0, l1, l2, l3] st σ K ↔ Rq d m_L_law X 767 [l0, l1, l2, l3] (vI 1 :: st) σ K := k0 hX (show fnd (pgm m_L_law) 766 = some (767, 0, 1, 0, 0, []) from rfl)
set_option maxRecDepth 100000 in
theorem l_767 {d : Nat} {l0 l1 l2 l3 : AV} {st : List AV} {a b : Int} {σ : Sg} {X : Nat} {K : List AV → List AV → Sg → Prop} (hX : 767 ≠ X)  : Rq d m_L_law X 767 [l0, l1, l2, l3] (vI b :: vI a :: st) σ K ↔ Rq d m_L_law X 768 [l0, l1, l2, l3] (vI (a + b) :: st) σ K := k10_0 hX (show fnd (pgm m_L_law) 767 = some (768, 10, 0, 0, 0, []) from rfl)
set_option maxRecDepth 100000 in
theorem l_768 {d : Nat} {l0 l1 l2 l3 : AV} {st : List AV} {i : Int} {σ : Sg} {X : Nat} {K : List AV → List AV → Sg → Prop} (hX : 768 ≠ X) (hi : 0 ≤ w32 i ∧ w32 i < σ 999 (-1)) : Rq d m_L_law X 768 [l0, l1, l2, l3] (vI i :: vR 999 :: st) σ K ↔ Rq d m_L_law X 769 [l0, l1, l2, l3] (vI (σ 999 (w32 i)) :: st) σ K := k41 hX (show fnd (pgm m_L_law) 768 = some (769, 41, 0, 0, 0, []) from rfl) hi
set_option maxRecDepth 100000 in
theorem l_769 {d : Nat} {l1 l2 l3 : AV} {st : List AV} {o : Nat} {σ : Sg} {X : Nat} {K : List AV → List AV → Sg → Prop} (hX : 769 ≠ X) (ho : o ≠ 0) : Rq d m_L_law X 769 [vR o, l1, l2, l3] st σ K ↔ Rq d m_L_law X 770 [vR o, l1, l2, l3] (vR o :: st) σ K := k5 hX (show fnd (pgm m_L_law) 769 = some (770, 5, 0, 0, 0, []) from rfl) rfl ho
set_option maxRecDepth 100000 in
theorem l_770 {d : Nat} {l0 l1 l2 : AV} {st : List AV} {x : Int} {σ : Sg} {X : Nat} {K : List AV → List AV → Sg → Prop} (hX : 770 ≠ X)  : Rq d m_L_law X 770 [l0, l1, l2, vI x] st σ K ↔ Rq d m_L_law X 771 [l0, l1, l2, vI x] (vI x :: st) σ K := k3 hX (show fnd (pgm m_L_law) 770 = some (771, 3, 0, 3, 0, []) from rfl) rfl
set_option maxRecDepth 100000 in
theorem l_771 {d : Nat} {l0 l1 l2 l3 : AV} {st : List AV} {σ : Sg} {X : Nat} {K : List AV → List AV → Sg → Prop} (hX : 771 ≠ X)  : Rq d m_L_law X 771 [l0, l1, l2, l3] st σ K ↔ Rq d m_L_law X 772 [l0, l1, l2, l3] (vI 2 :: st) σ K := k0 hX (show fnd (pgm m_L_law) 771 = some (772, 0, 2, 0, 0, []) from rfl)
set_option maxRecDepth 100000 in
theorem l_772 {d : Nat} {l0 l1 l2 l3 : AV} {st : List AV} {a b : Int} {σ : Sg} {X : Nat} {K : List AV → List AV → Sg → Prop} (hX : 772 ≠ X)  : Rq d m_L_law X 772 [l0, l1, l2, l3] (vI b :: vI a :: st) σ K ↔ Rq d m_L_law X 773 [l0, l1, l2, l3] (vI (a + b) :: st) σ K := k10_0 hX (show fnd (pgm m_L_law) 772 = some (773, 10, 0, 0, 0, []) from rfl)
set_option maxRecDepth 100000 in
theorem l_773 {d : Nat} {l0 l1 l2 l3 : AV} {st : List AV} {i : Int} {σ : Sg} {X : Nat} {K : List AV → List AV → Sg → Prop} (hX : 773 ≠ X) (hi : 0 ≤ w32 i ∧ w32 i < σ 999 (-1)) : Rq d m_L_law X 773 [l0, l1, l2, l3] (vI i :: vR 999 :: st) σ K ↔ Rq d m_L_law X 774 [l0, l1, l2, l3] (vI (σ 999 (w32 i)) :: st) σ K := k41 hX (show fnd (pgm m_L_law) 773 = some (774, 41, 0, 0, 0, []) from rfl) hi
set_option maxRecDepth 100000 in
theorem l_774 {d : Nat} {l0 l1 l2 l3 : AV} {st : List AV} {o : Nat} {a0 : Int} {a1 : Int} {σ : Sg} {X : Nat} {K : List AV → List AV → Sg → Prop} (hX : 774 ≠ X) (h4 : st.length ≤ 4) (hk : kn σ o = (0, 6)) : Rq d m_L_law X 774 [l0, l1, l2, l3] (vI a1 :: vI a0 :: vR o :: st) σ K ↔ ∃ r σ1, Ev d m_X6_hold [vR o, vI a0, vI a1] σ r σ1 ∧ Rq d m_L_law X 777 [l0, l1, l2, l3] (psh r st) σ1 K := k35 hX (show fnd (pgm m_L_law) 774 = some (777, 35, 83, 142, 3, []) from rfl) ⟨⟨by simp, by simpa using h4⟩, (by simp only [List.take, List.reverse, List.reverseAux, rcv]; rw [if_neg (by decide +kernel)]; exact decide_eq_true hk)⟩
set_option maxRecDepth 100000 in
theorem l_777 {d : Nat} {l0 l1 l2 l3 : AV} {st : List AV} {a b : Int} {σ : Sg} {X : Nat} {K : List AV → List AV → Sg → Prop} (hX : 777 ≠ X)  : Rq d m_L_law X 777 [l0, l1, l2, l3] (vI b :: vI a :: st) σ K ↔ if w32 a = w32 b then Rq d m_L_law X 1364 [l0, l1, l2, l3] st σ K else Rq d m_L_law X 780 [l0, l1, l2, l3] st σ K := k20_0 hX (show fnd (pgm m_L_law) 777 = some (780, 20, 0, 0, 1364, []) from rfl)
set_option maxRecDepth 100000 in
theorem l_780 {d : Nat} {l0 l1 l2 l3 : AV} {st : List AV} {σ : Sg} {X : Nat} {K : List AV → List AV → Sg → Prop} (hX : 780 ≠ X)  : Rq d m_L_law X 780 [l0, l1, l2, l3] st σ K ↔ Rq d m_L_law X 781 [l0, l1, l2, l3] (vI 0 :: st) σ K := k0 hX (show fnd (pgm m_L_law) 780 = some (781, 0, 0, 0, 0, []) from rfl)
set_option maxRecDepth 100000 in
theorem l_782 {d : Nat} {l0 l2 l3 : AV} {st : List AV} {o : Nat} {σ : Sg} {X : Nat} {K : List AV → List AV → Sg → Prop} (hX : 782 ≠ X) (ho : o ≠ 0) : Rq d m_L_law X 782 [l0, vR o, l2, l3] st σ K ↔ Rq d m_L_law X 783 [l0, vR o, l2, l3] (vR o :: st) σ K := k5 hX (show fnd (pgm m_L_law) 782 = some (783, 5, 0, 1, 0, []) from rfl) rfl ho
set_option maxRecDepth 100000 in
theorem l_783 {d : Nat} {l1 l2 l3 : AV} {st : List AV} {o : Nat} {σ : Sg} {X : Nat} {K : List AV → List AV → Sg → Prop} (hX : 783 ≠ X) (ho : o ≠ 0) : Rq d m_L_law X 783 [vR o, l1, l2, l3] st σ K ↔ Rq d m_L_law X 784 [vR o, l1, l2, l3] (vR o :: st) σ K := k5 hX (show fnd (pgm m_L_law) 783 = some (784, 5, 0, 0, 0, []) from rfl) rfl ho
set_option maxRecDepth 100000 in
theorem l_784 {d : Nat} {l0 l1 l2 : AV} {st : List AV} {x : Int} {σ : Sg} {X : Nat} {K : List AV → List AV → Sg → Prop} (hX : 784 ≠ X)  : Rq d m_L_law X 784 [l0, l1, l2, vI x] st σ K ↔ Rq d m_L_law X 785 [l0, l1, l2, vI x] (vI x :: st) σ K := k3 hX (show fnd (pgm m_L_law) 784 = some (785, 3, 0, 3, 0, []) from rfl) rfl
set_option maxRecDepth 100000 in
theorem l_785 {d : Nat} {l0 l1 l2 l3 : AV} {st : List AV} {σ : Sg} {X : Nat} {K : List AV → List AV → Sg → Prop} (hX : 785 ≠ X)  : Rq d m_L_law X 785 [l0, l1, l2, l3] st σ K ↔ Rq d m_L_law X 786 [l0, l1, l2, l3] (vI 1 :: st) σ K := k0 hX (show fnd (pgm m_L_law) 785 = some (786, 0, 1, 0, 0, []) from rfl)
set_option maxRecDepth 100000 in
theorem l_786 {d : Nat} {l0 l1 l2 l3 : AV} {st : List AV} {a b : Int} {σ : Sg} {X : Nat} {K : List AV → List AV → Sg → Prop} (hX : 786 ≠ X)  : Rq d m_L_law X 786 [l0, l1, l2, l3] (vI b :: vI a :: st) σ K ↔ Rq d m_L_law X 787 [l0, l1, l2, l3] (vI (a + b) :: st) σ K := k10_0 hX (show fnd (pgm m_L_law) 786 = some (787, 10, 0, 0, 0, []) from rfl)
set_option maxRecDepth 100000 in
theorem l_787 {d : Nat} {l0 l1 l2 l3 : AV} {st : List AV} {i : Int} {σ : Sg} {X : Nat} {K : List AV → List AV → Sg → Prop} (hX : 787 ≠ X) (hi : 0 ≤ w32 i ∧ w32 i < σ 999 (-1)) : Rq d m_L_law X 787 [l0, l1, l2, l3] (vI i :: vR 999 :: st) σ K ↔ Rq d m_L_law X 788 [l0, l1, l2, l3] (vI (σ 999 (w32 i)) :: st) σ K := k41 hX (show fnd (pgm m_L_law) 787 = some (788, 41, 0, 0, 0, []) from rfl) hi
set_option maxRecDepth 100000 in
theorem l_788 {d : Nat} {l1 l2 l3 : AV} {st : List AV} {o : Nat} {σ : Sg} {X : Nat} {K : List AV → List AV → Sg → Prop} (hX : 788 ≠ X) (ho : o ≠ 0) : Rq d m_L_law X 788 [vR o, l1, l2, l3] st σ K ↔ Rq d m_L_law X 789 [vR o, l1, l2, l3] (vR o :: st) σ K := k5 hX (show fnd (pgm m_L_law) 788 = some (789, 5, 0, 0, 0, []) from rfl) rfl ho
set_option maxRecDepth 100000 in
theorem l_789 {d : Nat} {l0 l1 l2 : AV} {st : List AV} {x : Int} {σ : Sg} {X : Nat} {K : List AV → List AV → Sg → Prop} (hX : 789 ≠ X)  : Rq d m_L_law X 789 [l0, l1, l2, vI x] st σ K ↔ Rq d m_L_law X 790 [l0, l1, l2, vI x] (vI x :: st) σ K := k3 hX (show fnd (pgm m_L_law) 789 = some (790, 3, 0, 3, 0, []) from rfl) rfl
set_option maxRecDepth 100000 in
theorem l_790 {d : Nat} {l0 l1 l2 l3 : AV} {st : List AV} {σ : Sg} {X : Nat} {K : List AV → List AV → Sg → Prop} (hX : 790 ≠ X)  : Rq d m_L_law X 790 [l0, l1, l2, l3] st σ K ↔ Rq d m_L_law X 791 [l0, l1, l2, l3] (vI 2 :: st) σ K := k0 hX (show fnd (pgm m_L_law) 790 = some (791, 0, 2, 0, 0, []) from rfl)
set_option maxRecDepth 100000 in
theorem l_791 {d : Nat} {l0 l1 l2 l3 : AV} {st : List AV} {a b : Int} {σ : Sg} {X : Nat} {K : List AV → List AV → Sg → Prop} (hX : 791 ≠ X)  : Rq d m_L_law X 791 [l0, l1, l2, l3] (vI b :: vI a :: st) σ K ↔ Rq d m_L_law X 792 [l0, l1, l2, l3] (vI (a + b) :: st) σ K := k10_0 hX (show fnd (pgm m_L_law) 791 = some (792, 10, 0, 0, 0, []) from rfl)
set_option maxRecDepth 100000 in
theorem l_792 {d : Nat} {l0 l1 l2 l3 : AV} {st : List AV} {i : Int} {σ : Sg} {X : Nat} {K : List AV → List AV → Sg → Prop} (hX : 792 ≠ X) (hi : 0 ≤ w32 i ∧ w32 i < σ 999 (-1)) : Rq d m_L_law X 792 [l0, l1, l2, l3] (vI i :: vR 999 :: st) σ K ↔ Rq d m_L_law X 793 [l0, l1, l2, l3] (vI (σ 999 (w32 i)) :: st) σ K := k41 hX (show fnd (pgm m_L_law) 792 = some (793, 41, 0, 0, 0, []) from rfl) hi
set_option maxRecDepth 100000 in
theorem l_793 {d : Nat} {l1 l2 l3 : AV} {st : List AV} {o : Nat} {σ : Sg} {X : Nat} {K : List AV → List AV → Sg → Prop} (hX : 793 ≠ X) (ho : o ≠ 0) : Rq d m_L_law X 793 [vR o, l1, l2, l3] st σ K ↔ Rq d m_L_law X 794 [vR o, l1, l2, l3] (vR o :: st) σ K := k5 hX (show fnd (pgm m_L_law) 793 = some (794, 5, 0, 0, 0, []) from rfl) rfl ho
set_option maxRecDepth 100000 in
theorem l_794 {d : Nat} {l0 l1 l2 : AV} {st : List AV} {x : Int} {σ : Sg} {X : Nat} {K : List AV → List AV → Sg → Prop} (hX : 794 ≠ X)  : Rq d m_L_law X 794 [l0, l1, l2, vI x] st σ K ↔ Rq d m_L_law X 795 [l0, l1, l2, vI x] (vI x :: st) σ K := k3 hX (show fnd (pgm m_L_law) 794 = some (795, 3, 0, 3, 0, []) from rfl) rfl
set_option maxRecDepth 100000 in
theorem l_795 {d : Nat} {l0 l1 l2 l3 : AV} {st : List AV} {σ : Sg} {X : Nat} {K : List AV → List AV → Sg → Prop} (hX : 795 ≠ X)  : Rq d m_L_law X 795 [l0, l1, l2, l3] st σ K ↔ Rq d m_L_law X 796 [l0, l1, l2, l3] (vI 3 :: st) σ K := k0 hX (show fnd (pgm m_L_law) 795 = some (796, 0, 3, 0, 0, []) from rfl)
set_option maxRecDepth 100000 in
theorem l_796 {d : Nat} {l0 l1 l2 l3 : AV} {st : List AV} {a b : Int} {σ : Sg} {X : Nat} {K : List AV → List AV → Sg → Prop} (hX : 796 ≠ X)  : Rq d m_L_law X 796 [l0, l1, l2, l3] (vI b :: vI a :: st) σ K ↔ Rq d m_L_law X 797 [l0, l1, l2, l3] (vI (a + b) :: st) σ K := k10_0 hX (show fnd (pgm m_L_law) 796 = some (797, 10, 0, 0, 0, []) from rfl)
set_option maxRecDepth 100000 in
theorem l_797 {d : Nat} {l0 l1 l2 l3 : AV} {st : List AV} {i : Int} {σ : Sg} {X : Nat} {K : List AV → List AV → Sg → Prop} (hX : 797 ≠ X) (hi : 0 ≤ w32 i ∧ w32 i < σ 999 (-1)) : Rq d m_L_law X 797 [l0, l1, l2, l3] (vI i :: vR 999 :: st) σ K ↔ Rq d m_L_law X 798 [l0, l1, l2, l3] (vI (σ 999 (w32 i)) :: st) σ K := k41 hX (show fnd (pgm m_L_law) 797 = some (798, 41, 0, 0, 0, []) from rfl) hi
set_option maxRecDepth 100000 in
theorem l_798 {d : Nat} {l1 l2 l3 : AV} {st : List AV} {o : Nat} {σ : Sg} {X : Nat} {K : List AV → List AV → Sg → Prop} (hX : 798 ≠ X) (ho : o ≠ 0) : Rq d m_L_law X 798 [vR o, l1, l2, l3] st σ K ↔ Rq d m_L_law X 799 [vR o, l1, l2, l3] (vR o :: st) σ K := k5 hX (show fnd (pgm m_L_law) 798 = some (799, 5, 0, 0, 0, []) from rfl) rfl ho
set_option maxRecDepth 100000 in
theorem l_799 {d : Nat} {l0 l1 l2 : AV} {st : List AV} {x : Int} {σ : Sg} {X : Nat} {K : List AV → List AV → Sg → Prop} (hX : 799 ≠ X)  : Rq d m_L_law X 799 [l0, l1, l2, vI x] st σ K ↔ Rq d m_L_law X 800 [l0, l1, l2, vI x] (vI x :: st) σ K := k3 hX (show fnd (pgm m_L_law) 799 = some (800, 3, 0, 3, 0, []) from rfl) rfl
set_option maxRecDepth 100000 in
theorem l_800 {d : Nat} {l0 l1 l2 l3 : AV} {st : List AV} {σ : Sg} {X : Nat} {K : List AV → List AV → Sg → Prop} (hX : 800 ≠ X)  : Rq d m_L_law X 800 [l0, l1, l2, l3] st σ K ↔ Rq d m_L_law X 801 [l0, l1, l2, l3] (vI 4 :: st) σ K := k0 hX (show fnd (pgm m_L_law) 800 = some (801, 0, 4, 0, 0, []) from rfl)
set_option maxRecDepth 100000 in
theorem l_801 {d : Nat} {l0 l1 l2 l3 : AV} {st : List AV} {a b : Int} {σ : Sg} {X : Nat} {K : List AV → List AV → Sg → Prop} (hX : 801 ≠ X)  : Rq d m_L_law X 801 [l0, l1, l2, l3] (vI b :: vI a :: st) σ K ↔ Rq d m_L_law X 802 [l0, l1, l2, l3] (vI (a + b) :: st) σ K := k10_0 hX (show fnd (pgm m_L_law) 801 = some (802, 10, 0, 0, 0, []) from rfl)
set_option maxRecDepth 100000 in
theorem l_802 {d : Nat} {l0 l1 l2 l3 : AV} {st : List AV} {i : Int} {σ : Sg} {X : Nat} {K : List AV → List AV → Sg → Prop} (hX : 802 ≠ X) (hi : 0 ≤ w32 i ∧ w32 i < σ 999 (-1)) : Rq d m_L_law X 802 [l0, l1, l2, l3] (vI i :: vR 999 :: st) σ K ↔ Rq d m_L_law X 803 [l0, l1, l2, l3] (vI (σ 999 (w32 i)) :: st) σ K := k41 hX (show fnd (pgm m_L_law) 802 = some (803, 41, 0, 0, 0, []) from rfl) hi
set_option maxRecDepth 100000 in
theorem l_803 {d : Nat} {l1 l2 l3 : AV} {st : List AV} {o : Nat} {σ : Sg} {X : Nat} {K : List AV → List AV → Sg → Prop} (hX : 803 ≠ X) (ho : o ≠ 0) : Rq d m_L_law X 803 [vR o, l1, l2, l3] st σ K ↔ Rq d m_L_law X 804 [vR o, l1, l2, l3] (vR o :: st) σ K := k5 hX (show fnd (pgm m_L_law) 803 = some (804, 5, 0, 0, 0, []) from rfl) rfl ho
set_option maxRecDepth 100000 in
theorem l_804 {d : Nat} {l0 l1 l2 : AV} {st : List AV} {x : Int} {σ : Sg} {X : Nat} {K : List AV → List AV → Sg → Prop} (hX : 804 ≠ X)  : Rq d m_L_law X 804 [l0, l1, l2, vI x] st σ K ↔ Rq d m_L_law X 805 [l0, l1, l2, vI x] (vI x :: st) σ K := k3 hX (show fnd (pgm m_L_law) 804 = some (805, 3, 0, 3, 0, []) from rfl) rfl
set_option maxRecDepth 100000 in
theorem l_805 {d : Nat} {l0 l1 l2 l3 : AV} {st : List AV} {σ : Sg} {X : Nat} {K : List AV → List AV → Sg → Prop} (hX : 805 ≠ X)  : Rq d m_L_law X 805 [l0, l1, l2, l3] st σ K ↔ Rq d m_L_law X 806 [l0, l1, l2, l3] (vI 5 :: st) σ K := k0 hX (show fnd (pgm m_L_law) 805 = some (806, 0, 5, 0, 0, []) from rfl)
set_option maxRecDepth 100000 in
theorem l_806 {d : Nat} {l0 l1 l2 l3 : AV} {st : List AV} {a b : Int} {σ : Sg} {X : Nat} {K : List AV → List AV → Sg → Prop} (hX : 806 ≠ X)  : Rq d m_L_law X 806 [l0, l1, l2, l3] (vI b :: vI a :: st) σ K ↔ Rq d m_L_law X 807 [l0, l1, l2, l3] (vI (a + b) :: st) σ K := k10_0 hX (show fnd (pgm m_L_law) 806 = some (807, 10, 0, 0, 0, []) from rfl)
set_option maxRecDepth 100000 in
theorem l_807 {d : Nat} {l0 l1 l2 l3 : AV} {st : List AV} {i : Int} {σ : Sg} {X : Nat} {K : List AV → List AV → Sg → Prop} (hX : 807 ≠ X) (hi : 0 ≤ w32 i ∧ w32 i < σ 999 (-1)) : Rq d m_L_law X 807 [l0, l1, l2, l3] (vI i :: vR 999 :: st) σ K ↔ Rq d m_L_law X 808 [l0, l1, l2, l3] (vI (σ 999 (w32 i)) :: st) σ K := k41 hX (show fnd (pgm m_L_law) 807 = some (808, 41, 0, 0, 0, []) from rfl) hi
set_option maxRecDepth 100000 in
theorem l_808 {d : Nat} {l0 l1 l2 l3 : AV} {st : List AV} {o : Nat} {a0 : Int} {a1 : Int} {a2 : Int} {a3 : Int} {a4 : Int} {σ : Sg} {X : Nat} {K : List AV → List AV → Sg → Prop} (hX : 808 ≠ X) (h4 : st.length ≤ 4) (hk : kn σ o = (0, 5)) : Rq d m_L_law X 808 [l0, l1, l2, l3] (vI a4 :: vI a3 :: vI a2 :: vI a1 :: vI a0 :: vR o :: st) σ K ↔ ∃ r σ1, Ev d m_X5_spring [vR o, vI a0, vI a1, vI a2, vI a3, vI a4] σ r σ1 ∧ Rq d m_L_law X 811 [l0, l1, l2, l3] (psh r st) σ1 K := k35 hX (show fnd (pgm m_L_law) 808 = some (811, 35, 84, 69, 6, []) from rfl) ⟨⟨by simp, by simpa using h4⟩, (by simp only [List.take, List.reverse, List.reverseAux, rcv]; rw [if_neg (by decide +kernel)]; exact decide_eq_true hk)⟩
set_option maxRecDepth 100000 in
theorem l_811 {d : Nat} {l0 l1 l3 : AV} {st : List AV} {o : Nat} {σ : Sg} {X : Nat} {K : List AV → List AV → Sg → Prop} (hX : 811 ≠ X) (ho : o ≠ 0) : Rq d m_L_law X 811 [l0, l1, vR o, l3] st σ K ↔ Rq d m_L_law X 812 [l0, l1, vR o, l3] (vR o :: st) σ K := k5 hX (show fnd (pgm m_L_law) 811 = some (812, 5, 0, 2, 0, []) from rfl) rfl ho
set_option maxRecDepth 100000 in
theorem l_812 {d : Nat} {l1 l2 l3 : AV} {st : List AV} {o : Nat} {σ : Sg} {X : Nat} {K : List AV → List AV → Sg → Prop} (hX : 812 ≠ X) (ho : o ≠ 0) : Rq d m_L_law X 812 [vR o, l1, l2, l3] st σ K ↔ Rq d m_L_law X 813 [vR o, l1, l2, l3] (vR o :: st) σ K := k5 hX (show fnd (pgm m_L_law) 812 = some (813, 5, 0, 0, 0, []) from rfl) rfl ho
set_option maxRecDepth 100000 in
theorem l_813 {d : Nat} {l0 l1 l2 : AV} {st : List AV} {x : Int} {σ : Sg} {X : Nat} {K : List AV → List AV → Sg → Prop} (hX : 813 ≠ X)  : Rq d m_L_law X 813 [l0, l1, l2, vI x] st σ K ↔ Rq d m_L_law X 814 [l0, l1, l2, vI x] (vI x :: st) σ K := k3 hX (show fnd (pgm m_L_law) 813 = some (814, 3, 0, 3, 0, []) from rfl) rfl
set_option maxRecDepth 100000 in
theorem l_814 {d : Nat} {l0 l1 l2 l3 : AV} {st : List AV} {σ : Sg} {X : Nat} {K : List AV → List AV → Sg → Prop} (hX : 814 ≠ X)  : Rq d m_L_law X 814 [l0, l1, l2, l3] st σ K ↔ Rq d m_L_law X 815 [l0, l1, l2, l3] (vI 1 :: st) σ K := k0 hX (show fnd (pgm m_L_law) 814 = some (815, 0, 1, 0, 0, []) from rfl)
set_option maxRecDepth 100000 in
theorem l_815 {d : Nat} {l0 l1 l2 l3 : AV} {st : List AV} {a b : Int} {σ : Sg} {X : Nat} {K : List AV → List AV → Sg → Prop} (hX : 815 ≠ X)  : Rq d m_L_law X 815 [l0, l1, l2, l3] (vI b :: vI a :: st) σ K ↔ Rq d m_L_law X 816 [l0, l1, l2, l3] (vI (a + b) :: st) σ K := k10_0 hX (show fnd (pgm m_L_law) 815 = some (816, 10, 0, 0, 0, []) from rfl)
set_option maxRecDepth 100000 in
theorem l_816 {d : Nat} {l0 l1 l2 l3 : AV} {st : List AV} {i : Int} {σ : Sg} {X : Nat} {K : List AV → List AV → Sg → Prop} (hX : 816 ≠ X) (hi : 0 ≤ w32 i ∧ w32 i < σ 999 (-1)) : Rq d m_L_law X 816 [l0, l1, l2, l3] (vI i :: vR 999 :: st) σ K ↔ Rq d m_L_law X 817 [l0, l1, l2, l3] (vI (σ 999 (w32 i)) :: st) σ K := k41 hX (show fnd (pgm m_L_law) 816 = some (817, 41, 0, 0, 0, []) from rfl) hi
set_option maxRecDepth 100000 in
theorem l_817 {d : Nat} {l1 l2 l3 : AV} {st : List AV} {o : Nat} {σ : Sg} {X : Nat} {K : List AV → List AV → Sg → Prop} (hX : 817 ≠ X) (ho : o ≠ 0) : Rq d m_L_law X 817 [vR o, l1, l2, l3] st σ K ↔ Rq d m_L_law X 818 [vR o, l1, l2, l3] (vR o :: st) σ K := k5 hX (show fnd (pgm m_L_law) 817 = some (818, 5, 0, 0, 0, []) from rfl) rfl ho
set_option maxRecDepth 100000 in
theorem l_818 {d : Nat} {l0 l1 l2 : AV} {st : List AV} {x : Int} {σ : Sg} {X : Nat} {K : List AV → List AV → Sg → Prop} (hX : 818 ≠ X)  : Rq d m_L_law X 818 [l0, l1, l2, vI x] st σ K ↔ Rq d m_L_law X 819 [l0, l1, l2, vI x] (vI x :: st) σ K := k3 hX (show fnd (pgm m_L_law) 818 = some (819, 3, 0, 3, 0, []) from rfl) rfl
set_option maxRecDepth 100000 in
theorem l_819 {d : Nat} {l0 l1 l2 l3 : AV} {st : List AV} {σ : Sg} {X : Nat} {K : List AV → List AV → Sg → Prop} (hX : 819 ≠ X)  : Rq d m_L_law X 819 [l0, l1, l2, l3] st σ K ↔ Rq d m_L_law X 820 [l0, l1, l2, l3] (vI 2 :: st) σ K := k0 hX (show fnd (pgm m_L_law) 819 = some (820, 0, 2, 0, 0, []) from rfl)
set_option maxRecDepth 100000 in
theorem l_820 {d : Nat} {l0 l1 l2 l3 : AV} {st : List AV} {a b : Int} {σ : Sg} {X : Nat} {K : List AV → List AV → Sg → Prop} (hX : 820 ≠ X)  : Rq d m_L_law X 820 [l0, l1, l2, l3] (vI b :: vI a :: st) σ K ↔ Rq d m_L_law X 821 [l0, l1, l2, l3] (vI (a + b) :: st) σ K := k10_0 hX (show fnd (pgm m_L_law) 820 = some (821, 10, 0, 0, 0, []) from rfl)
set_option maxRecDepth 100000 in
theorem l_821 {d : Nat} {l0 l1 l2 l3 : AV} {st : List AV} {i : Int} {σ : Sg} {X : Nat} {K : List AV → List AV → Sg → Prop} (hX : 821 ≠ X) (hi : 0 ≤ w32 i ∧ w32 i < σ 999 (-1)) : Rq d m_L_law X 821 [l0, l1, l2, l3] (vI i :: vR 999 :: st) σ K ↔ Rq d m_L_law X 822 [l0, l1, l2, l3] (vI (σ 999 (w32 i)) :: st) σ K := k41 hX (show fnd (pgm m_L_law) 821 = some (822, 41, 0, 0, 0, []) from rfl) hi
set_option maxRecDepth 100000 in
theorem l_822 {d : Nat} {l1 l2 l3 : AV} {st : List AV} {o : Nat} {σ : Sg} {X : Nat} {K : List AV → List AV → Sg → Prop} (hX : 822 ≠ X) (ho : o ≠ 0) : Rq d m_L_law X 822 [vR o, l1, l2, l3] st σ K ↔ Rq d m_L_law X 823 [vR o, l1, l2, l3] (vR o :: st) σ K := k5 hX (show fnd (pgm m_L_law) 822 = some (823, 5, 0, 0, 0, []) from rfl) rfl ho
set_option maxRecDepth 100000 in
theorem l_823 {d : Nat} {l0 l1 l2 : AV} {st : List AV} {x : Int} {σ : Sg} {X : Nat} {K : List AV → List AV → Sg → Prop} (hX : 823 ≠ X)  : Rq d m_L_law X 823 [l0, l1, l2, vI x] st σ K ↔ Rq d m_L_law X 824 [l0, l1, l2, vI x] (vI x :: st) σ K := k3 hX (show fnd (pgm m_L_law) 823 = some (824, 3, 0, 3, 0, []) from rfl) rfl
set_option maxRecDepth 100000 in
theorem l_824 {d : Nat} {l0 l1 l2 l3 : AV} {st : List AV} {σ : Sg} {X : Nat} {K : List AV → List AV → Sg → Prop} (hX : 824 ≠ X)  : Rq d m_L_law X 824 [l0, l1, l2, l3] st σ K ↔ Rq d m_L_law X 825 [l0, l1, l2, l3] (vI 3 :: st) σ K := k0 hX (show fnd (pgm m_L_law) 824 = some (825, 0, 3, 0, 0, []) from rfl)
set_option maxRecDepth 100000 in
theorem l_825 {d : Nat} {l0 l1 l2 l3 : AV} {st : List AV} {a b : Int} {σ : Sg} {X : Nat} {K : List AV → List AV → Sg → Prop} (hX : 825 ≠ X)  : Rq d m_L_law X 825 [l0, l1, l2, l3] (vI b :: vI a :: st) σ K ↔ Rq d m_L_law X 826 [l0, l1, l2, l3] (vI (a + b) :: st) σ K := k10_0 hX (show fnd (pgm m_L_law) 825 = some (826, 10, 0, 0, 0, []) from rfl)
set_option maxRecDepth 100000 in
theorem l_826 {d : Nat} {l0 l1 l2 l3 : AV} {st : List AV} {i : Int} {σ : Sg} {X : Nat} {K : List AV → List AV → Sg → Prop} (hX : 826 ≠ X) (hi : 0 ≤ w32 i ∧ w32 i < σ 999 (-1)) : Rq d m_L_law X 826 [l0, l1, l2, l3] (vI i :: vR 999 :: st) σ K ↔ Rq d m_L_law X 827 [l0, l1, l2, l3] (vI (σ 999 (w32 i)) :: st) σ K := k41 hX (show fnd (pgm m_L_law) 826 = some (827, 41, 0, 0, 0, []) from rfl) hi
set_option maxRecDepth 100000 in
theorem l_827 {d : Nat} {l1 l2 l3 : AV} {st : List AV} {o : Nat} {σ : Sg} {X : Nat} {K : List AV → List AV → Sg → Prop} (hX : 827 ≠ X) (ho : o ≠ 0) : Rq d m_L_law X 827 [vR o, l1, l2, l3] st σ K ↔ Rq d m_L_law X 828 [vR o, l1, l2, l3] (vR o :: st) σ K := k5 hX (show fnd (pgm m_L_law) 827 = some (828, 5, 0, 0, 0, []) from rfl) rfl ho
set_option maxRecDepth 100000 in
theorem l_828 {d : Nat} {l0 l1 l2 : AV} {st : List AV} {x : Int} {σ : Sg} {X : Nat} {K : List AV → List AV → Sg → Prop} (hX : 828 ≠ X)  : Rq d m_L_law X 828 [l0, l1, l2, vI x] st σ K ↔ Rq d m_L_law X 829 [l0, l1, l2, vI x] (vI x :: st) σ K := k3 hX (show fnd (pgm m_L_law) 828 = some (829, 3, 0, 3, 0, []) from rfl) rfl
set_option maxRecDepth 100000 in
theorem l_829 {d : Nat} {l0 l1 l2 l3 : AV} {st : List AV} {σ : Sg} {X : Nat} {K : List AV → List AV → Sg → Prop} (hX : 829 ≠ X)  : Rq d m_L_law X 829 [l0, l1, l2, l3] st σ K ↔ Rq d m_L_law X 830 [l0, l1, l2, l3] (vI 4 :: st) σ K := k0 hX (show fnd (pgm m_L_law) 829 = some (830, 0, 4, 0, 0, []) from rfl)
set_option maxRecDepth 100000 in
theorem l_830 {d : Nat} {l0 l1 l2 l3 : AV} {st : List AV} {a b : Int} {σ : Sg} {X : Nat} {K : List AV → List AV → Sg → Prop} (hX : 830 ≠ X)  : Rq d m_L_law X 830 [l0, l1, l2, l3] (vI b :: vI a :: st) σ K ↔ Rq d m_L_law X 831 [l0, l1, l2, l3] (vI (a + b) :: st) σ K := k10_0 hX (show fnd (pgm m_L_law) 830 = some (831, 10, 0, 0, 0, []) from rfl)
set_option maxRecDepth 100000 in
theorem l_831 {d : Nat} {l0 l1 l2 l3 : AV} {st : List AV} {i : Int} {σ : Sg} {X : Nat} {K : List AV → List AV → Sg → Prop} (hX : 831 ≠ X) (hi : 0 ≤ w32 i ∧ w32 i < σ 999 (-1)) : Rq d m_L_law X 831 [l0, l1, l2, l3] (vI i :: vR 999 :: st) σ K ↔ Rq d m_L_law X 832 [l0, l1, l2, l3] (vI (σ 999 (w32 i)) :: st) σ K := k41 hX (show fnd (pgm m_L_law) 831 = some (832, 41, 0, 0, 0, []) from rfl) hi
set_option maxRecDepth 100000 in
theorem l_832 {d : Nat} {l1 l2 l3 : AV} {st : List AV} {o : Nat} {σ : Sg} {X : Nat} {K : List AV → List AV → Sg → Prop} (hX : 832 ≠ X) (ho : o ≠ 0) : Rq d m_L_law X 832 [vR o, l1, l2, l3] st σ K ↔ Rq d m_L_law X 833 [vR o, l1, l2, l3] (vR o :: st) σ K := k5 hX (show fnd (pgm m_L_law) 832 = some (833, 5, 0, 0, 0, []) from rfl) rfl ho
set_option maxRecDepth 100000 in
theorem l_833 {d : Nat} {l0 l1 l2 : AV} {st : List AV} {x : Int} {σ : Sg} {X : Nat} {K : List AV → List AV → Sg → Prop} (hX : 833 ≠ X)  : Rq d m_L_law X 833 [l0, l1, l2, vI x] st σ K ↔ Rq d m_L_law X 834 [l0, l1, l2, vI x] (vI x :: st) σ K := k3 hX (show fnd (pgm m_L_law) 833 = some (834, 3, 0, 3, 0, []) from rfl) rfl
set_option maxRecDepth 100000 in
theorem l_834 {d : Nat} {l0 l1 l2 l3 : AV} {st : List AV} {σ : Sg} {X : Nat} {K : List AV → List AV → Sg → Prop} (hX : 834 ≠ X)  : Rq d m_L_law X 834 [l0, l1, l2, l3] st σ K ↔ Rq d m_L_law X 835 [l0, l1, l2, l3] (vI 5 :: st) σ K := k0 hX (show fnd (pgm m_L_law) 834 = some (835, 0, 5, 0, 0, []) from rfl)
set_option maxRecDepth 100000 in
theorem l_835 {d : Nat} {l0 l1 l2 l3 : AV} {st : List AV} {a b : Int} {σ : Sg} {X : Nat} {K : List AV → List AV → Sg → Prop} (hX : 835 ≠ X)  : Rq d m_L_law X 835 [l0, l1, l2, l3] (vI b :: vI a :: st) σ K ↔ Rq d m_L_law X 836 [l0, l1, l2, l3] (vI (a + b) :: st) σ K := k10_0 hX (show fnd (pgm m_L_law) 835 = some (836, 10, 0, 0, 0, []) from rfl)
set_option maxRecDepth 100000 in
theorem l_836 {d : Nat} {l0 l1 l2 l3 : AV} {st : List AV} {i : Int} {σ : Sg} {X : Nat} {K : List AV → List AV → Sg → Prop} (hX : 836 ≠ X) (hi : 0 ≤ w32 i ∧ w32 i < σ 999 (-1)) : Rq d m_L_law X 836 [l0, l1, l2, l3] (vI i :: vR 999 :: st) σ K ↔ Rq d m_L_law X 837 [l0, l1, l2, l3] (vI (σ 999 (w32 i)) :: st) σ K := k41 hX (show fnd (pgm m_L_law) 836 = some (837, 41, 0, 0, 0, []) from rfl) hi
set_option maxRecDepth 100000 in
theorem l_837 {d : Nat} {l0 l1 l2 l3 : AV} {st : List AV} {o : Nat} {a0 : Int} {a1 : Int} {a2 : Int} {a3 : Int} {a4 : Int} {σ : Sg} {X : Nat} {K : List AV → List AV → Sg → Prop} (hX : 837 ≠ X) (h4 : st.length ≤ 4) (hk : kn σ o = (0, 6)) : Rq d m_L_law X 837 [l0, l1, l2, l3] (vI a4 :: vI a3 :: vI a2 :: vI a1 :: vI a0 :: vR o :: st) σ K ↔ ∃ r σ1, Ev d m_X6_spring [vR o, vI a0, vI a1, vI a2, vI a3, vI a4] σ r σ1 ∧ Rq d m_L_law X 840 [l0, l1, l2, l3] (psh r st) σ1 K := k35 hX (show fnd (pgm m_L_law) 837 = some (840, 35, 88, 143, 6, []) from rfl) ⟨⟨by simp, by simpa using h4⟩, (by simp only [List.take, List.reverse, List.reverseAux, rcv]; rw [if_neg (by decide +kernel)]; exact decide_eq_true hk)⟩
set_option maxRecDepth 100000 in
theorem l_840 {d : Nat} {l0 l1 l2 l3 : AV} {st : List AV} {a b : Int} {σ : Sg} {X : Nat} {K : List AV → List AV → Sg → Prop} (hX : 840 ≠ X)  : Rq d m_L_law X 840 [l0, l1, l2, l3] (vI b :: vI a :: st) σ K ↔ if w32 a = w32 b then Rq d m_L_law X 1364 [l0, l1, l2, l3] st σ K else Rq d m_L_law X 843 [l0, l1, l2, l3] st σ K := k20_0 hX (show fnd (pgm m_L_law) 840 = some (843, 20, 0, 0, 1364, []) from rfl)
set_option maxRecDepth 100000 in
theorem l_843 {d : Nat} {l0 l1 l2 l3 : AV} {st : List AV} {σ : Sg} {X : Nat} {K : List AV → List AV → Sg → Prop} (hX : 843 ≠ X)  : Rq d m_L_law X 843 [l0, l1, l2, l3] st σ K ↔ Rq d m_L_law X 844 [l0, l1, l2, l3] (vI 0 :: st) σ K := k0 hX (show fnd (pgm m_L_law) 843 = some (844, 0, 0, 0, 0, []) from rfl)
set_option maxRecDepth 100000 in
theorem l_845 {d : Nat} {l0 l2 l3 : AV} {st : List AV} {o : Nat} {σ : Sg} {X : Nat} {K : List AV → List AV → Sg → Prop} (hX : 845 ≠ X) (ho : o ≠ 0) : Rq d m_L_law X 845 [l0, vR o, l2, l3] st σ K ↔ Rq d m_L_law X 846 [l0, vR o, l2, l3] (vR o :: st) σ K := k5 hX (show fnd (pgm m_L_law) 845 = some (846, 5, 0, 1, 0, []) from rfl) rfl ho
set_option maxRecDepth 100000 in
theorem l_846 {d : Nat} {l1 l2 l3 : AV} {st : List AV} {o : Nat} {σ : Sg} {X : Nat} {K : List AV → List AV → Sg → Prop} (hX : 846 ≠ X) (ho : o ≠ 0) : Rq d m_L_law X 846 [vR o, l1, l2, l3] st σ K ↔ Rq d m_L_law X 847 [vR o, l1, l2, l3] (vR o :: st) σ K := k5 hX (show fnd (pgm m_L_law) 846 = some (847, 5, 0, 0, 0, []) from rfl) rfl ho
set_option maxRecDepth 100000 in
theorem l_847 {d : Nat} {l0 l1 l2 : AV} {st : List AV} {x : Int} {σ : Sg} {X : Nat} {K : List AV → List AV → Sg → Prop} (hX : 847 ≠ X)  : Rq d m_L_law X 847 [l0, l1, l2, vI x] st σ K ↔ Rq d m_L_law X 848 [l0, l1, l2, vI x] (vI x :: st) σ K := k3 hX (show fnd (pgm m_L_law) 847 = some (848, 3, 0, 3, 0, []) from rfl) rfl
set_option maxRecDepth 100000 in
theorem l_848 {d : Nat} {l0 l1 l2 l3 : AV} {st : List AV} {σ : Sg} {X : Nat} {K : List AV → List AV → Sg → Prop} (hX : 848 ≠ X)  : Rq d m_L_law X 848 [l0, l1, l2, l3] st σ K ↔ Rq d m_L_law X 849 [l0, l1, l2, l3] (vI 1 :: st) σ K := k0 hX (show fnd (pgm m_L_law) 848 = some (849, 0, 1, 0, 0, []) from rfl)
set_option maxRecDepth 100000 in
theorem l_849 {d : Nat} {l0 l1 l2 l3 : AV} {st : List AV} {a b : Int} {σ : Sg} {X : Nat} {K : List AV → List AV → Sg → Prop} (hX : 849 ≠ X)  : Rq d m_L_law X 849 [l0, l1, l2, l3] (vI b :: vI a :: st) σ K ↔ Rq d m_L_law X 850 [l0, l1, l2, l3] (vI (a + b) :: st) σ K := k10_0 hX (show fnd (pgm m_L_law) 849 = some (850, 10, 0, 0, 0, []) from rfl)
set_option maxRecDepth 100000 in
theorem l_850 {d : Nat} {l0 l1 l2 l3 : AV} {st : List AV} {i : Int} {σ : Sg} {X : Nat} {K : List AV → List AV → Sg → Prop} (hX : 850 ≠ X) (hi : 0 ≤ w32 i ∧ w32 i < σ 999 (-1)) : Rq d m_L_law X 850 [l0, l1, l2, l3] (vI i :: vR 999 :: st) σ K ↔ Rq d m_L_law X 851 [l0, l1, l2, l3] (vI (σ 999 (w32 i)) :: st) σ K := k41 hX (show fnd (pgm m_L_law) 850 = some (851, 41, 0, 0, 0, []) from rfl) hi
set_option maxRecDepth 100000 in
theorem l_851 {d : Nat} {l1 l2 l3 : AV} {st : List AV} {o : Nat} {σ : Sg} {X : Nat} {K : List AV → List AV → Sg → Prop} (hX : 851 ≠ X) (ho : o ≠ 0) : Rq d m_L_law X 851 [vR o, l1, l2, l3] st σ K ↔ Rq d m_L_law X 852 [vR o, l1, l2, l3] (vR o :: st) σ K := k5 hX (show fnd (pgm m_L_law) 851 = some (852, 5, 0, 0, 0, []) from rfl) rfl ho
set_option maxRecDepth 100000 in
theorem l_852 {d : Nat} {l0 l1 l2 : AV} {st : List AV} {x : Int} {σ : Sg} {X : Nat} {K : List AV → List AV → Sg → Prop} (hX : 852 ≠ X)  : Rq d m_L_law X 852 [l0, l1, l2, vI x] st σ K ↔ Rq d m_L_law X 853 [l0, l1, l2, vI x] (vI x :: st) σ K := k3 hX (show fnd (pgm m_L_law) 852 = some (853, 3, 0, 3, 0, []) from rfl) rfl
set_option maxRecDepth 100000 in
theorem l_853 {d : Nat} {l0 l1 l2 l3 : AV} {st : List AV} {σ : Sg} {X : Nat} {K : List AV → List AV → Sg → Prop} (hX : 853 ≠ X)  : Rq d m_L_law X 853 [l0, l1, l2, l3] st σ K ↔ Rq d m_L_law X 854 [l0, l1, l2, l3] (vI 2 :: st) σ K := k0 hX (show fnd (pgm m_L_law) 853 = some (854, 0, 2, 0, 0, []) from rfl)
set_option maxRecDepth 100000 in
theorem l_854 {d : Nat} {l0 l1 l2 l3 : AV} {st : List AV} {a b : Int} {σ : Sg} {X : Nat} {K : List AV → List AV → Sg → Prop} (hX : 854 ≠ X)  : Rq d m_L_law X 854 [l0, l1, l2, l3] (vI b :: vI a :: st) σ K ↔ Rq d m_L_law X 855 [l0, l1, l2, l3] (vI (a + b) :: st) σ K := k10_0 hX (show fnd (pgm m_L_law) 854 = some (855, 10, 0, 0, 0, []) from rfl)
set_option maxRecDepth 100000 in
theorem l_855 {d : Nat} {l0 l1 l2 l3 : AV} {st : List AV} {i : Int} {σ : Sg} {X : Nat} {K : List AV → List AV → Sg → Prop} (hX : 855 ≠ X) (hi : 0 ≤ w32 i ∧ w32 i < σ 999 (-1)) : Rq d m_L_law X 855 [l0, l1, l2, l3] (vI i :: vR 999 :: st) σ K ↔ Rq d m_L_law X 856 [l0, l1, l2, l3] (vI (σ 999 (w32 i)) :: st) σ K := k41 hX (show fnd (pgm m_L_law) 855 = some (856, 41, 0, 0, 0, []) from rfl) hi
set_option maxRecDepth 100000 in
theorem l_856 {d : Nat} {l1 l2 l3 : AV} {st : List AV} {o : Nat} {σ : Sg} {X : Nat} {K : List AV → List AV → Sg → Prop} (hX : 856 ≠ X) (ho : o ≠ 0) : Rq d m_L_law X 856 [vR o, l1, l2, l3] st σ K ↔ Rq d m_L_law X 857 [vR o, l1, l2, l3] (vR o :: st) σ K := k5 hX (show fnd (pgm m_L_law) 856 = some (857, 5, 0, 0, 0, []) from rfl) rfl ho
set_option maxRecDepth 100000 in
theorem l_857 {d : Nat} {l0 l1 l2 : AV} {st : List AV} {x : Int} {σ : Sg} {X : Nat} {K : List AV → List AV → Sg → Prop} (hX : 857 ≠ X)  : Rq d m_L_law X 857 [l0, l1, l2, vI x] st σ K ↔ Rq d m_L_law X 858 [l0, l1, l2, vI x] (vI x :: st) σ K := k3 hX (show fnd (pgm m_L_law) 857 = some (858, 3, 0, 3, 0, []) from rfl) rfl
set_option maxRecDepth 100000 in
theorem l_858 {d : Nat} {l0 l1 l2 l3 : AV} {st : List AV} {σ : Sg} {X : Nat} {K : List AV → List AV → Sg → Prop} (hX : 858 ≠ X)  : Rq d m_L_law X 858 [l0, l1, l2, l3] st σ K ↔ Rq d m_L_law X 859 [l0, l1, l2, l3] (vI 3 :: st) σ K := k0 hX (show fnd (pgm m_L_law) 858 = some (859, 0, 3, 0, 0, []) from rfl)
set_option maxRecDepth 100000 in
theorem l_859 {d : Nat} {l0 l1 l2 l3 : AV} {st : List AV} {a b : Int} {σ : Sg} {X : Nat} {K : List AV → List AV → Sg → Prop} (hX : 859 ≠ X)  : Rq d m_L_law X 859 [l0, l1, l2, l3] (vI b :: vI a :: st) σ K ↔ Rq d m_L_law X 860 [l0, l1, l2, l3] (vI (a + b) :: st) σ K := k10_0 hX (show fnd (pgm m_L_law) 859 = some (860, 10, 0, 0, 0, []) from rfl)
set_option maxRecDepth 100000 in
theorem l_860 {d : Nat} {l0 l1 l2 l3 : AV} {st : List AV} {i : Int} {σ : Sg} {X : Nat} {K : List AV → List AV → Sg → Prop} (hX : 860 ≠ X) (hi : 0 ≤ w32 i ∧ w32 i < σ 999 (-1)) : Rq d m_L_law X 860 [l0, l1, l2, l3] (vI i :: vR 999 :: st) σ K ↔ Rq d m_L_law X 861 [l0, l1, l2, l3] (vI (σ 999 (w32 i)) :: st) σ K := k41 hX (show fnd (pgm m_L_law) 860 = some (861, 41, 0, 0, 0, []) from rfl) hi
set_option maxRecDepth 100000 in
theorem l_861 {d : Nat} {l0 l1 l2 l3 : AV} {st : List AV} {o : Nat} {a0 : Int} {a1 : Int} {a2 : Int} {σ : Sg} {X : Nat} {K : List AV → List AV → Sg → Prop} (hX : 861 ≠ X) (h4 : st.length ≤ 4) (hk : kn σ o = (0, 5)) : Rq d m_L_law X 861 [l0, l1, l2, l3] (vI a2 :: vI a1 :: vI a0 :: vR o :: st) σ K ↔ ∃ r σ1, Ev d m_X5_alone [vR o, vI a0, vI a1, vI a2] σ r σ1 ∧ Rq d m_L_law X 864 [l0, l1, l2, l3] (psh r st) σ1 K := k35 hX (show fnd (pgm m_L_law) 861 = some (864, 35, 89, 70, 4, []) from rfl) ⟨⟨by simp, by simpa using h4⟩, (by simp only [List.take, List.reverse, List.reverseAux, rcv]; rw [if_neg (by decide +kernel)]; exact decide_eq_true hk)⟩
set_option maxRecDepth 100000 in
theorem l_864 {d : Nat} {l0 l1 l3 : AV} {st : List AV} {o : Nat} {σ : Sg} {X : Nat} {K : List AV → List AV → Sg → Prop} (hX : 864 ≠ X) (ho : o ≠ 0) : Rq d m_L_law X 864 [l0, l1, vR o, l3] st σ K ↔ Rq d m_L_law X 865 [l0, l1, vR o, l3] (vR o :: st) σ K := k5 hX (show fnd (pgm m_L_law) 864 = some (865, 5, 0, 2, 0, []) from rfl) rfl ho
set_option maxRecDepth 100000 in
theorem l_865 {d : Nat} {l1 l2 l3 : AV} {st : List AV} {o : Nat} {σ : Sg} {X : Nat} {K : List AV → List AV → Sg → Prop} (hX : 865 ≠ X) (ho : o ≠ 0) : Rq d m_L_law X 865 [vR o, l1, l2, l3] st σ K ↔ Rq d m_L_law X 866 [vR o, l1, l2, l3] (vR o :: st) σ K := k5 hX (show fnd (pgm m_L_law) 865 = some (866, 5, 0, 0, 0, []) from rfl) rfl ho
set_option maxRecDepth 100000 in
theorem l_866 {d : Nat} {l0 l1 l2 : AV} {st : List AV} {x : Int} {σ : Sg} {X : Nat} {K : List AV → List AV → Sg → Prop} (hX : 866 ≠ X)  : Rq d m_L_law X 866 [l0, l1, l2, vI x] st σ K ↔ Rq d m_L_law X 867 [l0, l1, l2, vI x] (vI x :: st) σ K := k3 hX (show fnd (pgm m_L_law) 866 = some (867, 3, 0, 3, 0, []) from rfl) rfl
set_option maxRecDepth 100000 in
theorem l_867 {d : Nat} {l0 l1 l2 l3 : AV} {st : List AV} {σ : Sg} {X : Nat} {K : List AV → List AV → Sg → Prop} (hX : 867 ≠ X)  : Rq d m_L_law X 867 [l0, l1, l2, l3] st σ K ↔ Rq d m_L_law X 868 [l0, l1, l2, l3] (vI 1 :: st) σ K := k0 hX (show fnd (pgm m_L_law) 867 = some (868, 0, 1, 0, 0, []) from rfl)
set_option maxRecDepth 100000 in
theorem l_868 {d : Nat} {l0 l1 l2 l3 : AV} {st : List AV} {a b : Int} {σ : Sg} {X : Nat} {K : List AV → List AV → Sg → Prop} (hX : 868 ≠ X)  : Rq d m_L_law X 868 [l0, l1, l2, l3] (vI b :: vI a :: st) σ K ↔ Rq d m_L_law X 869 [l0, l1, l2, l3] (vI (a + b) :: st) σ K := k10_0 hX (show fnd (pgm m_L_law) 868 = some (869, 10, 0, 0, 0, []) from rfl)
set_option maxRecDepth 100000 in
theorem l_869 {d : Nat} {l0 l1 l2 l3 : AV} {st : List AV} {i : Int} {σ : Sg} {X : Nat} {K : List AV → List AV → Sg → Prop} (hX : 869 ≠ X) (hi : 0 ≤ w32 i ∧ w32 i < σ 999 (-1)) : Rq d m_L_law X 869 [l0, l1, l2, l3] (vI i :: vR 999 :: st) σ K ↔ Rq d m_L_law X 870 [l0, l1, l2, l3] (vI (σ 999 (w32 i)) :: st) σ K := k41 hX (show fnd (pgm m_L_law) 869 = some (870, 41, 0, 0, 0, []) from rfl) hi
set_option maxRecDepth 100000 in
theorem l_870 {d : Nat} {l1 l2 l3 : AV} {st : List AV} {o : Nat} {σ : Sg} {X : Nat} {K : List AV → List AV → Sg → Prop} (hX : 870 ≠ X) (ho : o ≠ 0) : Rq d m_L_law X 870 [vR o, l1, l2, l3] st σ K ↔ Rq d m_L_law X 871 [vR o, l1, l2, l3] (vR o :: st) σ K := k5 hX (show fnd (pgm m_L_law) 870 = some (871, 5, 0, 0, 0, []) from rfl) rfl ho
set_option maxRecDepth 100000 in
theorem l_871 {d : Nat} {l0 l1 l2 : AV} {st : List AV} {x : Int} {σ : Sg} {X : Nat} {K : List AV → List AV → Sg → Prop} (hX : 871 ≠ X)  : Rq d m_L_law X 871 [l0, l1, l2, vI x] st σ K ↔ Rq d m_L_law X 872 [l0, l1, l2, vI x] (vI x :: st) σ K := k3 hX (show fnd (pgm m_L_law) 871 = some (872, 3, 0, 3, 0, []) from rfl) rfl
set_option maxRecDepth 100000 in
theorem l_872 {d : Nat} {l0 l1 l2 l3 : AV} {st : List AV} {σ : Sg} {X : Nat} {K : List AV → List AV → Sg → Prop} (hX : 872 ≠ X)  : Rq d m_L_law X 872 [l0, l1, l2, l3] st σ K ↔ Rq d m_L_law X 873 [l0, l1, l2, l3] (vI 2 :: st) σ K := k0 hX (show fnd (pgm m_L_law) 872 = some (873, 0, 2, 0, 0, []) from rfl)
set_option maxRecDepth 100000 in
theorem l_873 {d : Nat} {l0 l1 l2 l3 : AV} {st : List AV} {a b : Int} {σ : Sg} {X : Nat} {K : List AV → List AV → Sg → Prop} (hX : 873 ≠ X)  : Rq d m_L_law X 873 [l0, l1, l2, l3] (vI b :: vI a :: st) σ K ↔ Rq d m_L_law X 874 [l0, l1, l2, l3] (vI (a + b) :: st) σ K := k10_0 hX (show fnd (pgm m_L_law) 873 = some (874, 10, 0, 0, 0, []) from rfl)
set_option maxRecDepth 100000 in
theorem l_874 {d : Nat} {l0 l1 l2 l3 : AV} {st : List AV} {i : Int} {σ : Sg} {X : Nat} {K : List AV → List AV → Sg → Prop} (hX : 874 ≠ X) (hi : 0 ≤ w32 i ∧ w32 i < σ 999 (-1)) : Rq d m_L_law X 874 [l0, l1, l2, l3] (vI i :: vR 999 :: st) σ K ↔ Rq d m_L_law X 875 [l0, l1, l2, l3] (vI (σ 999 (w32 i)) :: st) σ K := k41 hX (show fnd (pgm m_L_law) 874 = some (875, 41, 0, 0, 0, []) from rfl) hi
set_option maxRecDepth 100000 in
theorem l_875 {d : Nat} {l1 l2 l3 : AV} {st : List AV} {o : Nat} {σ : Sg} {X : Nat} {K : List AV → List AV → Sg → Prop} (hX : 875 ≠ X) (ho : o ≠ 0) : Rq d m_L_law X 875 [vR o, l1, l2, l3] st σ K ↔ Rq d m_L_law X 876 [vR o, l1, l2, l3] (vR o :: st) σ K := k5 hX (show fnd (pgm m_L_law) 875 = some (876, 5, 0, 0, 0, []) from rfl) rfl ho
set_option maxRecDepth 100000 in
theorem l_876 {d : Nat} {l0 l1 l2 : AV} {st : List AV} {x : Int} {σ : Sg} {X : Nat} {K : List AV → List AV → Sg → Prop} (hX : 876 ≠ X)  : Rq d m_L_law X 876 [l0, l1, l2, vI x] st σ K ↔ Rq d m_L_law X 877 [l0, l1, l2, vI x] (vI x :: st) σ K := k3 hX (show fnd (pgm m_L_law) 876 = some (877, 3, 0, 3, 0, []) from rfl) rfl
set_option maxRecDepth 100000 in
theorem l_877 {d : Nat} {l0 l1 l2 l3 : AV} {st : List AV} {σ : Sg} {X : Nat} {K : List AV → List AV → Sg → Prop} (hX : 877 ≠ X)  : Rq d m_L_law X 877 [l0, l1, l2, l3] st σ K ↔ Rq d m_L_law X 878 [l0, l1, l2, l3] (vI 3 :: st) σ K := k0 hX (show fnd (pgm m_L_law) 877 = some (878, 0, 3, 0, 0, []) from rfl)
set_option maxRecDepth 100000 in
theorem l_878 {d : Nat} {l0 l1 l2 l3 : AV} {st : List AV} {a b : Int} {σ : Sg} {X : Nat} {K : List AV → List AV → Sg → Prop} (hX : 878 ≠ X)  : Rq d m_L_law X 878 [l0, l1, l2, l3] (vI b :: vI a :: st) σ K ↔ Rq d m_L_law X 879 [l0, l1, l2, l3] (vI (a + b) :: st) σ K := k10_0 hX (show fnd (pgm m_L_law) 878 = some (879, 10, 0, 0, 0, []) from rfl)
set_option maxRecDepth 100000 in
theorem l_879 {d : Nat} {l0 l1 l2 l3 : AV} {st : List AV} {i : Int} {σ : Sg} {X : Nat} {K : List AV → List AV → Sg → Prop} (hX : 879 ≠ X) (hi : 0 ≤ w32 i ∧ w32 i < σ 999 (-1)) : Rq d m_L_law X 879 [l0, l1, l2, l3] (vI i :: vR 999 :: st) σ K ↔ Rq d m_L_law X 880 [l0, l1, l2, l3] (vI (σ 999 (w32 i)) :: st) σ K := k41 hX (show fnd (pgm m_L_law) 879 = some (880, 41, 0, 0, 0, []) from rfl) hi
set_option maxRecDepth 100000 in
theorem l_880 {d : Nat} {l0 l1 l2 l3 : AV} {st : List AV} {o : Nat} {a0 : Int} {a1 : Int} {a2 : Int} {σ : Sg} {X : Nat} {K : List AV → List AV → Sg → Prop} (hX : 880 ≠ X) (h4 : st.length ≤ 4) (hk : kn σ o = (0, 6)) : Rq d m_L_law X 880 [l0, l1, l2, l3] (vI a2 :: vI a1 :: vI a0 :: vR o :: st) σ K ↔ ∃ r σ1, Ev d m_X6_alone [vR o, vI a0, vI a1, vI a2] σ r σ1 ∧ Rq d m_L_law X 883 [l0, l1, l2, l3] (psh r st) σ1 K := k35 hX (show fnd (pgm m_L_law) 880 = some (883, 35, 92, 144, 4, []) from rfl) ⟨⟨by simp, by simpa using h4⟩, (by simp only [List.take, List.reverse, List.reverseAux, rcv]; rw [if_neg (by decide +kernel)]; exact decide_eq_true hk)⟩
set_option maxRecDepth 100000 in
theorem l_883 {d : Nat} {l0 l1 l2 l3 : AV} {st : List AV} {a b : Int} {σ : Sg} {X : Nat} {K : List AV → List AV → Sg → Prop} (hX : 883 ≠ X)  : Rq d m_L_law X 883 [l0, l1, l2, l3] (vI b :: vI a :: st) σ K ↔ if w32 a = w32 b then Rq d m_L_law X 1364 [l0, l1, l2, l3] st σ K else Rq d m_L_law X 886 [l0, l1, l2, l3] st σ K := k20_0 hX (show fnd (pgm m_L_law) 883 = some (886, 20, 0, 0, 1364, []) from rfl)
set_option maxRecDepth 100000 in
theorem l_886 {d : Nat} {l0 l1 l2 l3 : AV} {st : List AV} {σ : Sg} {X : Nat} {K : List AV → List AV → Sg → Prop} (hX : 886 ≠ X)  : Rq d m_L_law X 886 [l0, l1, l2, l3] st σ K ↔ Rq d m_L_law X 887 [l0, l1, l2, l3] (vI 0 :: st) σ K := k0 hX (show fnd (pgm m_L_law) 886 = some (887, 0, 0, 0, 0, []) from rfl)
set_option maxRecDepth 100000 in
theorem l_888 {d : Nat} {l0 l2 l3 : AV} {st : List AV} {o : Nat} {σ : Sg} {X : Nat} {K : List AV → List AV → Sg → Prop} (hX : 888 ≠ X) (ho : o ≠ 0) : Rq d m_L_law X 888 [l0, vR o, l2, l3] st σ K ↔ Rq d m_L_law X 889 [l0, vR o, l2, l3] (vR o :: st) σ K := k5 hX (show fnd (pgm m_L_law) 888 = some (889, 5, 0, 1, 0, []) from rfl) rfl ho
set_option maxRecDepth 100000 in
theorem l_889 {d : Nat} {l1 l2 l3 : AV} {st : List AV} {o : Nat} {σ : Sg} {X : Nat} {K : List AV → List AV → Sg → Prop} (hX : 889 ≠ X) (ho : o ≠ 0) : Rq d m_L_law X 889 [vR o, l1, l2, l3] st σ K ↔ Rq d m_L_law X 890 [vR o, l1, l2, l3] (vR o :: st) σ K := k5 hX (show fnd (pgm m_L_law) 889 = some (890, 5, 0, 0, 0, []) from rfl) rfl ho
set_option maxRecDepth 100000 in
theorem l_890 {d : Nat} {l0 l1 l2 : AV} {st : List AV} {x : Int} {σ : Sg} {X : Nat} {K : List AV → List AV → Sg → Prop} (hX : 890 ≠ X)  : Rq d m_L_law X 890 [l0, l1, l2, vI x] st σ K ↔ Rq d m_L_law X 891 [l0, l1, l2, vI x] (vI x :: st) σ K := k3 hX (show fnd (pgm m_L_law) 890 = some (891, 3, 0, 3, 0, []) from rfl) rfl
set_option maxRecDepth 100000 in
theorem l_891 {d : Nat} {l0 l1 l2 l3 : AV} {st : List AV} {σ : Sg} {X : Nat} {K : List AV → List AV → Sg → Prop} (hX : 891 ≠ X)  : Rq d m_L_law X 891 [l0, l1, l2, l3] st σ K ↔ Rq d m_L_law X 892 [l0, l1, l2, l3] (vI 1 :: st) σ K := k0 hX (show fnd (pgm m_L_law) 891 = some (892, 0, 1, 0, 0, []) from rfl)
set_option maxRecDepth 100000 in
theorem l_892 {d : Nat} {l0 l1 l2 l3 : AV} {st : List AV} {a b : Int} {σ : Sg} {X : Nat} {K : List AV → List AV → Sg → Prop} (hX : 892 ≠ X)  : Rq d m_L_law X 892 [l0, l1, l2, l3] (vI b :: vI a :: st) σ K ↔ Rq d m_L_law X 893 [l0, l1, l2, l3] (vI (a + b) :: st) σ K := k10_0 hX (show fnd (pgm m_L_law) 892 = some (893, 10, 0, 0, 0, []) from rfl)
set_option maxRecDepth 100000 in
theorem l_893 {d : Nat} {l0 l1 l2 l3 : AV} {st : List AV} {i : Int} {σ : Sg} {X : Nat} {K : List AV → List AV → Sg → Prop} (hX : 893 ≠ X) (hi : 0 ≤ w32 i ∧ w32 i < σ 999 (-1)) : Rq d m_L_law X 893 [l0, l1, l2, l3] (vI i :: vR 999 :: st) σ K ↔ Rq d m_L_law X 894 [l0, l1, l2, l3] (vI (σ 999 (w32 i)) :: st) σ K := k41 hX (show fnd (pgm m_L_law) 893 = some (894, 41, 0, 0, 0, []) from rfl) hi
set_option maxRecDepth 100000 in
theorem l_894 {d : Nat} {l0 l1 l2 l3 : AV} {st : List AV} {o : Nat} {a0 : Int} {σ : Sg} {X : Nat} {K : List AV → List AV → Sg → Prop} (hX : 894 ≠ X) (h4 : st.length ≤ 4) (hk : kn σ o = (0, 5)) : Rq d m_L_law X 894 [l0, l1, l2, l3] (vI a0 :: vR o :: st) σ K ↔ ∃ r σ1, Ev d m_X5_met [vR o, vI a0] σ r σ1 ∧ Rq d m_L_law X 897 [l0, l1, l2, l3] (psh r st) σ1 K := k35 hX (show fnd (pgm m_L_law) 894 = some (897, 35, 93, 71, 2, []) from rfl) ⟨⟨by simp, by simpa using h4⟩, (by simp only [List.take, List.reverse, List.reverseAux, rcv]; rw [if_neg (by decide +kernel)]; exact decide_eq_true hk)⟩
set_option maxRecDepth 100000 in
theorem l_897 {d : Nat} {l0 l1 l3 : AV} {st : List AV} {o : Nat} {σ : Sg} {X : Nat} {K : List AV → List AV → Sg → Prop} (hX : 897 ≠ X) (ho : o ≠ 0) : Rq d m_L_law X 897 [l0, l1, vR o, l3] st σ K ↔ Rq d m_L_law X 898 [l0, l1, vR o, l3] (vR o :: st) σ K := k5 hX (show fnd (pgm m_L_law) 897 = some (898, 5, 0, 2, 0, []) from rfl) rfl ho
set_option maxRecDepth 100000 in
theorem l_898 {d : Nat} {l1 l2 l3 : AV} {st : List AV} {o : Nat} {σ : Sg} {X : Nat} {K : List AV → List AV → Sg → Prop} (hX : 898 ≠ X) (ho : o ≠ 0) : Rq d m_L_law X 898 [vR o, l1, l2, l3] st σ K ↔ Rq d m_L_law X 899 [vR o, l1, l2, l3] (vR o :: st) σ K := k5 hX (show fnd (pgm m_L_law) 898 = some (899, 5, 0, 0, 0, []) from rfl) rfl ho
set_option maxRecDepth 100000 in
theorem l_899 {d : Nat} {l0 l1 l2 : AV} {st : List AV} {x : Int} {σ : Sg} {X : Nat} {K : List AV → List AV → Sg → Prop} (hX : 899 ≠ X)  : Rq d m_L_law X 899 [l0, l1, l2, vI x] st σ K ↔ Rq d m_L_law X 900 [l0, l1, l2, vI x] (vI x :: st) σ K := k3 hX (show fnd (pgm m_L_law) 899 = some (900, 3, 0, 3, 0, []) from rfl) rfl
set_option maxRecDepth 100000 in
theorem l_900 {d : Nat} {l0 l1 l2 l3 : AV} {st : List AV} {σ : Sg} {X : Nat} {K : List AV → List AV → Sg → Prop} (hX : 900 ≠ X)  : Rq d m_L_law X 900 [l0, l1, l2, l3] st σ K ↔ Rq d m_L_law X 901 [l0, l1, l2, l3] (vI 1 :: st) σ K := k0 hX (show fnd (pgm m_L_law) 900 = some (901, 0, 1, 0, 0, []) from rfl)
set_option maxRecDepth 100000 in
theorem l_901 {d : Nat} {l0 l1 l2 l3 : AV} {st : List AV} {a b : Int} {σ : Sg} {X : Nat} {K : List AV → List AV → Sg → Prop} (hX : 901 ≠ X)  : Rq d m_L_law X 901 [l0, l1, l2, l3] (vI b :: vI a :: st) σ K ↔ Rq d m_L_law X 902 [l0, l1, l2, l3] (vI (a + b) :: st) σ K := k10_0 hX (show fnd (pgm m_L_law) 901 = some (902, 10, 0, 0, 0, []) from rfl)
set_option maxRecDepth 100000 in
theorem l_902 {d : Nat} {l0 l1 l2 l3 : AV} {st : List AV} {i : Int} {σ : Sg} {X : Nat} {K : List AV → List AV → Sg → Prop} (hX : 902 ≠ X) (hi : 0 ≤ w32 i ∧ w32 i < σ 999 (-1)) : Rq d m_L_law X 902 [l0, l1, l2, l3] (vI i :: vR 999 :: st) σ K ↔ Rq d m_L_law X 903 [l0, l1, l2, l3] (vI (σ 999 (w32 i)) :: st) σ K := k41 hX (show fnd (pgm m_L_law) 902 = some (903, 41, 0, 0, 0, []) from rfl) hi
set_option maxRecDepth 100000 in
theorem l_903 {d : Nat} {l0 l1 l2 l3 : AV} {st : List AV} {o : Nat} {a0 : Int} {σ : Sg} {X : Nat} {K : List AV → List AV → Sg → Prop} (hX : 903 ≠ X) (h4 : st.length ≤ 4) (hk : kn σ o = (0, 6)) : Rq d m_L_law X 903 [l0, l1, l2, l3] (vI a0 :: vR o :: st) σ K ↔ ∃ r σ1, Ev d m_X6_met [vR o, vI a0] σ r σ1 ∧ Rq d m_L_law X 906 [l0, l1, l2, l3] (psh r st) σ1 K := k35 hX (show fnd (pgm m_L_law) 903 = some (906, 35, 96, 145, 2, []) from rfl) ⟨⟨by simp, by simpa using h4⟩, (by simp only [List.take, List.reverse, List.reverseAux, rcv]; rw [if_neg (by decide +kernel)]; exact decide_eq_true hk)⟩
set_option maxRecDepth 100000 in
theorem l_906 {d : Nat} {l0 l1 l2 l3 : AV} {st : List AV} {a b : Int} {σ : Sg} {X : Nat} {K : List AV → List AV → Sg → Prop} (hX : 906 ≠ X)  : Rq d m_L_law X 906 [l0, l1, l2, l3] (vI b :: vI a :: st) σ K ↔ if w32 a = w32 b then Rq d m_L_law X 1364 [l0, l1, l2, l3] st σ K else Rq d m_L_law X 909 [l0, l1, l2, l3] st σ K := k20_0 hX (show fnd (pgm m_L_law) 906 = some (909, 20, 0, 0, 1364, []) from rfl)
set_option maxRecDepth 100000 in
theorem l_909 {d : Nat} {l0 l1 l2 l3 : AV} {st : List AV} {σ : Sg} {X : Nat} {K : List AV → List AV → Sg → Prop} (hX : 909 ≠ X)  : Rq d m_L_law X 909 [l0, l1, l2, l3] st σ K ↔ Rq d m_L_law X 910 [l0, l1, l2, l3] (vI 0 :: st) σ K := k0 hX (show fnd (pgm m_L_law) 909 = some (910, 0, 0, 0, 0, []) from rfl)
set_option maxRecDepth 100000 in
theorem l_911 {d : Nat} {l0 l2 l3 : AV} {st : List AV} {o : Nat} {σ : Sg} {X : Nat} {K : List AV → List AV → Sg → Prop} (hX : 911 ≠ X) (ho : o ≠ 0) : Rq d m_L_law X 911 [l0, vR o, l2, l3] st σ K ↔ Rq d m_L_law X 912 [l0, vR o, l2, l3] (vR o :: st) σ K := k5 hX (show fnd (pgm m_L_law) 911 = some (912, 5, 0, 1, 0, []) from rfl) rfl ho
set_option maxRecDepth 100000 in
theorem l_912 {d : Nat} {l1 l2 l3 : AV} {st : List AV} {o : Nat} {σ : Sg} {X : Nat} {K : List AV → List AV → Sg → Prop} (hX : 912 ≠ X) (ho : o ≠ 0) : Rq d m_L_law X 912 [vR o, l1, l2, l3] st σ K ↔ Rq d m_L_law X 913 [vR o, l1, l2, l3] (vR o :: st) σ K := k5 hX (show fnd (pgm m_L_law) 912 = some (913, 5, 0, 0, 0, []) from rfl) rfl ho
set_option maxRecDepth 100000 in
theorem l_913 {d : Nat} {l0 l1 l2 : AV} {st : List AV} {x : Int} {σ : Sg} {X : Nat} {K : List AV → List AV → Sg → Prop} (hX : 913 ≠ X)  : Rq d m_L_law X 913 [l0, l1, l2, vI x] st σ K ↔ Rq d m_L_law X 914 [l0, l1, l2, vI x] (vI x :: st) σ K := k3 hX (show fnd (pgm m_L_law) 913 = some (914, 3, 0, 3, 0, []) from rfl) rfl
set_option maxRecDepth 100000 in
theorem l_914 {d : Nat} {l0 l1 l2 l3 : AV} {st : List AV} {σ : Sg} {X : Nat} {K : List AV → List AV → Sg → Prop} (hX : 914 ≠ X)  : Rq d m_L_law X 914 [l0, l1, l2, l3] st σ K ↔ Rq d m_L_law X 915 [l0, l1, l2, l3] (vI 1 :: st) σ K := k0 hX (show fnd (pgm m_L_law) 914 = some (915, 0, 1, 0, 0, []) from rfl)
set_option maxRecDepth 100000 in
theorem l_915 {d : Nat} {l0 l1 l2 l3 : AV} {st : List AV} {a b : Int} {σ : Sg} {X : Nat} {K : List AV → List AV → Sg → Prop} (hX : 915 ≠ X)  : Rq d m_L_law X 915 [l0, l1, l2, l3] (vI b :: vI a :: st) σ K ↔ Rq d m_L_law X 916 [l0, l1, l2, l3] (vI (a + b) :: st) σ K := k10_0 hX (show fnd (pgm m_L_law) 915 = some (916, 10, 0, 0, 0, []) from rfl)
set_option maxRecDepth 100000 in
theorem l_916 {d : Nat} {l0 l1 l2 l3 : AV} {st : List AV} {i : Int} {σ : Sg} {X : Nat} {K : List AV → List AV → Sg → Prop} (hX : 916 ≠ X) (hi : 0 ≤ w32 i ∧ w32 i < σ 999 (-1)) : Rq d m_L_law X 916 [l0, l1, l2, l3] (vI i :: vR 999 :: st) σ K ↔ Rq d m_L_law X 917 [l0, l1, l2, l3] (vI (σ 999 (w32 i)) :: st) σ K := k41 hX (show fnd (pgm m_L_law) 916 = some (917, 41, 0, 0, 0, []) from rfl) hi
set_option maxRecDepth 100000 in
theorem l_917 {d : Nat} {l1 l2 l3 : AV} {st : List AV} {o : Nat} {σ : Sg} {X : Nat} {K : List AV → List AV → Sg → Prop} (hX : 917 ≠ X) (ho : o ≠ 0) : Rq d m_L_law X 917 [vR o, l1, l2, l3] st σ K ↔ Rq d m_L_law X 918 [vR o, l1, l2, l3] (vR o :: st) σ K := k5 hX (show fnd (pgm m_L_law) 917 = some (918, 5, 0, 0, 0, []) from rfl) rfl ho
set_option maxRecDepth 100000 in
theorem l_918 {d : Nat} {l0 l1 l2 : AV} {st : List AV} {x : Int} {σ : Sg} {X : Nat} {K : List AV → List AV → Sg → Prop} (hX : 918 ≠ X)  : Rq d m_L_law X 918 [l0, l1, l2, vI x] st σ K ↔ Rq d m_L_law X 919 [l0, l1, l2, vI x] (vI x :: st) σ K := k3 hX (show fnd (pgm m_L_law) 918 = some (919, 3, 0, 3, 0, []) from rfl) rfl
set_option maxRecDepth 100000 in
theorem l_919 {d : Nat} {l0 l1 l2 l3 : AV} {st : List AV} {σ : Sg} {X : Nat} {K : List AV → List AV → Sg → Prop} (hX : 919 ≠ X)  : Rq d m_L_law X 919 [l0, l1, l2, l3] st σ K ↔ Rq d m_L_law X 920 [l0, l1, l2, l3] (vI 2 :: st) σ K := k0 hX (show fnd (pgm m_L_law) 919 = some (920, 0, 2, 0, 0, []) from rfl)
set_option maxRecDepth 100000 in
theorem l_920 {d : Nat} {l0 l1 l2 l3 : AV} {st : List AV} {a b : Int} {σ : Sg} {X : Nat} {K : List AV → List AV → Sg → Prop} (hX : 920 ≠ X)  : Rq d m_L_law X 920 [l0, l1, l2, l3] (vI b :: vI a :: st) σ K ↔ Rq d m_L_law X 921 [l0, l1, l2, l3] (vI (a + b) :: st) σ K := k10_0 hX (show fnd (pgm m_L_law) 920 = some (921, 10, 0, 0, 0, []) from rfl)
set_option maxRecDepth 100000 in
theorem l_921 {d : Nat} {l0 l1 l2 l3 : AV} {st : List AV} {i : Int} {σ : Sg} {X : Nat} {K : List AV → List AV → Sg → Prop} (hX : 921 ≠ X) (hi : 0 ≤ w32 i ∧ w32 i < σ 999 (-1)) : Rq d m_L_law X 921 [l0, l1, l2, l3] (vI i :: vR 999 :: st) σ K ↔ Rq d m_L_law X 922 [l0, l1, l2, l3] (vI (σ 999 (w32 i)) :: st) σ K := k41 hX (show fnd (pgm m_L_law) 921 = some (922, 41, 0, 0, 0, []) from rfl) hi
set_option maxRecDepth 100000 in
theorem l_922 {d : Nat} {l1 l2 l3 : AV} {st : List AV} {o : Nat} {σ : Sg} {X : Nat} {K : List AV → List AV → Sg → Prop} (hX : 922 ≠ X) (ho : o ≠ 0) : Rq d m_L_law X 922 [vR o, l1, l2, l3] st σ K ↔ Rq d m_L_law X 923 [vR o, l1, l2, l3] (vR o :: st) σ K := k5 hX (show fnd (pgm m_L_law) 922 = some (923, 5, 0, 0, 0, []) from rfl) rfl ho
set_option maxRecDepth 100000 in
theorem l_923 {d : Nat} {l0 l1 l2 : AV} {st : List AV} {x : Int} {σ : Sg} {X : Nat} {K : List AV → List AV → Sg → Prop} (hX : 923 ≠ X)  : Rq d m_L_law X 923 [l0, l1, l2, vI x] st σ K ↔ Rq d m_L_law X 924 [l0, l1, l2, vI x] (vI x :: st) σ K := k3 hX (show fnd (pgm m_L_law) 923 = some (924, 3, 0, 3, 0, []) from rfl) rfl
set_option maxRecDepth 100000 in
theorem l_924 {d : Nat} {l0 l1 l2 l3 : AV} {st : List AV} {σ : Sg} {X : Nat} {K : List AV → List AV → Sg → Prop} (hX : 924 ≠ X)  : Rq d m_L_law X 924 [l0, l1, l2, l3] st σ K ↔ Rq d m_L_law X 925 [l0, l1, l2, l3] (vI 3 :: st) σ K := k0 hX (show fnd (pgm m_L_law) 924 = some (925, 0, 3, 0, 0, []) from rfl)
set_option maxRecDepth 100000 in
theorem l_925 {d : Nat} {l0 l1 l2 l3 : AV} {st : List AV} {a b : Int} {σ : Sg} {X : Nat} {K : List AV → List AV → Sg → Prop} (hX : 925 ≠ X)  : Rq d m_L_law X 925 [l0, l1, l2, l3] (vI b :: vI a :: st) σ K ↔ Rq d m_L_law X 926 [l0, l1, l2, l3] (vI (a + b) :: st) σ K := k10_0 hX (show fnd (pgm m_L_law) 925 = some (926, 10, 0, 0, 0, []) from rfl)
set_option maxRecDepth 100000 in
theorem l_926 {d : Nat} {l0 l1 l2 l3 : AV} {st : List AV} {i : Int} {σ : Sg} {X : Nat} {K : List AV → List AV → Sg → Prop} (hX : 926 ≠ X) (hi : 0 ≤ w32 i ∧ w32 i < σ 999 (-1)) : Rq d m_L_law X 926 [l0, l1, l2, l3] (vI i :: vR 999 :: st) σ K ↔ Rq d m_L_law X 927 [l0, l1, l2, l3] (vI (σ 999 (w32 i)) :: st) σ K := k41 hX (show fnd (pgm m_L_law) 926 = some (927, 41, 0, 0, 0, []) from rfl) hi
set_option maxRecDepth 100000 in
theorem l_927 {d : Nat} {l0 l1 l2 l3 : AV} {st : List AV} {o : Nat} {a0 : Int} {a1 : Int} {a2 : Int} {σ : Sg} {X : Nat} {K : List AV → List AV → Sg → Prop} (hX : 927 ≠ X) (h4 : st.length ≤ 4) (hk : kn σ o = (0, 5)) : Rq d m_L_law X 927 [l0, l1, l2, l3] (vI a2 :: vI a1 :: vI a0 :: vR o :: st) σ K ↔ ∃ r σ1, Ev d m_X5_steer [vR o, vI a0, vI a1, vI a2] σ r σ1 ∧ Rq d m_L_law X 930 [l0, l1, l2, l3] (psh r st) σ1 K := k35 hX (show fnd (pgm m_L_law) 927 = some (930, 35, 97, 72, 4, []) from rfl) ⟨⟨by simp, by simpa using h4⟩, (by simp only [List.take, List.reverse, List.reverseAux, rcv]; rw [if_neg (by decide +kernel)]; exact decide_eq_true hk)⟩
set_option maxRecDepth 100000 in
theorem l_930 {d : Nat} {l0 l1 l3 : AV} {st : List AV} {o : Nat} {σ : Sg} {X : Nat} {K : List AV → List AV → Sg → Prop} (hX : 930 ≠ X) (ho : o ≠ 0) : Rq d m_L_law X 930 [l0, l1, vR o, l3] st σ K ↔ Rq d m_L_law X 931 [l0, l1, vR o, l3] (vR o :: st) σ K := k5 hX (show fnd (pgm m_L_law) 930 = some (931, 5, 0, 2, 0, []) from rfl) rfl ho
set_option maxRecDepth 100000 in
theorem l_931 {d : Nat} {l1 l2 l3 : AV} {st : List AV} {o : Nat} {σ : Sg} {X : Nat} {K : List AV → List AV → Sg → Prop} (hX : 931 ≠ X) (ho : o ≠ 0) : Rq d m_L_law X 931 [vR o, l1, l2, l3] st σ K ↔ Rq d m_L_law X 932 [vR o, l1, l2, l3] (vR o :: st) σ K := k5 hX (show fnd (pgm m_L_law) 931 = some (932, 5, 0, 0, 0, []) from rfl) rfl ho
set_option maxRecDepth 100000 in
theorem l_932 {d : Nat} {l0 l1 l2 : AV} {st : List AV} {x : Int} {σ : Sg} {X : Nat} {K : List AV → List AV → Sg → Prop} (hX : 932 ≠ X)  : Rq d m_L_law X 932 [l0, l1, l2, vI x] st σ K ↔ Rq d m_L_law X 933 [l0, l1, l2, vI x] (vI x :: st) σ K := k3 hX (show fnd (pgm m_L_law) 932 = some (933, 3, 0, 3, 0, []) from rfl) rfl
set_option maxRecDepth 100000 in
theorem l_933 {d : Nat} {l0 l1 l2 l3 : AV} {st : List AV} {σ : Sg} {X : Nat} {K : List AV → List AV → Sg → Prop} (hX : 933 ≠ X)  : Rq d m_L_law X 933 [l0, l1, l2, l3] st σ K ↔ Rq d m_L_law X 934 [l0, l1, l2, l3] (vI 1 :: st) σ K := k0 hX (show fnd (pgm m_L_law) 933 = some (934, 0, 1, 0, 0, []) from rfl)
set_option maxRecDepth 100000 in
theorem l_934 {d : Nat} {l0 l1 l2 l3 : AV} {st : List AV} {a b : Int} {σ : Sg} {X : Nat} {K : List AV → List AV → Sg → Prop} (hX : 934 ≠ X)  : Rq d m_L_law X 934 [l0, l1, l2, l3] (vI b :: vI a :: st) σ K ↔ Rq d m_L_law X 935 [l0, l1, l2, l3] (vI (a + b) :: st) σ K := k10_0 hX (show fnd (pgm m_L_law) 934 = some (935, 10, 0, 0, 0, []) from rfl)
set_option maxRecDepth 100000 in
theorem l_935 {d : Nat} {l0 l1 l2 l3 : AV} {st : List AV} {i : Int} {σ : Sg} {X : Nat} {K : List AV → List AV → Sg → Prop} (hX : 935 ≠ X) (hi : 0 ≤ w32 i ∧ w32 i < σ 999 (-1)) : Rq d m_L_law X 935 [l0, l1, l2, l3] (vI i :: vR 999 :: st) σ K ↔ Rq d m_L_law X 936 [l0, l1, l2, l3] (vI (σ 999 (w32 i)) :: st) σ K := k41 hX (show fnd (pgm m_L_law) 935 = some (936, 41, 0, 0, 0, []) from rfl) hi
set_option maxRecDepth 100000 in
theorem l_936 {d : Nat} {l1 l2 l3 : AV} {st : List AV} {o : Nat} {σ : Sg} {X : Nat} {K : List AV → List AV → Sg → Prop} (hX : 936 ≠ X) (ho : o ≠ 0) : Rq d m_L_law X 936 [vR o, l1, l2, l3] st σ K ↔ Rq d m_L_law X 937 [vR o, l1, l2, l3] (vR o :: st) σ K := k5 hX (show fnd (pgm m_L_law) 936 = some (937, 5, 0, 0, 0, []) from rfl) rfl ho
set_option maxRecDepth 100000 in
theorem l_937 {d : Nat} {l0 l1 l2 : AV} {st : List AV} {x : Int} {σ : Sg} {X : Nat} {K : List AV → List AV → Sg → Prop} (hX : 937 ≠ X)  : Rq d m_L_law X 937 [l0, l1, l2, vI x] st σ K ↔ Rq d m_L_law X 938 [l0, l1, l2, vI x] (vI x :: st) σ K := k3 hX (show fnd (pgm m_L_law) 937 = some (938, 3, 0, 3, 0, []) from rfl) rfl
set_option maxRecDepth 100000 in
theorem l_938 {d : Nat} {l0 l1 l2 l3 : AV} {st : List AV} {σ : Sg} {X : Nat} {K : List AV → List AV → Sg → Prop} (hX : 938 ≠ X)  : Rq d m_L_law X 938 [l0, l1, l2, l3] st σ K ↔ Rq d m_L_law X 939 [l0, l1, l2, l3] (vI 2 :: st) σ K := k0 hX (show fnd (pgm m_L_law) 938 = some (939, 0, 2, 0, 0, []) from rfl)
set_option maxRecDepth 100000 in
theorem l_939 {d : Nat} {l0 l1 l2 l3 : AV} {st : List AV} {a b : Int} {σ : Sg} {X : Nat} {K : List AV → List AV → Sg → Prop} (hX : 939 ≠ X)  : Rq d m_L_law X 939 [l0, l1, l2, l3] (vI b :: vI a :: st) σ K ↔ Rq d m_L_law X 940 [l0, l1, l2, l3] (vI (a + b) :: st) σ K := k10_0 hX (show fnd (pgm m_L_law) 939 = some (940, 10, 0, 0, 0, []) from rfl)
set_option maxRecDepth 100000 in
theorem l_940 {d : Nat} {l0 l1 l2 l3 : AV} {st : List AV} {i : Int} {σ : Sg} {X : Nat} {K : List AV → List AV → Sg → Prop} (hX : 940 ≠ X) (hi : 0 ≤ w32 i ∧ w32 i < σ 999 (-1)) : Rq d m_L_law X 940 [l0, l1, l2, l3] (vI i :: vR 999 :: st) σ K ↔ Rq d m_L_law X 941 [l0, l1, l2, l3] (vI (σ 999 (w32 i)) :: st) σ K := k41 hX (show fnd (pgm m_L_law) 940 = some (941, 41, 0, 0, 0, []) from rfl) hi
set_option maxRecDepth 100000 in
theorem l_941 {d : Nat} {l1 l2 l3 : AV} {st : List AV} {o : Nat} {σ : Sg} {X : Nat} {K : List AV → List AV → Sg → Prop} (hX : 941 ≠ X) (ho : o ≠ 0) : Rq d m_L_law X 941 [vR o, l1, l2, l3] st σ K ↔ Rq d m_L_law X 942 [vR o, l1, l2, l3] (vR o :: st) σ K := k5 hX (show fnd (pgm m_L_law) 941 = some (942, 5, 0, 0, 0, []) from rfl) rfl ho
set_option maxRecDepth 100000 in
theorem l_942 {d : Nat} {l0 l1 l2 : AV} {st : List AV} {x : Int} {σ : Sg} {X : Nat} {K : List AV → List AV → Sg → Prop} (hX : 942 ≠ X)  : Rq d m_L_law X 942 [l0, l1, l2, vI x] st σ K ↔ Rq d m_L_law X 943 [l0, l1, l2, vI x] (vI x :: st) σ K := k3 hX (show fnd (pgm m_L_law) 942 = some (943, 3, 0, 3, 0, []) from rfl) rfl
set_option maxRecDepth 100000 in
theorem l_943 {d : Nat} {l0 l1 l2 l3 : AV} {st : List AV} {σ : Sg} {X : Nat} {K : List AV → List AV → Sg → Prop} (hX : 943 ≠ X)  : Rq d m_L_law X 943 [l0, l1, l2, l3] st σ K ↔ Rq d m_L_law X 944 [l0, l1, l2, l3] (vI 3 :: st) σ K := k0 hX (show fnd (pgm m_L_law) 943 = some (944, 0, 3, 0, 0, []) from rfl)
set_option maxRecDepth 100000 in
theorem l_944 {d : Nat} {l0 l1 l2 l3 : AV} {st : List AV} {a b : Int} {σ : Sg} {X : Nat} {K : List AV → List AV → Sg → Prop} (hX : 944 ≠ X)  : Rq d m_L_law X 944 [l0, l1, l2, l3] (vI b :: vI a :: st) σ K ↔ Rq d m_L_law X 945 [l0, l1, l2, l3] (vI (a + b) :: st) σ K := k10_0 hX (show fnd (pgm m_L_law) 944 = some (945, 10, 0, 0, 0, []) from rfl)
set_option maxRecDepth 100000 in
theorem l_945 {d : Nat} {l0 l1 l2 l3 : AV} {st : List AV} {i : Int} {σ : Sg} {X : Nat} {K : List AV → List AV → Sg → Prop} (hX : 945 ≠ X) (hi : 0 ≤ w32 i ∧ w32 i < σ 999 (-1)) : Rq d m_L_law X 945 [l0, l1, l2, l3] (vI i :: vR 999 :: st) σ K ↔ Rq d m_L_law X 946 [l0, l1, l2, l3] (vI (σ 999 (w32 i)) :: st) σ K := k41 hX (show fnd (pgm m_L_law) 945 = some (946, 41, 0, 0, 0, []) from rfl) hi
set_option maxRecDepth 100000 in
theorem l_946 {d : Nat} {l0 l1 l2 l3 : AV} {st : List AV} {o : Nat} {a0 : Int} {a1 : Int} {a2 : Int} {σ : Sg} {X : Nat} {K : List AV → List AV → Sg → Prop} (hX : 946 ≠ X) (h4 : st.length ≤ 4) (hk : kn σ o = (0, 6)) : Rq d m_L_law X 946 [l0, l1, l2, l3] (vI a2 :: vI a1 :: vI a0 :: vR o :: st) σ K ↔ ∃ r σ1, Ev d m_X6_steer [vR o, vI a0, vI a1, vI a2] σ r σ1 ∧ Rq d m_L_law X 949 [l0, l1, l2, l3] (psh r st) σ1 K := k35 hX (show fnd (pgm m_L_law) 946 = some (949, 35, 100, 146, 4, []) from rfl) ⟨⟨by simp, by simpa using h4⟩, (by simp only [List.take, List.reverse, List.reverseAux, rcv]; rw [if_neg (by decide +kernel)]; exact decide_eq_true hk)⟩
set_option maxRecDepth 100000 in
theorem l_949 {d : Nat} {l0 l1 l2 l3 : AV} {st : List AV} {a b : Int} {σ : Sg} {X : Nat} {K : List AV → List AV → Sg → Prop} (hX : 949 ≠ X)  : Rq d m_L_law X 949 [l0, l1, l2, l3] (vI b :: vI a :: st) σ K ↔ if w32 a = w32 b then Rq d m_L_law X 1364 [l0, l1, l2, l3] st σ K else Rq d m_L_law X 952 [l0, l1, l2, l3] st σ K := k20_0 hX (show fnd (pgm m_L_law) 949 = some (952, 20, 0, 0, 1364, []) from rfl)
set_option maxRecDepth 100000 in
theorem l_952 {d : Nat} {l0 l1 l2 l3 : AV} {st : List AV} {σ : Sg} {X : Nat} {K : List AV → List AV → Sg → Prop} (hX : 952 ≠ X)  : Rq d m_L_law X 952 [l0, l1, l2, l3] st σ K ↔ Rq d m_L_law X 953 [l0, l1, l2, l3] (vI 0 :: st) σ K := k0 hX (show fnd (pgm m_L_law) 952 = some (953, 0, 0, 0, 0, []) from rfl)
set_option maxRecDepth 100000 in
theorem l_954 {d : Nat} {l0 l2 l3 : AV} {st : List AV} {o : Nat} {σ : Sg} {X : Nat} {K : List AV → List AV → Sg → Prop} (hX : 954 ≠ X) (ho : o ≠ 0) : Rq d m_L_law X 954 [l0, vR o, l2, l3] st σ K ↔ Rq d m_L_law X 955 [l0, vR o, l2, l3] (vR o :: st) σ K := k5 hX (show fnd (pgm m_L_law) 954 = some (955, 5, 0, 1, 0, []) from rfl) rfl ho
set_option maxRecDepth 100000 in
theorem l_955 {d : Nat} {l1 l2 l3 : AV} {st : List AV} {o : Nat} {σ : Sg} {X : Nat} {K : List AV → List AV → Sg → Prop} (hX : 955 ≠ X) (ho : o ≠ 0) : Rq d m_L_law X 955 [vR o, l1, l2, l3] st σ K ↔ Rq d m_L_law X 956 [vR o, l1, l2, l3] (vR o :: st) σ K := k5 hX (show fnd (pgm m_L_law) 955 = some (956, 5, 0, 0, 0, []) from rfl) rfl ho
set_option maxRecDepth 100000 in
theorem l_956 {d : Nat} {l0 l1 l2 : AV} {st : List AV} {x : Int} {σ : Sg} {X : Nat} {K : List AV → List AV → Sg → Prop} (hX : 956 ≠ X)  : Rq d m_L_law X 956 [l0, l1, l2, vI x] st σ K ↔ Rq d m_L_law X 957 [l0, l1, l2, vI x] (vI x :: st) σ K := k3 hX (show fnd (pgm m_L_law) 956 = some (957, 3, 0, 3, 0, []) from rfl) rfl
set_option maxRecDepth 100000 in
theorem l_957 {d : Nat} {l0 l1 l2 l3 : AV} {st : List AV} {σ : Sg} {X : Nat} {K : List AV → List AV → Sg → Prop} (hX : 957 ≠ X)  : Rq d m_L_law X 957 [l0, l1, l2, l3] st σ K ↔ Rq d m_L_law X 958 [l0, l1, l2, l3] (vI 1 :: st) σ K := k0 hX (show fnd (pgm m_L_law) 957 = some (958, 0, 1, 0, 0, []) from rfl)
set_option maxRecDepth 100000 in
theorem l_958 {d : Nat} {l0 l1 l2 l3 : AV} {st : List AV} {a b : Int} {σ : Sg} {X : Nat} {K : List AV → List AV → Sg → Prop} (hX : 958 ≠ X)  : Rq d m_L_law X 958 [l0, l1, l2, l3] (vI b :: vI a :: st) σ K ↔ Rq d m_L_law X 959 [l0, l1, l2, l3] (vI (a + b) :: st) σ K := k10_0 hX (show fnd (pgm m_L_law) 958 = some (959, 10, 0, 0, 0, []) from rfl)
set_option maxRecDepth 100000 in
theorem l_959 {d : Nat} {l0 l1 l2 l3 : AV} {st : List AV} {i : Int} {σ : Sg} {X : Nat} {K : List AV → List AV → Sg → Prop} (hX : 959 ≠ X) (hi : 0 ≤ w32 i ∧ w32 i < σ 999 (-1)) : Rq d m_L_law X 959 [l0, l1, l2, l3] (vI i :: vR 999 :: st) σ K ↔ Rq d m_L_law X 960 [l0, l1, l2, l3] (vI (σ 999 (w32 i)) :: st) σ K := k41 hX (show fnd (pgm m_L_law) 959 = some (960, 41, 0, 0, 0, []) from rfl) hi
set_option maxRecDepth 100000 in
theorem l_960 {d : Nat} {l1 l2 l3 : AV} {st : List AV} {o : Nat} {σ : Sg} {X : Nat} {K : List AV → List AV → Sg → Prop} (hX : 960 ≠ X) (ho : o ≠ 0) : Rq d m_L_law X 960 [vR o, l1, l2, l3] st σ K ↔ Rq d m_L_law X 961 [vR o, l1, l2, l3] (vR o :: st) σ K := k5 hX (show fnd (pgm m_L_law) 960 = some (961, 5, 0, 0, 0, []) from rfl) rfl ho
set_option maxRecDepth 100000 in
theorem l_961 {d : Nat} {l0 l1 l2 : AV} {st : List AV} {x : Int} {σ : Sg} {X : Nat} {K : List AV → List AV → Sg → Prop} (hX : 961 ≠ X)  : Rq d m_L_law X 961 [l0, l1, l2, vI x] st σ K ↔ Rq d m_L_law X 962 [l0, l1, l2, vI x] (vI x :: st) σ K := k3 hX (show fnd (pgm m_L_law) 961 = some (962, 3, 0, 3, 0, []) from rfl) rfl
set_option maxRecDepth 100000 in
theorem l_962 {d : Nat} {l0 l1 l2 l3 : AV} {st : List AV} {σ : Sg} {X : Nat} {K : List AV → List AV → Sg → Prop} (hX : 962 ≠ X)  : Rq d m_L_law X 962 [l0, l1, l2, l3] st σ K ↔ Rq d m_L_law X 963 [l0, l1, l2, l3] (vI 2 :: st) σ K := k0 hX (show fnd (pgm m_L_law) 962 = some (963, 0, 2, 0, 0, []) from rfl)
set_option maxRecDepth 100000 in
theorem l_963 {d : Nat} {l0 l1 l2 l3 : AV} {st : List AV} {a b : Int} {σ : Sg} {X : Nat} {K : List AV → List AV → Sg → Prop} (hX : 963 ≠ X)  : Rq d m_L_law X 963 [l0, l1, l2, l3] (vI b :: vI a :: st) σ K ↔ Rq d m_L_law X 964 [l0, l1, l2, l3] (vI (a + b) :: st) σ K := k10_0 hX (show fnd (pgm m_L_law) 963 = some (964, 10, 0, 0, 0, []) from rfl)
set_option maxRecDepth 100000 in
theorem l_964 {d : Nat} {l0 l1 l2 l3 : AV} {st : List AV} {i : Int} {σ : Sg} {X : Nat} {K : List AV → List AV → Sg → Prop} (hX : 964 ≠ X) (hi : 0 ≤ w32 i ∧ w32 i < σ 999 (-1)) : Rq d m_L_law X 964 [l0, l1, l2, l3] (vI i :: vR 999 :: st) σ K ↔ Rq d m_L_law X 965 [l0, l1, l2, l3] (vI (σ 999 (w32 i)) :: st) σ K := k41 hX (show fnd (pgm m_L_law) 964 = some (965, 41, 0, 0, 0, []) from rfl) hi
set_option maxRecDepth 100000 in
theorem l_965 {d : Nat} {l0 l1 l2 l3 : AV} {st : List AV} {o : Nat} {a0 : Int} {a1 : Int} {σ : Sg} {X : Nat} {K : List AV → List AV → Sg → Prop} (hX : 965 ≠ X) (h4 : st.length ≤ 4) (hk : kn σ o = (0, 5)) : Rq d m_L_law X 965 [l0, l1, l2, l3] (vI a1 :: vI a0 :: vR o :: st) σ K ↔ ∃ r σ1, Ev d m_X5_guess [vR o, vI a0, vI a1] σ r σ1 ∧ Rq d m_L_law X 968 [l0, l1, l2, l3] (psh r st) σ1 K := k35 hX (show fnd (pgm m_L_law) 965 = some (968, 35, 101, 73, 3, []) from rfl) ⟨⟨by simp, by simpa using h4⟩, (by simp only [List.take, List.reverse, List.reverseAux, rcv]; rw [if_neg (by decide +kernel)]; exact decide_eq_true hk)⟩
set_option maxRecDepth 100000 in
theorem l_968 {d : Nat} {l0 l1 l3 : AV} {st : List AV} {o : Nat} {σ : Sg} {X : Nat} {K : List AV → List AV → Sg → Prop} (hX : 968 ≠ X) (ho : o ≠ 0) : Rq d m_L_law X 968 [l0, l1, vR o, l3] st σ K ↔ Rq d m_L_law X 969 [l0, l1, vR o, l3] (vR o :: st) σ K := k5 hX (show fnd (pgm m_L_law) 968 = some (969, 5, 0, 2, 0, []) from rfl) rfl ho
set_option maxRecDepth 100000 in
theorem l_969 {d : Nat} {l1 l2 l3 : AV} {st : List AV} {o : Nat} {σ : Sg} {X : Nat} {K : List AV → List AV → Sg → Prop} (hX : 969 ≠ X) (ho : o ≠ 0) : Rq d m_L_law X 969 [vR o, l1, l2, l3] st σ K ↔ Rq d m_L_law X 970 [vR o, l1, l2, l3] (vR o :: st) σ K := k5 hX (show fnd (pgm m_L_law) 969 = some (970, 5, 0, 0, 0, []) from rfl) rfl ho
set_option maxRecDepth 100000 in
theorem l_970 {d : Nat} {l0 l1 l2 : AV} {st : List AV} {x : Int} {σ : Sg} {X : Nat} {K : List AV → List AV → Sg → Prop} (hX : 970 ≠ X)  : Rq d m_L_law X 970 [l0, l1, l2, vI x] st σ K ↔ Rq d m_L_law X 971 [l0, l1, l2, vI x] (vI x :: st) σ K := k3 hX (show fnd (pgm m_L_law) 970 = some (971, 3, 0, 3, 0, []) from rfl) rfl
set_option maxRecDepth 100000 in
theorem l_971 {d : Nat} {l0 l1 l2 l3 : AV} {st : List AV} {σ : Sg} {X : Nat} {K : List AV → List AV → Sg → Prop} (hX : 971 ≠ X)  : Rq d m_L_law X 971 [l0, l1, l2, l3] st σ K ↔ Rq d m_L_law X 972 [l0, l1, l2, l3] (vI 1 :: st) σ K := k0 hX (show fnd (pgm m_L_law) 971 = some (972, 0, 1, 0, 0, []) from rfl)
set_option maxRecDepth 100000 in
theorem l_972 {d : Nat} {l0 l1 l2 l3 : AV} {st : List AV} {a b : Int} {σ : Sg} {X : Nat} {K : List AV → List AV → Sg → Prop} (hX : 972 ≠ X)  : Rq d m_L_law X 972 [l0, l1, l2, l3] (vI b :: vI a :: st) σ K ↔ Rq d m_L_law X 973 [l0, l1, l2, l3] (vI (a + b) :: st) σ K := k10_0 hX (show fnd (pgm m_L_law) 972 = some (973, 10, 0, 0, 0, []) from rfl)
set_option maxRecDepth 100000 in
theorem l_973 {d : Nat} {l0 l1 l2 l3 : AV} {st : List AV} {i : Int} {σ : Sg} {X : Nat} {K : List AV → List AV → Sg → Prop} (hX : 973 ≠ X) (hi : 0 ≤ w32 i ∧ w32 i < σ 999 (-1)) : Rq d m_L_law X 973 [l0, l1, l2, l3] (vI i :: vR 999 :: st) σ K ↔ Rq d m_L_law X 974 [l0, l1, l2, l3] (vI (σ 999 (w32 i)) :: st) σ K := k41 hX (show fnd (pgm m_L_law) 973 = some (974, 41, 0, 0, 0, []) from rfl) hi
set_option maxRecDepth 100000 in
theorem l_974 {d : Nat} {l1 l2 l3 : AV} {st : List AV} {o : Nat} {σ : Sg} {X : Nat} {K : List AV → List AV → Sg → Prop} (hX : 974 ≠ X) (ho : o ≠ 0) : Rq d m_L_law X 974 [vR o, l1, l2, l3] st σ K ↔ Rq d m_L_law X 975 [vR o, l1, l2, l3] (vR o :: st) σ K := k5 hX (show fnd (pgm m_L_law) 974 = some (975, 5, 0, 0, 0, []) from rfl) rfl ho
set_option maxRecDepth 100000 in
theorem l_975 {d : Nat} {l0 l1 l2 : AV} {st : List AV} {x : Int} {σ : Sg} {X : Nat} {K : List AV → List AV → Sg → Prop} (hX : 975 ≠ X)  : Rq d m_L_law X 975 [l0, l1, l2, vI x] st σ K ↔ Rq d m_L_law X 976 [l0, l1, l2, vI x] (vI x :: st) σ K := k3 hX (show fnd (pgm m_L_law) 975 = some (976, 3, 0, 3, 0, []) from rfl) rfl
set_option maxRecDepth 100000 in
theorem l_976 {d : Nat} {l0 l1 l2 l3 : AV} {st : List AV} {σ : Sg} {X : Nat} {K : List AV → List AV → Sg → Prop} (hX : 976 ≠ X)  : Rq d m_L_law X 976 [l0, l1, l2, l3] st σ K ↔ Rq d m_L_law X 977 [l0, l1, l2, l3] (vI 2 :: st) σ K := k0 hX (show fnd (pgm m_L_law) 976 = some (977, 0, 2, 0, 0, []) from rfl)
set_option maxRecDepth 100000 in
theorem l_977 {d : Nat} {l0 l1 l2 l3 : AV} {st : List AV} {a b : Int} {σ : Sg} {X : Nat} {K : List AV → List AV → Sg → Prop} (hX : 977 ≠ X)  : Rq d m_L_law X 977 [l0, l1, l2, l3] (vI b :: vI a :: st) σ K ↔ Rq d m_L_law X 978 [l0, l1, l2, l3] (vI (a + b) :: st) σ K := k10_0 hX (show fnd (pgm m_L_law) 977 = some (978, 10, 0, 0, 0, []) from rfl)
set_option maxRecDepth 100000 in
theorem l_978 {d : Nat} {l0 l1 l2 l3 : AV} {st : List AV} {i : Int} {σ : Sg} {X : Nat} {K : List AV → List AV → Sg → Prop} (hX : 978 ≠ X) (hi : 0 ≤ w32 i ∧ w32 i < σ 999 (-1)) : Rq d m_L_law X 978 [l0, l1, l2, l3] (vI i :: vR 999 :: st) σ K ↔ Rq d m_L_law X 979 [l0, l1, l2, l3] (vI (σ 999 (w32 i)) :: st) σ K := k41 hX (show fnd (pgm m_L_law) 978 = some (979, 41, 0, 0, 0, []) from rfl) hi
set_option maxRecDepth 100000 in
theorem l_979 {d : Nat} {l0 l1 l2 l3 : AV} {st : List AV} {o : Nat} {a0 : Int} {a1 : Int} {σ : Sg} {X : Nat} {K : List AV → List AV → Sg → Prop} (hX : 979 ≠ X) (h4 : st.length ≤ 4) (hk : kn σ o = (0, 6)) : Rq d m_L_law X 979 [l0, l1, l2, l3] (vI a1 :: vI a0 :: vR o :: st) σ K ↔ ∃ r σ1, Ev d m_X6_guess [vR o, vI a0, vI a1] σ r σ1 ∧ Rq d m_L_law X 982 [l0, l1, l2, l3] (psh r st) σ1 K := k35 hX (show fnd (pgm m_L_law) 979 = some (982, 35, 104, 149, 3, []) from rfl) ⟨⟨by simp, by simpa using h4⟩, (by simp only [List.take, List.reverse, List.reverseAux, rcv]; rw [if_neg (by decide +kernel)]; exact decide_eq_true hk)⟩
set_option maxRecDepth 100000 in
theorem l_982 {d : Nat} {l0 l1 l2 l3 : AV} {st : List AV} {a b : Int} {σ : Sg} {X : Nat} {K : List AV → List AV → Sg → Prop} (hX : 982 ≠ X)  : Rq d m_L_law X 982 [l0, l1, l2, l3] (vI b :: vI a :: st) σ K ↔ if w32 a = w32 b then Rq d m_L_law X 1364 [l0, l1, l2, l3] st σ K else Rq d m_L_law X 985 [l0, l1, l2, l3] st σ K := k20_0 hX (show fnd (pgm m_L_law) 982 = some (985, 20, 0, 0, 1364, []) from rfl)
set_option maxRecDepth 100000 in
theorem l_985 {d : Nat} {l0 l1 l2 l3 : AV} {st : List AV} {σ : Sg} {X : Nat} {K : List AV → List AV → Sg → Prop} (hX : 985 ≠ X)  : Rq d m_L_law X 985 [l0, l1, l2, l3] st σ K ↔ Rq d m_L_law X 986 [l0, l1, l2, l3] (vI 0 :: st) σ K := k0 hX (show fnd (pgm m_L_law) 985 = some (986, 0, 0, 0, 0, []) from rfl)
set_option maxRecDepth 100000 in
theorem l_987 {d : Nat} {l0 l2 l3 : AV} {st : List AV} {o : Nat} {σ : Sg} {X : Nat} {K : List AV → List AV → Sg → Prop} (hX : 987 ≠ X) (ho : o ≠ 0) : Rq d m_L_law X 987 [l0, vR o, l2, l3] st σ K ↔ Rq d m_L_law X 988 [l0, vR o, l2, l3] (vR o :: st) σ K := k5 hX (show fnd (pgm m_L_law) 987 = some (988, 5, 0, 1, 0, []) from rfl) rfl ho
set_option maxRecDepth 100000 in
theorem l_988 {d : Nat} {l1 l2 l3 : AV} {st : List AV} {o : Nat} {σ : Sg} {X : Nat} {K : List AV → List AV → Sg → Prop} (hX : 988 ≠ X) (ho : o ≠ 0) : Rq d m_L_law X 988 [vR o, l1, l2, l3] st σ K ↔ Rq d m_L_law X 989 [vR o, l1, l2, l3] (vR o :: st) σ K := k5 hX (show fnd (pgm m_L_law) 988 = some (989, 5, 0, 0, 0, []) from rfl) rfl ho
set_option maxRecDepth 100000 in
theorem l_989 {d : Nat} {l0 l1 l2 : AV} {st : List AV} {x : Int} {σ : Sg} {X : Nat} {K : List AV → List AV → Sg → Prop} (hX : 989 ≠ X)  : Rq d m_L_law X 989 [l0, l1, l2, vI x] st σ K ↔ Rq d m_L_law X 990 [l0, l1, l2, vI x] (vI x :: st) σ K := k3 hX (show fnd (pgm m_L_law) 989 = some (990, 3, 0, 3, 0, []) from rfl) rfl
set_option maxRecDepth 100000 in
theorem l_990 {d : Nat} {l0 l1 l2 l3 : AV} {st : List AV} {σ : Sg} {X : Nat} {K : List AV → List AV → Sg → Prop} (hX : 990 ≠ X)  : Rq d m_L_law X 990 [l0, l1, l2, l3] st σ K ↔ Rq d m_L_law X 991 [l0, l1, l2, l3] (vI 1 :: st) σ K := k0 hX (show fnd (pgm m_L_law) 990 = some (991, 0, 1, 0, 0, []) from rfl)
set_option maxRecDepth 100000 in
theorem l_991 {d : Nat} {l0 l1 l2 l3 : AV} {st : List AV} {a b : Int} {σ : Sg} {X : Nat} {K : List AV → List AV → Sg → Prop} (hX : 991 ≠ X)  : Rq d m_L_law X 991 [l0, l1, l2, l3] (vI b :: vI a :: st) σ K ↔ Rq d m_L_law X 992 [l0, l1, l2, l3] (vI (a + b) :: st) σ K := k10_0 hX (show fnd (pgm m_L_law) 991 = some (992, 10, 0, 0, 0, []) from rfl)
set_option maxRecDepth 100000 in
theorem l_992 {d : Nat} {l0 l1 l2 l3 : AV} {st : List AV} {i : Int} {σ : Sg} {X : Nat} {K : List AV → List AV → Sg → Prop} (hX : 992 ≠ X) (hi : 0 ≤ w32 i ∧ w32 i < σ 999 (-1)) : Rq d m_L_law X 992 [l0, l1, l2, l3] (vI i :: vR 999 :: st) σ K ↔ Rq d m_L_law X 993 [l0, l1, l2, l3] (vI (σ 999 (w32 i)) :: st) σ K := k41 hX (show fnd (pgm m_L_law) 992 = some (993, 41, 0, 0, 0, []) from rfl) hi
set_option maxRecDepth 100000 in
theorem l_993 {d : Nat} {l1 l2 l3 : AV} {st : List AV} {o : Nat} {σ : Sg} {X : Nat} {K : List AV → List AV → Sg → Prop} (hX : 993 ≠ X) (ho : o ≠ 0) : Rq d m_L_law X 993 [vR o, l1, l2, l3] st σ K ↔ Rq d m_L_law X 994 [vR o, l1, l2, l3] (vR o :: st) σ K := k5 hX (show fnd (pgm m_L_law) 993 = some (994, 5, 0, 0, 0, []) from rfl) rfl ho
set_option maxRecDepth 100000 in
theorem l_994 {d : Nat} {l0 l1 l2 : AV} {st : List AV} {x : Int} {σ : Sg} {X : Nat} {K : List AV → List AV → Sg → Prop} (hX : 994 ≠ X)  : Rq d m_L_law X 994 [l0, l1, l2, vI x] st σ K ↔ Rq d m_L_law X 995 [l0, l1, l2, vI x] (vI x :: st) σ K := k3 hX (show fnd (pgm m_L_law) 994 = some (995, 3, 0, 3, 0, []) from rfl) rfl
set_option maxRecDepth 100000 in
theorem l_995 {d : Nat} {l0 l1 l2 l3 : AV} {st : List AV} {σ : Sg} {X : Nat} {K : List AV → List AV → Sg → Prop} (hX : 995 ≠ X)  : Rq d m_L_law X 995 [l0, l1, l2, l3] st σ K ↔ Rq d m_L_law X 996 [l0, l1, l2, l3] (vI 2 :: st) σ K := k0 hX (show fnd (pgm m_L_law) 995 = some (996, 0, 2, 0, 0, []) from rfl)
set_option maxRecDepth 100000 in
theorem l_996 {d : Nat} {l0 l1 l2 l3 : AV} {st : List AV} {a b : Int} {σ : Sg} {X : Nat} {K : List AV → List AV → Sg → Prop} (hX : 996 ≠ X)  : Rq d m_L_law X 996 [l0, l1, l2, l3] (vI b :: vI a :: st) σ K ↔ Rq d m_L_law X 997 [l0, l1, l2, l3] (vI (a + b) :: st) σ K := k10_0 hX (show fnd (pgm m_L_law) 996 = some (997, 10, 0, 0, 0, []) from rfl)
set_option maxRecDepth 100000 in
theorem l_997 {d : Nat} {l0 l1 l2 l3 : AV} {st : List AV} {i : Int} {σ : Sg} {X : Nat} {K : List AV → List AV → Sg → Prop} (hX : 997 ≠ X) (hi : 0 ≤ w32 i ∧ w32 i < σ 999 (-1)) : Rq d m_L_law X 997 [l0, l1, l2, l3] (vI i :: vR 999 :: st) σ K ↔ Rq d m_L_law X 998 [l0, l1, l2, l3] (vI (σ 999 (w32 i)) :: st) σ K := k41 hX (show fnd (pgm m_L_law) 997 = some (998, 41, 0, 0, 0, []) from rfl) hi
set_option maxRecDepth 100000 in
theorem l_998 {d : Nat} {l0 l1 l2 l3 : AV} {st : List AV} {o : Nat} {a0 : Int} {a1 : Int} {σ : Sg} {X : Nat} {K : List AV → List AV → Sg → Prop} (hX : 998 ≠ X) (h4 : st.length ≤ 4) (hk : kn σ o = (0, 5)) : Rq d m_L_law X 998 [l0, l1, l2, l3] (vI a1 :: vI a0 :: vR o :: st) σ K ↔ ∃ r σ1, Ev d m_X5_guessWay [vR o, vI a0, vI a1] σ r σ1 ∧ Rq d m_L_law X 1001 [l0, l1, l2, l3] (psh r st) σ1 K := k35 hX (show fnd (pgm m_L_law) 998 = some (1001, 35, 105, 74, 3, []) from rfl) ⟨⟨by simp, by simpa using h4⟩, (by simp only [List.take, List.reverse, List.reverseAux, rcv]; rw [if_neg (by decide +kernel)]; exact decide_eq_true hk)⟩
set_option maxRecDepth 100000 in
theorem l_1001 {d : Nat} {l0 l1 l3 : AV} {st : List AV} {o : Nat} {σ : Sg} {X : Nat} {K : List AV → List AV → Sg → Prop} (hX : 1001 ≠ X) (ho : o ≠ 0) : Rq d m_L_law X 1001 [l0, l1, vR o, l3] st σ K ↔ Rq d m_L_law X 1002 [l0, l1, vR o, l3] (vR o :: st) σ K := k5 hX (show fnd (pgm m_L_law) 1001 = some (1002, 5, 0, 2, 0, []) from rfl) rfl ho
set_option maxRecDepth 100000 in
theorem l_1002 {d : Nat} {l1 l2 l3 : AV} {st : List AV} {o : Nat} {σ : Sg} {X : Nat} {K : List AV → List AV → Sg → Prop} (hX : 1002 ≠ X) (ho : o ≠ 0) : Rq d m_L_law X 1002 [vR o, l1, l2, l3] st σ K ↔ Rq d m_L_law X 1003 [vR o, l1, l2, l3] (vR o :: st) σ K := k5 hX (show fnd (pgm m_L_law) 1002 = some (1003, 5, 0, 0, 0, []) from rfl) rfl ho
set_option maxRecDepth 100000 in
theorem l_1003 {d : Nat} {l0 l1 l2 : AV} {st : List AV} {x : Int} {σ : Sg} {X : Nat} {K : List AV → List AV → Sg → Prop} (hX : 1003 ≠ X)  : Rq d m_L_law X 1003 [l0, l1, l2, vI x] st σ K ↔ Rq d m_L_law X 1004 [l0, l1, l2, vI x] (vI x :: st) σ K := k3 hX (show fnd (pgm m_L_law) 1003 = some (1004, 3, 0, 3, 0, []) from rfl) rfl
set_option maxRecDepth 100000 in
theorem l_1004 {d : Nat} {l0 l1 l2 l3 : AV} {st : List AV} {σ : Sg} {X : Nat} {K : List AV → List AV → Sg → Prop} (hX : 1004 ≠ X)  : Rq d m_L_law X 1004 [l0, l1, l2, l3] st σ K ↔ Rq d m_L_law X 1005 [l0, l1, l2, l3] (vI 1 :: st) σ K := k0 hX (show fnd (pgm m_L_law) 1004 = some (1005, 0, 1, 0, 0, []) from rfl)
set_option maxRecDepth 100000 in
theorem l_1005 {d : Nat} {l0 l1 l2 l3 : AV} {st : List AV} {a b : Int} {σ : Sg} {X : Nat} {K : List AV → List AV → Sg → Prop} (hX : 1005 ≠ X)  : Rq d m_L_law X 1005 [l0, l1, l2, l3] (vI b :: vI a :: st) σ K ↔ Rq d m_L_law X 1006 [l0, l1, l2, l3] (vI (a + b) :: st) σ K := k10_0 hX (show fnd (pgm m_L_law) 1005 = some (1006, 10, 0, 0, 0, []) from rfl)
set_option maxRecDepth 100000 in
theorem l_1006 {d : Nat} {l0 l1 l2 l3 : AV} {st : List AV} {i : Int} {σ : Sg} {X : Nat} {K : List AV → List AV → Sg → Prop} (hX : 1006 ≠ X) (hi : 0 ≤ w32 i ∧ w32 i < σ 999 (-1)) : Rq d m_L_law X 1006 [l0, l1, l2, l3] (vI i :: vR 999 :: st) σ K ↔ Rq d m_L_law X 1007 [l0, l1, l2, l3] (vI (σ 999 (w32 i)) :: st) σ K := k41 hX (show fnd (pgm m_L_law) 1006 = some (1007, 41, 0, 0, 0, []) from rfl) hi
set_option maxRecDepth 100000 in
theorem l_1007 {d : Nat} {l1 l2 l3 : AV} {st : List AV} {o : Nat} {σ : Sg} {X : Nat} {K : List AV → List AV → Sg → Prop} (hX : 1007 ≠ X) (ho : o ≠ 0) : Rq d m_L_law X 1007 [vR o, l1, l2, l3] st σ K ↔ Rq d m_L_law X 1008 [vR o, l1, l2, l3] (vR o :: st) σ K := k5 hX (show fnd (pgm m_L_law) 1007 = some (1008, 5, 0, 0, 0, []) from rfl) rfl ho
set_option maxRecDepth 100000 in
theorem l_1008 {d : Nat} {l0 l1 l2 : AV} {st : List AV} {x : Int} {σ : Sg} {X : Nat} {K : List AV → List AV → Sg → Prop} (hX : 1008 ≠ X)  : Rq d m_L_law X 1008 [l0, l1, l2, vI x] st σ K ↔ Rq d m_L_law X 1009 [l0, l1, l2, vI x] (vI x :: st) σ K := k3 hX (show fnd (pgm m_L_law) 1008 = some (1009, 3, 0, 3, 0, []) from rfl) rfl
set_option maxRecDepth 100000 in
theorem l_1009 {d : Nat} {l0 l1 l2 l3 : AV} {st : List AV} {σ : Sg} {X : Nat} {K : List AV → List AV → Sg → Prop} (hX : 1009 ≠ X)  : Rq d m_L_law X 1009 [l0, l1, l2, l3] st σ K ↔ Rq d m_L_law X 1010 [l0, l1, l2, l3] (vI 2 :: st) σ K := k0 hX (show fnd (pgm m_L_law) 1009 = some (1010, 0, 2, 0, 0, []) from rfl)
set_option maxRecDepth 100000 in
theorem l_1010 {d : Nat} {l0 l1 l2 l3 : AV} {st : List AV} {a b : Int} {σ : Sg} {X : Nat} {K : List AV → List AV → Sg → Prop} (hX : 1010 ≠ X)  : Rq d m_L_law X 1010 [l0, l1, l2, l3] (vI b :: vI a :: st) σ K ↔ Rq d m_L_law X 1011 [l0, l1, l2, l3] (vI (a + b) :: st) σ K := k10_0 hX (show fnd (pgm m_L_law) 1010 = some (1011, 10, 0, 0, 0, []) from rfl)
set_option maxRecDepth 100000 in
theorem l_1011 {d : Nat} {l0 l1 l2 l3 : AV} {st : List AV} {i : Int} {σ : Sg} {X : Nat} {K : List AV → List AV → Sg → Prop} (hX : 1011 ≠ X) (hi : 0 ≤ w32 i ∧ w32 i < σ 999 (-1)) : Rq d m_L_law X 1011 [l0, l1, l2, l3] (vI i :: vR 999 :: st) σ K ↔ Rq d m_L_law X 1012 [l0, l1, l2, l3] (vI (σ 999 (w32 i)) :: st) σ K := k41 hX (show fnd (pgm m_L_law) 1011 = some (1012, 41, 0, 0, 0, []) from rfl) hi
set_option maxRecDepth 100000 in
theorem l_1012 {d : Nat} {l0 l1 l2 l3 : AV} {st : List AV} {o : Nat} {a0 : Int} {a1 : Int} {σ : Sg} {X : Nat} {K : List AV → List AV → Sg → Prop} (hX : 1012 ≠ X) (h4 : st.length ≤ 4) (hk : kn σ o = (0, 6)) : Rq d m_L_law X 1012 [l0, l1, l2, l3] (vI a1 :: vI a0 :: vR o :: st) σ K ↔ ∃ r σ1, Ev d m_X6_guessWay [vR o, vI a0, vI a1] σ r σ1 ∧ Rq d m_L_law X 1015 [l0, l1, l2, l3] (psh r st) σ1 K := k35 hX (show fnd (pgm m_L_law) 1012 = some (1015, 35, 108, 150, 3, []) from rfl) ⟨⟨by simp, by simpa using h4⟩, (by simp only [List.take, List.reverse, List.reverseAux, rcv]; rw [if_neg (by decide +kernel)]; exact decide_eq_true hk)⟩
set_option maxRecDepth 100000 in
theorem l_1015 {d : Nat} {l0 l1 l2 l3 : AV} {st : List AV} {a b : Int} {σ : Sg} {X : Nat} {K : List AV → List AV → Sg → Prop} (hX : 1015 ≠ X)  : Rq d m_L_law X 1015 [l0, l1, l2, l3] (vI b :: vI a :: st) σ K ↔ if w32 a = w32 b then Rq d m_L_law X 1364 [l0, l1, l2, l3] st σ K else Rq d m_L_law X 1018 [l0, l1, l2, l3] st σ K := k20_0 hX (show fnd (pgm m_L_law) 1015 = some (1018, 20, 0, 0, 1364, []) from rfl)
set_option maxRecDepth 100000 in
theorem l_1018 {d : Nat} {l0 l1 l2 l3 : AV} {st : List AV} {σ : Sg} {X : Nat} {K : List AV → List AV → Sg → Prop} (hX : 1018 ≠ X)  : Rq d m_L_law X 1018 [l0, l1, l2, l3] st σ K ↔ Rq d m_L_law X 1019 [l0, l1, l2, l3] (vI 0 :: st) σ K := k0 hX (show fnd (pgm m_L_law) 1018 = some (1019, 0, 0, 0, 0, []) from rfl)
set_option maxRecDepth 100000 in
theorem l_1020 {d : Nat} {l0 l2 l3 : AV} {st : List AV} {o : Nat} {σ : Sg} {X : Nat} {K : List AV → List AV → Sg → Prop} (hX : 1020 ≠ X) (ho : o ≠ 0) : Rq d m_L_law X 1020 [l0, vR o, l2, l3] st σ K ↔ Rq d m_L_law X 1021 [l0, vR o, l2, l3] (vR o :: st) σ K := k5 hX (show fnd (pgm m_L_law) 1020 = some (1021, 5, 0, 1, 0, []) from rfl) rfl ho
set_option maxRecDepth 100000 in
theorem l_1021 {d : Nat} {l1 l2 l3 : AV} {st : List AV} {o : Nat} {σ : Sg} {X : Nat} {K : List AV → List AV → Sg → Prop} (hX : 1021 ≠ X) (ho : o ≠ 0) : Rq d m_L_law X 1021 [vR o, l1, l2, l3] st σ K ↔ Rq d m_L_law X 1022 [vR o, l1, l2, l3] (vR o :: st) σ K := k5 hX (show fnd (pgm m_L_law) 1021 = some (1022, 5, 0, 0, 0, []) from rfl) rfl ho
set_option maxRecDepth 100000 in
theorem l_1022 {d : Nat} {l0 l1 l2 : AV} {st : List AV} {x : Int} {σ : Sg} {X : Nat} {K : List AV → List AV → Sg → Prop} (hX : 1022 ≠ X)  : Rq d m_L_law X 1022 [l0, l1, l2, vI x] st σ K ↔ Rq d m_L_law X 1023 [l0, l1, l2, vI x] (vI x :: st) σ K := k3 hX (show fnd (pgm m_L_law) 1022 = some (1023, 3, 0, 3, 0, []) from rfl) rfl
set_option maxRecDepth 100000 in
theorem l_1023 {d : Nat} {l0 l1 l2 l3 : AV} {st : List AV} {σ : Sg} {X : Nat} {K : List AV → List AV → Sg → Prop} (hX : 1023 ≠ X)  : Rq d m_L_law X 1023 [l0, l1, l2, l3] st σ K ↔ Rq d m_L_law X 1024 [l0, l1, l2, l3] (vI 1 :: st) σ K := k0 hX (show fnd (pgm m_L_law) 1023 = some (1024, 0, 1, 0, 0, []) from rfl)
set_option maxRecDepth 100000 in
theorem l_1024 {d : Nat} {l0 l1 l2 l3 : AV} {st : List AV} {a b : Int} {σ : Sg} {X : Nat} {K : List AV → List AV → Sg → Prop} (hX : 1024 ≠ X)  : Rq d m_L_law X 1024 [l0, l1, l2, l3] (vI b :: vI a :: st) σ K ↔ Rq d m_L_law X 1025 [l0, l1, l2, l3] (vI (a + b) :: st) σ K := k10_0 hX (show fnd (pgm m_L_law) 1024 = some (1025, 10, 0, 0, 0, []) from rfl)
set_option maxRecDepth 100000 in
theorem l_1025 {d : Nat} {l0 l1 l2 l3 : AV} {st : List AV} {i : Int} {σ : Sg} {X : Nat} {K : List AV → List AV → Sg → Prop} (hX : 1025 ≠ X) (hi : 0 ≤ w32 i ∧ w32 i < σ 999 (-1)) : Rq d m_L_law X 1025 [l0, l1, l2, l3] (vI i :: vR 999 :: st) σ K ↔ Rq d m_L_law X 1026 [l0, l1, l2, l3] (vI (σ 999 (w32 i)) :: st) σ K := k41 hX (show fnd (pgm m_L_law) 1025 = some (1026, 41, 0, 0, 0, []) from rfl) hi
set_option maxRecDepth 100000 in
theorem l_1026 {d : Nat} {l1 l2 l3 : AV} {st : List AV} {o : Nat} {σ : Sg} {X : Nat} {K : List AV → List AV → Sg → Prop} (hX : 1026 ≠ X) (ho : o ≠ 0) : Rq d m_L_law X 1026 [vR o, l1, l2, l3] st σ K ↔ Rq d m_L_law X 1027 [vR o, l1, l2, l3] (vR o :: st) σ K := k5 hX (show fnd (pgm m_L_law) 1026 = some (1027, 5, 0, 0, 0, []) from rfl) rfl ho
set_option maxRecDepth 100000 in
theorem l_1027 {d : Nat} {l0 l1 l2 : AV} {st : List AV} {x : Int} {σ : Sg} {X : Nat} {K : List AV → List AV → Sg → Prop} (hX : 1027 ≠ X)  : Rq d m_L_law X 1027 [l0, l1, l2, vI x] st σ K ↔ Rq d m_L_law X 1028 [l0, l1, l2, vI x] (vI x :: st) σ K := k3 hX (show fnd (pgm m_L_law) 1027 = some (1028, 3, 0, 3, 0, []) from rfl) rfl
set_option maxRecDepth 100000 in
theorem l_1028 {d : Nat} {l0 l1 l2 l3 : AV} {st : List AV} {σ : Sg} {X : Nat} {K : List AV → List AV → Sg → Prop} (hX : 1028 ≠ X)  : Rq d m_L_law X 1028 [l0, l1, l2, l3] st σ K ↔ Rq d m_L_law X 1029 [l0, l1, l2, l3] (vI 2 :: st) σ K := k0 hX (show fnd (pgm m_L_law) 1028 = some (1029, 0, 2, 0, 0, []) from rfl)
set_option maxRecDepth 100000 in
theorem l_1029 {d : Nat} {l0 l1 l2 l3 : AV} {st : List AV} {a b : Int} {σ : Sg} {X : Nat} {K : List AV → List AV → Sg → Prop} (hX : 1029 ≠ X)  : Rq d m_L_law X 1029 [l0, l1, l2, l3] (vI b :: vI a :: st) σ K ↔ Rq d m_L_law X 1030 [l0, l1, l2, l3] (vI (a + b) :: st) σ K := k10_0 hX (show fnd (pgm m_L_law) 1029 = some (1030, 10, 0, 0, 0, []) from rfl)
set_option maxRecDepth 100000 in
theorem l_1030 {d : Nat} {l0 l1 l2 l3 : AV} {st : List AV} {i : Int} {σ : Sg} {X : Nat} {K : List AV → List AV → Sg → Prop} (hX : 1030 ≠ X) (hi : 0 ≤ w32 i ∧ w32 i < σ 999 (-1)) : Rq d m_L_law X 1030 [l0, l1, l2, l3] (vI i :: vR 999 :: st) σ K ↔ Rq d m_L_law X 1031 [l0, l1, l2, l3] (vI (σ 999 (w32 i)) :: st) σ K := k41 hX (show fnd (pgm m_L_law) 1030 = some (1031, 41, 0, 0, 0, []) from rfl) hi
set_option maxRecDepth 100000 in
theorem l_1031 {d : Nat} {l0 l1 l2 l3 : AV} {st : List AV} {o : Nat} {a0 : Int} {a1 : Int} {σ : Sg} {X : Nat} {K : List AV → List AV → Sg → Prop} (hX : 1031 ≠ X) (h4 : st.length ≤ 4) (hk : kn σ o = (0, 5)) : Rq d m_L_law X 1031 [l0, l1, l2, l3] (vI a1 :: vI a0 :: vR o :: st) σ K ↔ ∃ r σ1, Ev d m_X5_seeds [vR o, vI a0, vI a1] σ r σ1 ∧ Rq d m_L_law X 1034 [l0, l1, l2, l3] (psh r st) σ1 K := k35 hX (show fnd (pgm m_L_law) 1031 = some (1034, 35, 109, 75, 3, []) from rfl) ⟨⟨by simp, by simpa using h4⟩, (by simp only [List.take, List.reverse, List.reverseAux, rcv]; rw [if_neg (by decide +kernel)]; exact decide_eq_true hk)⟩
set_option maxRecDepth 100000 in
theorem l_1034 {d : Nat} {l0 l1 l3 : AV} {st : List AV} {o : Nat} {σ : Sg} {X : Nat} {K : List AV → List AV → Sg → Prop} (hX : 1034 ≠ X) (ho : o ≠ 0) : Rq d m_L_law X 1034 [l0, l1, vR o, l3] st σ K ↔ Rq d m_L_law X 1035 [l0, l1, vR o, l3] (vR o :: st) σ K := k5 hX (show fnd (pgm m_L_law) 1034 = some (1035, 5, 0, 2, 0, []) from rfl) rfl ho
set_option maxRecDepth 100000 in
theorem l_1035 {d : Nat} {l1 l2 l3 : AV} {st : List AV} {o : Nat} {σ : Sg} {X : Nat} {K : List AV → List AV → Sg → Prop} (hX : 1035 ≠ X) (ho : o ≠ 0) : Rq d m_L_law X 1035 [vR o, l1, l2, l3] st σ K ↔ Rq d m_L_law X 1036 [vR o, l1, l2, l3] (vR o :: st) σ K := k5 hX (show fnd (pgm m_L_law) 1035 = some (1036, 5, 0, 0, 0, []) from rfl) rfl ho
set_option maxRecDepth 100000 in
theorem l_1036 {d : Nat} {l0 l1 l2 : AV} {st : List AV} {x : Int} {σ : Sg} {X : Nat} {K : List AV → List AV → Sg → Prop} (hX : 1036 ≠ X)  : Rq d m_L_law X 1036 [l0, l1, l2, vI x] st σ K ↔ Rq d m_L_law X 1037 [l0, l1, l2, vI x] (vI x :: st) σ K := k3 hX (show fnd (pgm m_L_law) 1036 = some (1037, 3, 0, 3, 0, []) from rfl) rfl
set_option maxRecDepth 100000 in
theorem l_1037 {d : Nat} {l0 l1 l2 l3 : AV} {st : List AV} {σ : Sg} {X : Nat} {K : List AV → List AV → Sg → Prop} (hX : 1037 ≠ X)  : Rq d m_L_law X 1037 [l0, l1, l2, l3] st σ K ↔ Rq d m_L_law X 1038 [l0, l1, l2, l3] (vI 1 :: st) σ K := k0 hX (show fnd (pgm m_L_law) 1037 = some (1038, 0, 1, 0, 0, []) from rfl)
set_option maxRecDepth 100000 in
theorem l_1038 {d : Nat} {l0 l1 l2 l3 : AV} {st : List AV} {a b : Int} {σ : Sg} {X : Nat} {K : List AV → List AV → Sg → Prop} (hX : 1038 ≠ X)  : Rq d m_L_law X 1038 [l0, l1, l2, l3] (vI b :: vI a :: st) σ K ↔ Rq d m_L_law X 1039 [l0, l1, l2, l3] (vI (a + b) :: st) σ K := k10_0 hX (show fnd (pgm m_L_law) 1038 = some (1039, 10, 0, 0, 0, []) from rfl)
set_option maxRecDepth 100000 in
theorem l_1039 {d : Nat} {l0 l1 l2 l3 : AV} {st : List AV} {i : Int} {σ : Sg} {X : Nat} {K : List AV → List AV → Sg → Prop} (hX : 1039 ≠ X) (hi : 0 ≤ w32 i ∧ w32 i < σ 999 (-1)) : Rq d m_L_law X 1039 [l0, l1, l2, l3] (vI i :: vR 999 :: st) σ K ↔ Rq d m_L_law X 1040 [l0, l1, l2, l3] (vI (σ 999 (w32 i)) :: st) σ K := k41 hX (show fnd (pgm m_L_law) 1039 = some (1040, 41, 0, 0, 0, []) from rfl) hi
set_option maxRecDepth 100000 in
theorem l_1040 {d : Nat} {l1 l2 l3 : AV} {st : List AV} {o : Nat} {σ : Sg} {X : Nat} {K : List AV → List AV → Sg → Prop} (hX : 1040 ≠ X) (ho : o ≠ 0) : Rq d m_L_law X 1040 [vR o, l1, l2, l3] st σ K ↔ Rq d m_L_law X 1041 [vR o, l1, l2, l3] (vR o :: st) σ K := k5 hX (show fnd (pgm m_L_law) 1040 = some (1041, 5, 0, 0, 0, []) from rfl) rfl ho
set_option maxRecDepth 100000 in
theorem l_1041 {d : Nat} {l0 l1 l2 : AV} {st : List AV} {x : Int} {σ : Sg} {X : Nat} {K : List AV → List AV → Sg → Prop} (hX : 1041 ≠ X)  : Rq d m_L_law X 1041 [l0, l1, l2, vI x] st σ K ↔ Rq d m_L_law X 1042 [l0, l1, l2, vI x] (vI x :: st) σ K := k3 hX (show fnd (pgm m_L_law) 1041 = some (1042, 3, 0, 3, 0, []) from rfl) rfl
set_option maxRecDepth 100000 in
theorem l_1042 {d : Nat} {l0 l1 l2 l3 : AV} {st : List AV} {σ : Sg} {X : Nat} {K : List AV → List AV → Sg → Prop} (hX : 1042 ≠ X)  : Rq d m_L_law X 1042 [l0, l1, l2, l3] st σ K ↔ Rq d m_L_law X 1043 [l0, l1, l2, l3] (vI 2 :: st) σ K := k0 hX (show fnd (pgm m_L_law) 1042 = some (1043, 0, 2, 0, 0, []) from rfl)
set_option maxRecDepth 100000 in
theorem l_1043 {d : Nat} {l0 l1 l2 l3 : AV} {st : List AV} {a b : Int} {σ : Sg} {X : Nat} {K : List AV → List AV → Sg → Prop} (hX : 1043 ≠ X)  : Rq d m_L_law X 1043 [l0, l1, l2, l3] (vI b :: vI a :: st) σ K ↔ Rq d m_L_law X 1044 [l0, l1, l2, l3] (vI (a + b) :: st) σ K := k10_0 hX (show fnd (pgm m_L_law) 1043 = some (1044, 10, 0, 0, 0, []) from rfl)
set_option maxRecDepth 100000 in
theorem l_1044 {d : Nat} {l0 l1 l2 l3 : AV} {st : List AV} {i : Int} {σ : Sg} {X : Nat} {K : List AV → List AV → Sg → Prop} (hX : 1044 ≠ X) (hi : 0 ≤ w32 i ∧ w32 i < σ 999 (-1)) : Rq d m_L_law X 1044 [l0, l1, l2, l3] (vI i :: vR 999 :: st) σ K ↔ Rq d m_L_law X 1045 [l0, l1, l2, l3] (vI (σ 999 (w32 i)) :: st) σ K := k41 hX (show fnd (pgm m_L_law) 1044 = some (1045, 41, 0, 0, 0, []) from rfl) hi
set_option maxRecDepth 100000 in
theorem l_1045 {d : Nat} {l0 l1 l2 l3 : AV} {st : List AV} {o : Nat} {a0 : Int} {a1 : Int} {σ : Sg} {X : Nat} {K : List AV → List AV → Sg → Prop} (hX : 1045 ≠ X) (h4 : st.length ≤ 4) (hk : kn σ o = (0, 6)) : Rq d m_L_law X 1045 [l0, l1, l2, l3] (vI a1 :: vI a0 :: vR o :: st) σ K ↔ ∃ r σ1, Ev d m_X6_seeds [vR o, vI a0, vI a1] σ r σ1 ∧ Rq d m_L_law X 1048 [l0, l1, l2, l3] (psh r st) σ1 K := k35 hX (show fnd (pgm m_L_law) 1045 = some (1048, 35, 112, 151, 3, []) from rfl) ⟨⟨by simp, by simpa using h4⟩, (by simp only [List.take, List.reverse, List.reverseAux, rcv]; rw [if_neg (by decide +kernel)]; exact decide_eq_true hk)⟩
set_option maxRecDepth 100000 in
theorem l_1048 {d : Nat} {l0 l1 l2 l3 : AV} {st : List AV} {a b : Int} {σ : Sg} {X : Nat} {K : List AV → List AV → Sg → Prop} (hX : 1048 ≠ X)  : Rq d m_L_law X 1048 [l0, l1, l2, l3] (vI b :: vI a :: st) σ K ↔ if w32 a = w32 b then Rq d m_L_law X 1364 [l0, l1, l2, l3] st σ K else Rq d m_L_law X 1051 [l0, l1, l2, l3] st σ K := k20_0 hX (show fnd (pgm m_L_law) 1048 = some (1051, 20, 0, 0, 1364, []) from rfl)
set_option maxRecDepth 100000 in
theorem l_1051 {d : Nat} {l0 l1 l2 l3 : AV} {st : List AV} {σ : Sg} {X : Nat} {K : List AV → List AV → Sg → Prop} (hX : 1051 ≠ X)  : Rq d m_L_law X 1051 [l0, l1, l2, l3] st σ K ↔ Rq d m_L_law X 1052 [l0, l1, l2, l3] (vI 0 :: st) σ K := k0 hX (show fnd (pgm m_L_law) 1051 = some (1052, 0, 0, 0, 0, []) from rfl)
set_option maxRecDepth 100000 in
theorem l_1053 {d : Nat} {l0 l2 l3 : AV} {st : List AV} {o : Nat} {σ : Sg} {X : Nat} {K : List AV → List AV → Sg → Prop} (hX : 1053 ≠ X) (ho : o ≠ 0) : Rq d m_L_law X 1053 [l0, vR o, l2, l3] st σ K ↔ Rq d m_L_law X 1054 [l0, vR o, l2, l3] (vR o :: st) σ K := k5 hX (show fnd (pgm m_L_law) 1053 = some (1054, 5, 0, 1, 0, []) from rfl) rfl ho
set_option maxRecDepth 100000 in
theorem l_1054 {d : Nat} {l1 l2 l3 : AV} {st : List AV} {o : Nat} {σ : Sg} {X : Nat} {K : List AV → List AV → Sg → Prop} (hX : 1054 ≠ X) (ho : o ≠ 0) : Rq d m_L_law X 1054 [vR o, l1, l2, l3] st σ K ↔ Rq d m_L_law X 1055 [vR o, l1, l2, l3] (vR o :: st) σ K := k5 hX (show fnd (pgm m_L_law) 1054 = some (1055, 5, 0, 0, 0, []) from rfl) rfl ho
set_option maxRecDepth 100000 in
theorem l_1055 {d : Nat} {l0 l1 l2 : AV} {st : List AV} {x : Int} {σ : Sg} {X : Nat} {K : List AV → List AV → Sg → Prop} (hX : 1055 ≠ X)  : Rq d m_L_law X 1055 [l0, l1, l2, vI x] st σ K ↔ Rq d m_L_law X 1056 [l0, l1, l2, vI x] (vI x :: st) σ K := k3 hX (show fnd (pgm m_L_law) 1055 = some (1056, 3, 0, 3, 0, []) from rfl) rfl
set_option maxRecDepth 100000 in
theorem l_1056 {d : Nat} {l0 l1 l2 l3 : AV} {st : List AV} {σ : Sg} {X : Nat} {K : List AV → List AV → Sg → Prop} (hX : 1056 ≠ X)  : Rq d m_L_law X 1056 [l0, l1, l2, l3] st σ K ↔ Rq d m_L_law X 1057 [l0, l1, l2, l3] (vI 1 :: st) σ K := k0 hX (show fnd (pgm m_L_law) 1056 = some (1057, 0, 1, 0, 0, []) from rfl)
set_option maxRecDepth 100000 in
theorem l_1057 {d : Nat} {l0 l1 l2 l3 : AV} {st : List AV} {a b : Int} {σ : Sg} {X : Nat} {K : List AV → List AV → Sg → Prop} (hX : 1057 ≠ X)  : Rq d m_L_law X 1057 [l0, l1, l2, l3] (vI b :: vI a :: st) σ K ↔ Rq d m_L_law X 1058 [l0, l1, l2, l3] (vI (a + b) :: st) σ K := k10_0 hX (show fnd (pgm m_L_law) 1057 = some (1058, 10, 0, 0, 0, []) from rfl)
set_option maxRecDepth 100000 in
theorem l_1058 {d : Nat} {l0 l1 l2 l3 : AV} {st : List AV} {i : Int} {σ : Sg} {X : Nat} {K : List AV → List AV → Sg → Prop} (hX : 1058 ≠ X) (hi : 0 ≤ w32 i ∧ w32 i < σ 999 (-1)) : Rq d m_L_law X 1058 [l0, l1, l2, l3] (vI i :: vR 999 :: st) σ K ↔ Rq d m_L_law X 1059 [l0, l1, l2, l3] (vI (σ 999 (w32 i)) :: st) σ K := k41 hX (show fnd (pgm m_L_law) 1058 = some (1059, 41, 0, 0, 0, []) from rfl) hi
set_option maxRecDepth 100000 in
theorem l_1059 {d : Nat} {l0 l1 l2 l3 : AV} {st : List AV} {a : Int} {σ : Sg} {X : Nat} {K : List AV → List AV → Sg → Prop} (hX : 1059 ≠ X)  : Rq d m_L_law X 1059 [l0, l1, l2, l3] (vI a :: st) σ K ↔ Rq d m_L_law X 1060 [l0, l1, l2, l3] (vL (w32 a) :: st) σ K := k14 hX (show fnd (pgm m_L_law) 1059 = some (1060, 14, 0, 0, 0, []) from rfl)
set_option maxRecDepth 100000 in
theorem l_1060 {d : Nat} {l0 l1 l2 l3 : AV} {st : List AV} {σ : Sg} {X : Nat} {K : List AV → List AV → Sg → Prop} (hX : 1060 ≠ X)  : Rq d m_L_law X 1060 [l0, l1, l2, l3] st σ K ↔ Rq d m_L_law X 1062 [l0, l1, l2, l3] (vI 32 :: st) σ K := k0 hX (show fnd (pgm m_L_law) 1060 = some (1062, 0, 32, 1, 0, []) from rfl)
set_option maxRecDepth 100000 in
theorem l_1062 {d : Nat} {l0 l1 l2 l3 : AV} {st : List AV} {a b : Int} {σ : Sg} {X : Nat} {K : List AV → List AV → Sg → Prop} (hX : 1062 ≠ X)  : Rq d m_L_law X 1062 [l0, l1, l2, l3] (vI b :: vL a :: st) σ K ↔ Rq d m_L_law X 1063 [l0, l1, l2, l3] (vL (shl64 a b) :: st) σ K := k12_0 hX (show fnd (pgm m_L_law) 1062 = some (1063, 12, 0, 0, 0, []) from rfl)
set_option maxRecDepth 100000 in
theorem l_1063 {d : Nat} {l1 l2 l3 : AV} {st : List AV} {o : Nat} {σ : Sg} {X : Nat} {K : List AV → List AV → Sg → Prop} (hX : 1063 ≠ X) (ho : o ≠ 0) : Rq d m_L_law X 1063 [vR o, l1, l2, l3] st σ K ↔ Rq d m_L_law X 1064 [vR o, l1, l2, l3] (vR o :: st) σ K := k5 hX (show fnd (pgm m_L_law) 1063 = some (1064, 5, 0, 0, 0, []) from rfl) rfl ho
set_option maxRecDepth 100000 in
theorem l_1064 {d : Nat} {l0 l1 l2 : AV} {st : List AV} {x : Int} {σ : Sg} {X : Nat} {K : List AV → List AV → Sg → Prop} (hX : 1064 ≠ X)  : Rq d m_L_law X 1064 [l0, l1, l2, vI x] st σ K ↔ Rq d m_L_law X 1065 [l0, l1, l2, vI x] (vI x :: st) σ K := k3 hX (show fnd (pgm m_L_law) 1064 = some (1065, 3, 0, 3, 0, []) from rfl) rfl
set_option maxRecDepth 100000 in
theorem l_1065 {d : Nat} {l0 l1 l2 l3 : AV} {st : List AV} {σ : Sg} {X : Nat} {K : List AV → List AV → Sg → Prop} (hX : 1065 ≠ X)  : Rq d m_L_law X 1065 [l0, l1, l2, l3] st σ K ↔ Rq d m_L_law X 1066 [l0, l1, l2, l3] (vI 2 :: st) σ K := k0 hX (show fnd (pgm m_L_law) 1065 = some (1066, 0, 2, 0, 0, []) from rfl)
set_option maxRecDepth 100000 in
theorem l_1066 {d : Nat} {l0 l1 l2 l3 : AV} {st : List AV} {a b : Int} {σ : Sg} {X : Nat} {K : List AV → List AV → Sg → Prop} (hX : 1066 ≠ X)  : Rq d m_L_law X 1066 [l0, l1, l2, l3] (vI b :: vI a :: st) σ K ↔ Rq d m_L_law X 1067 [l0, l1, l2, l3] (vI (a + b) :: st) σ K := k10_0 hX (show fnd (pgm m_L_law) 1066 = some (1067, 10, 0, 0, 0, []) from rfl)
set_option maxRecDepth 100000 in
theorem l_1067 {d : Nat} {l0 l1 l2 l3 : AV} {st : List AV} {i : Int} {σ : Sg} {X : Nat} {K : List AV → List AV → Sg → Prop} (hX : 1067 ≠ X) (hi : 0 ≤ w32 i ∧ w32 i < σ 999 (-1)) : Rq d m_L_law X 1067 [l0, l1, l2, l3] (vI i :: vR 999 :: st) σ K ↔ Rq d m_L_law X 1068 [l0, l1, l2, l3] (vI (σ 999 (w32 i)) :: st) σ K := k41 hX (show fnd (pgm m_L_law) 1067 = some (1068, 41, 0, 0, 0, []) from rfl) hi
set_option maxRecDepth 100000 in
theorem l_1068 {d : Nat} {l0 l1 l2 l3 : AV} {st : List AV} {a : Int} {σ : Sg} {X : Nat} {K : List AV → List AV → Sg → Prop} (hX : 1068 ≠ X)  : Rq d m_L_law X 1068 [l0, l1, l2, l3] (vI a :: st) σ K ↔ Rq d m_L_law X 1069 [l0, l1, l2, l3] (vL (w32 a) :: st) σ K := k14 hX (show fnd (pgm m_L_law) 1068 = some (1069, 14, 0, 0, 0, []) from rfl)
set_option maxRecDepth 100000 in
theorem l_1069 {d : Nat} {l0 l1 l2 l3 : AV} {st : List AV} {σ : Sg} {X : Nat} {K : List AV → List AV → Sg → Prop} (hX : 1069 ≠ X)  : Rq d m_L_law X 1069 [l0, l1, l2, l3] st σ K ↔ Rq d m_L_law X 1072 [l0, l1, l2, l3] (vL 4294967295 :: st) σ K := k1 hX (show fnd (pgm m_L_law) 1069 = some (1072, 1, 4294967295, 1, 113, []) from rfl)
set_option maxRecDepth 100000 in
theorem l_1072 {d : Nat} {l0 l1 l2 l3 : AV} {st : List AV} {a b : Int} {σ : Sg} {X : Nat} {K : List AV → List AV → Sg → Prop} (hX : 1072 ≠ X)  : Rq d m_L_law X 1072 [l0, l1, l2, l3] (vL b :: vL a :: st) σ K ↔ Rq d m_L_law X 1073 [l0, l1, l2, l3] (vL (and64 a b) :: st) σ K := k11_5 hX (show fnd (pgm m_L_law) 1072 = some (1073, 11, 0, 5, 0, []) from rfl)
set_option maxRecDepth 100000 in
theorem l_1073 {d : Nat} {l0 l1 l2 l3 : AV} {st : List AV} {a b : Int} {σ : Sg} {X : Nat} {K : List AV → List AV → Sg → Prop} (hX : 1073 ≠ X)  : Rq d m_L_law X 1073 [l0, l1, l2, l3] (vL b :: vL a :: st) σ K ↔ Rq d m_L_law X 1074 [l0, l1, l2, l3] (vL (or64 a b) :: st) σ K := k11_6 hX (show fnd (pgm m_L_law) 1073 = some (1074, 11, 0, 6, 0, []) from rfl)
set_option maxRecDepth 100000 in
theorem l_1074 {d : Nat} {l1 l2 l3 : AV} {st : List AV} {o : Nat} {σ : Sg} {X : Nat} {K : List AV → List AV → Sg → Prop} (hX : 1074 ≠ X) (ho : o ≠ 0) : Rq d m_L_law X 1074 [vR o, l1, l2, l3] st σ K ↔ Rq d m_L_law X 1075 [vR o, l1, l2, l3] (vR o :: st) σ K := k5 hX (show fnd (pgm m_L_law) 1074 = some (1075, 5, 0, 0, 0, []) from rfl) rfl ho
set_option maxRecDepth 100000 in
theorem l_1075 {d : Nat} {l0 l1 l2 : AV} {st : List AV} {x : Int} {σ : Sg} {X : Nat} {K : List AV → List AV → Sg → Prop} (hX : 1075 ≠ X)  : Rq d m_L_law X 1075 [l0, l1, l2, vI x] st σ K ↔ Rq d m_L_law X 1076 [l0, l1, l2, vI x] (vI x :: st) σ K := k3 hX (show fnd (pgm m_L_law) 1075 = some (1076, 3, 0, 3, 0, []) from rfl) rfl
set_option maxRecDepth 100000 in
theorem l_1076 {d : Nat} {l0 l1 l2 l3 : AV} {st : List AV} {σ : Sg} {X : Nat} {K : List AV → List AV → Sg → Prop} (hX : 1076 ≠ X)  : Rq d m_L_law X 1076 [l0, l1, l2, l3] st σ K ↔ Rq d m_L_law X 1077 [l0, l1, l2, l3] (vI 3 :: st) σ K := k0 hX (show fnd (pgm m_L_law) 1076 = some (1077, 0, 3, 0, 0, []) from rfl)
set_option maxRecDepth 100000 in
theorem l_1077 {d : Nat} {l0 l1 l2 l3 : AV} {st : List AV} {a b : Int} {σ : Sg} {X : Nat} {K : List AV → List AV → Sg → Prop} (hX : 1077 ≠ X)  : Rq d m_L_law X 1077 [l0, l1, l2, l3] (vI b :: vI a :: st) σ K ↔ Rq d m_L_law X 1078 [l0, l1, l2, l3] (vI (a + b) :: st) σ K := k10_0 hX (show fnd (pgm m_L_law) 1077 = some (1078, 10, 0, 0, 0, []) from rfl)
set_option maxRecDepth 100000 in
theorem l_1078 {d : Nat} {l0 l1 l2 l3 : AV} {st : List AV} {i : Int} {σ : Sg} {X : Nat} {K : List AV → List AV → Sg → Prop} (hX : 1078 ≠ X) (hi : 0 ≤ w32 i ∧ w32 i < σ 999 (-1)) : Rq d m_L_law X 1078 [l0, l1, l2, l3] (vI i :: vR 999 :: st) σ K ↔ Rq d m_L_law X 1079 [l0, l1, l2, l3] (vI (σ 999 (w32 i)) :: st) σ K := k41 hX (show fnd (pgm m_L_law) 1078 = some (1079, 41, 0, 0, 0, []) from rfl) hi
set_option maxRecDepth 100000 in
theorem l_1079 {d : Nat} {l0 l1 l2 l3 : AV} {st : List AV} {o : Nat} {a0 : Int} {a1 : Int} {σ : Sg} {X : Nat} {K : List AV → List AV → Sg → Prop} (hX : 1079 ≠ X) (h4 : st.length ≤ 4) (hk : kn σ o = (0, 5)) : Rq d m_L_law X 1079 [l0, l1, l2, l3] (vI a1 :: vL a0 :: vR o :: st) σ K ↔ ∃ r σ1, Ev d m_X5_type [vR o, vL a0, vI a1] σ r σ1 ∧ Rq d m_L_law X 1082 [l0, l1, l2, l3] (psh r st) σ1 K := k35 hX (show fnd (pgm m_L_law) 1079 = some (1082, 35, 115, 76, 3, []) from rfl) ⟨⟨by simp, by simpa using h4⟩, (by simp only [List.take, List.reverse, List.reverseAux, rcv]; rw [if_neg (by decide +kernel)]; exact decide_eq_true hk)⟩
set_option maxRecDepth 100000 in
theorem l_1082 {d : Nat} {l0 l1 l3 : AV} {st : List AV} {o : Nat} {σ : Sg} {X : Nat} {K : List AV → List AV → Sg → Prop} (hX : 1082 ≠ X) (ho : o ≠ 0) : Rq d m_L_law X 1082 [l0, l1, vR o, l3] st σ K ↔ Rq d m_L_law X 1083 [l0, l1, vR o, l3] (vR o :: st) σ K := k5 hX (show fnd (pgm m_L_law) 1082 = some (1083, 5, 0, 2, 0, []) from rfl) rfl ho
set_option maxRecDepth 100000 in
theorem l_1083 {d : Nat} {l1 l2 l3 : AV} {st : List AV} {o : Nat} {σ : Sg} {X : Nat} {K : List AV → List AV → Sg → Prop} (hX : 1083 ≠ X) (ho : o ≠ 0) : Rq d m_L_law X 1083 [vR o, l1, l2, l3] st σ K ↔ Rq d m_L_law X 1084 [vR o, l1, l2, l3] (vR o :: st) σ K := k5 hX (show fnd (pgm m_L_law) 1083 = some (1084, 5, 0, 0, 0, []) from rfl) rfl ho
set_option maxRecDepth 100000 in
theorem l_1084 {d : Nat} {l0 l1 l2 : AV} {st : List AV} {x : Int} {σ : Sg} {X : Nat} {K : List AV → List AV → Sg → Prop} (hX : 1084 ≠ X)  : Rq d m_L_law X 1084 [l0, l1, l2, vI x] st σ K ↔ Rq d m_L_law X 1085 [l0, l1, l2, vI x] (vI x :: st) σ K := k3 hX (show fnd (pgm m_L_law) 1084 = some (1085, 3, 0, 3, 0, []) from rfl) rfl
set_option maxRecDepth 100000 in
theorem l_1085 {d : Nat} {l0 l1 l2 l3 : AV} {st : List AV} {σ : Sg} {X : Nat} {K : List AV → List AV → Sg → Prop} (hX : 1085 ≠ X)  : Rq d m_L_law X 1085 [l0, l1, l2, l3] st σ K ↔ Rq d m_L_law X 1086 [l0, l1, l2, l3] (vI 1 :: st) σ K := k0 hX (show fnd (pgm m_L_law) 1085 = some (1086, 0, 1, 0, 0, []) from rfl)
set_option maxRecDepth 100000 in
theorem l_1086 {d : Nat} {l0 l1 l2 l3 : AV} {st : List AV} {a b : Int} {σ : Sg} {X : Nat} {K : List AV → List AV → Sg → Prop} (hX : 1086 ≠ X)  : Rq d m_L_law X 1086 [l0, l1, l2, l3] (vI b :: vI a :: st) σ K ↔ Rq d m_L_law X 1087 [l0, l1, l2, l3] (vI (a + b) :: st) σ K := k10_0 hX (show fnd (pgm m_L_law) 1086 = some (1087, 10, 0, 0, 0, []) from rfl)
set_option maxRecDepth 100000 in
theorem l_1087 {d : Nat} {l0 l1 l2 l3 : AV} {st : List AV} {i : Int} {σ : Sg} {X : Nat} {K : List AV → List AV → Sg → Prop} (hX : 1087 ≠ X) (hi : 0 ≤ w32 i ∧ w32 i < σ 999 (-1)) : Rq d m_L_law X 1087 [l0, l1, l2, l3] (vI i :: vR 999 :: st) σ K ↔ Rq d m_L_law X 1088 [l0, l1, l2, l3] (vI (σ 999 (w32 i)) :: st) σ K := k41 hX (show fnd (pgm m_L_law) 1087 = some (1088, 41, 0, 0, 0, []) from rfl) hi
set_option maxRecDepth 100000 in
theorem l_1088 {d : Nat} {l0 l1 l2 l3 : AV} {st : List AV} {a : Int} {σ : Sg} {X : Nat} {K : List AV → List AV → Sg → Prop} (hX : 1088 ≠ X)  : Rq d m_L_law X 1088 [l0, l1, l2, l3] (vI a :: st) σ K ↔ Rq d m_L_law X 1089 [l0, l1, l2, l3] (vL (w32 a) :: st) σ K := k14 hX (show fnd (pgm m_L_law) 1088 = some (1089, 14, 0, 0, 0, []) from rfl)
set_option maxRecDepth 100000 in
theorem l_1089 {d : Nat} {l0 l1 l2 l3 : AV} {st : List AV} {σ : Sg} {X : Nat} {K : List AV → List AV → Sg → Prop} (hX : 1089 ≠ X)  : Rq d m_L_law X 1089 [l0, l1, l2, l3] st σ K ↔ Rq d m_L_law X 1091 [l0, l1, l2, l3] (vI 32 :: st) σ K := k0 hX (show fnd (pgm m_L_law) 1089 = some (1091, 0, 32, 1, 0, []) from rfl)
set_option maxRecDepth 100000 in
theorem l_1091 {d : Nat} {l0 l1 l2 l3 : AV} {st : List AV} {a b : Int} {σ : Sg} {X : Nat} {K : List AV → List AV → Sg → Prop} (hX : 1091 ≠ X)  : Rq d m_L_law X 1091 [l0, l1, l2, l3] (vI b :: vL a :: st) σ K ↔ Rq d m_L_law X 1092 [l0, l1, l2, l3] (vL (shl64 a b) :: st) σ K := k12_0 hX (show fnd (pgm m_L_law) 1091 = some (1092, 12, 0, 0, 0, []) from rfl)
set_option maxRecDepth 100000 in
theorem l_1092 {d : Nat} {l1 l2 l3 : AV} {st : List AV} {o : Nat} {σ : Sg} {X : Nat} {K : List AV → List AV → Sg → Prop} (hX : 1092 ≠ X) (ho : o ≠ 0) : Rq d m_L_law X 1092 [vR o, l1, l2, l3] st σ K ↔ Rq d m_L_law X 1093 [vR o, l1, l2, l3] (vR o :: st) σ K := k5 hX (show fnd (pgm m_L_law) 1092 = some (1093, 5, 0, 0, 0, []) from rfl) rfl ho
set_option maxRecDepth 100000 in
theorem l_1093 {d : Nat} {l0 l1 l2 : AV} {st : List AV} {x : Int} {σ : Sg} {X : Nat} {K : List AV → List AV → Sg → Prop} (hX : 1093 ≠ X)  : Rq d m_L_law X 1093 [l0, l1, l2, vI x] st σ K ↔ Rq d m_L_law X 1094 [l0, l1, l2, vI x] (vI x :: st) σ K := k3 hX (show fnd (pgm m_L_law) 1093 = some (1094, 3, 0, 3, 0, []) from rfl) rfl
set_option maxRecDepth 100000 in
theorem l_1094 {d : Nat} {l0 l1 l2 l3 : AV} {st : List AV} {σ : Sg} {X : Nat} {K : List AV → List AV → Sg → Prop} (hX : 1094 ≠ X)  : Rq d m_L_law X 1094 [l0, l1, l2, l3] st σ K ↔ Rq d m_L_law X 1095 [l0, l1, l2, l3] (vI 2 :: st) σ K := k0 hX (show fnd (pgm m_L_law) 1094 = some (1095, 0, 2, 0, 0, []) from rfl)
set_option maxRecDepth 100000 in
theorem l_1095 {d : Nat} {l0 l1 l2 l3 : AV} {st : List AV} {a b : Int} {σ : Sg} {X : Nat} {K : List AV → List AV → Sg → Prop} (hX : 1095 ≠ X)  : Rq d m_L_law X 1095 [l0, l1, l2, l3] (vI b :: vI a :: st) σ K ↔ Rq d m_L_law X 1096 [l0, l1, l2, l3] (vI (a + b) :: st) σ K := k10_0 hX (show fnd (pgm m_L_law) 1095 = some (1096, 10, 0, 0, 0, []) from rfl)
set_option maxRecDepth 100000 in
theorem l_1096 {d : Nat} {l0 l1 l2 l3 : AV} {st : List AV} {i : Int} {σ : Sg} {X : Nat} {K : List AV → List AV → Sg → Prop} (hX : 1096 ≠ X) (hi : 0 ≤ w32 i ∧ w32 i < σ 999 (-1)) : Rq d m_L_law X 1096 [l0, l1, l2, l3] (vI i :: vR 999 :: st) σ K ↔ Rq d m_L_law X 1097 [l0, l1, l2, l3] (vI (σ 999 (w32 i)) :: st) σ K := k41 hX (show fnd (pgm m_L_law) 1096 = some (1097, 41, 0, 0, 0, []) from rfl) hi
set_option maxRecDepth 100000 in
theorem l_1097 {d : Nat} {l0 l1 l2 l3 : AV} {st : List AV} {a : Int} {σ : Sg} {X : Nat} {K : List AV → List AV → Sg → Prop} (hX : 1097 ≠ X)  : Rq d m_L_law X 1097 [l0, l1, l2, l3] (vI a :: st) σ K ↔ Rq d m_L_law X 1098 [l0, l1, l2, l3] (vL (w32 a) :: st) σ K := k14 hX (show fnd (pgm m_L_law) 1097 = some (1098, 14, 0, 0, 0, []) from rfl)
set_option maxRecDepth 100000 in
theorem l_1098 {d : Nat} {l0 l1 l2 l3 : AV} {st : List AV} {σ : Sg} {X : Nat} {K : List AV → List AV → Sg → Prop} (hX : 1098 ≠ X)  : Rq d m_L_law X 1098 [l0, l1, l2, l3] st σ K ↔ Rq d m_L_law X 1101 [l0, l1, l2, l3] (vL 4294967295 :: st) σ K := k1 hX (show fnd (pgm m_L_law) 1098 = some (1101, 1, 4294967295, 1, 113, []) from rfl)
set_option maxRecDepth 100000 in
theorem l_1101 {d : Nat} {l0 l1 l2 l3 : AV} {st : List AV} {a b : Int} {σ : Sg} {X : Nat} {K : List AV → List AV → Sg → Prop} (hX : 1101 ≠ X)  : Rq d m_L_law X 1101 [l0, l1, l2, l3] (vL b :: vL a :: st) σ K ↔ Rq d m_L_law X 1102 [l0, l1, l2, l3] (vL (and64 a b) :: st) σ K := k11_5 hX (show fnd (pgm m_L_law) 1101 = some (1102, 11, 0, 5, 0, []) from rfl)
set_option maxRecDepth 100000 in
theorem l_1102 {d : Nat} {l0 l1 l2 l3 : AV} {st : List AV} {a b : Int} {σ : Sg} {X : Nat} {K : List AV → List AV → Sg → Prop} (hX : 1102 ≠ X)  : Rq d m_L_law X 1102 [l0, l1, l2, l3] (vL b :: vL a :: st) σ K ↔ Rq d m_L_law X 1103 [l0, l1, l2, l3] (vL (or64 a b) :: st) σ K := k11_6 hX (show fnd (pgm m_L_law) 1102 = some (1103, 11, 0, 6, 0, []) from rfl)
set_option maxRecDepth 100000 in
theorem l_1103 {d : Nat} {l1 l2 l3 : AV} {st : List AV} {o : Nat} {σ : Sg} {X : Nat} {K : List AV → List AV → Sg → Prop} (hX : 1103 ≠ X) (ho : o ≠ 0) : Rq d m_L_law X 1103 [vR o, l1, l2, l3] st σ K ↔ Rq d m_L_law X 1104 [vR o, l1, l2, l3] (vR o :: st) σ K := k5 hX (show fnd (pgm m_L_law) 1103 = some (1104, 5, 0, 0, 0, []) from rfl) rfl ho
set_option maxRecDepth 100000 in
theorem l_1104 {d : Nat} {l0 l1 l2 : AV} {st : List AV} {x : Int} {σ : Sg} {X : Nat} {K : List AV → List AV → Sg → Prop} (hX : 1104 ≠ X)  : Rq d m_L_law X 1104 [l0, l1, l2, vI x] st σ K ↔ Rq d m_L_law X 1105 [l0, l1, l2, vI x] (vI x :: st) σ K := k3 hX (show fnd (pgm m_L_law) 1104 = some (1105, 3, 0, 3, 0, []) from rfl) rfl
set_option maxRecDepth 100000 in
theorem l_1105 {d : Nat} {l0 l1 l2 l3 : AV} {st : List AV} {σ : Sg} {X : Nat} {K : List AV → List AV → Sg → Prop} (hX : 1105 ≠ X)  : Rq d m_L_law X 1105 [l0, l1, l2, l3] st σ K ↔ Rq d m_L_law X 1106 [l0, l1, l2, l3] (vI 3 :: st) σ K := k0 hX (show fnd (pgm m_L_law) 1105 = some (1106, 0, 3, 0, 0, []) from rfl)
set_option maxRecDepth 100000 in
theorem l_1106 {d : Nat} {l0 l1 l2 l3 : AV} {st : List AV} {a b : Int} {σ : Sg} {X : Nat} {K : List AV → List AV → Sg → Prop} (hX : 1106 ≠ X)  : Rq d m_L_law X 1106 [l0, l1, l2, l3] (vI b :: vI a :: st) σ K ↔ Rq d m_L_law X 1107 [l0, l1, l2, l3] (vI (a + b) :: st) σ K := k10_0 hX (show fnd (pgm m_L_law) 1106 = some (1107, 10, 0, 0, 0, []) from rfl)
set_option maxRecDepth 100000 in
theorem l_1107 {d : Nat} {l0 l1 l2 l3 : AV} {st : List AV} {i : Int} {σ : Sg} {X : Nat} {K : List AV → List AV → Sg → Prop} (hX : 1107 ≠ X) (hi : 0 ≤ w32 i ∧ w32 i < σ 999 (-1)) : Rq d m_L_law X 1107 [l0, l1, l2, l3] (vI i :: vR 999 :: st) σ K ↔ Rq d m_L_law X 1108 [l0, l1, l2, l3] (vI (σ 999 (w32 i)) :: st) σ K := k41 hX (show fnd (pgm m_L_law) 1107 = some (1108, 41, 0, 0, 0, []) from rfl) hi
set_option maxRecDepth 100000 in
theorem l_1108 {d : Nat} {l0 l1 l2 l3 : AV} {st : List AV} {o : Nat} {a0 : Int} {a1 : Int} {σ : Sg} {X : Nat} {K : List AV → List AV → Sg → Prop} (hX : 1108 ≠ X) (h4 : st.length ≤ 4) (hk : kn σ o = (0, 6)) : Rq d m_L_law X 1108 [l0, l1, l2, l3] (vI a1 :: vL a0 :: vR o :: st) σ K ↔ ∃ r σ1, Ev d m_X6_type [vR o, vL a0, vI a1] σ r σ1 ∧ Rq d m_L_law X 1111 [l0, l1, l2, l3] (psh r st) σ1 K := k35 hX (show fnd (pgm m_L_law) 1108 = some (1111, 35, 119, 152, 3, []) from rfl) ⟨⟨by simp, by simpa using h4⟩, (by simp only [List.take, List.reverse, List.reverseAux, rcv]; rw [if_neg (by decide +kernel)]; exact decide_eq_true hk)⟩
set_option maxRecDepth 100000 in
theorem l_1111 {d : Nat} {l0 l1 l2 l3 : AV} {st : List AV} {a b : Int} {σ : Sg} {X : Nat} {K : List AV → List AV → Sg → Prop} (hX : 1111 ≠ X)  : Rq d m_L_law X 1111 [l0, l1, l2, l3] (vI b :: vI a :: st) σ K ↔ if w32 a = w32 b then Rq d m_L_law X 1364 [l0, l1, l2, l3] st σ K else Rq d m_L_law X 1114 [l0, l1, l2, l3] st σ K := k20_0 hX (show fnd (pgm m_L_law) 1111 = some (1114, 20, 0, 0, 1364, []) from rfl)
set_option maxRecDepth 100000 in
theorem l_1114 {d : Nat} {l0 l1 l2 l3 : AV} {st : List AV} {σ : Sg} {X : Nat} {K : List AV → List AV → Sg → Prop} (hX : 1114 ≠ X)  : Rq d m_L_law X 1114 [l0, l1, l2, l3] st σ K ↔ Rq d m_L_law X 1115 [l0, l1, l2, l3] (vI 0 :: st) σ K := k0 hX (show fnd (pgm m_L_law) 1114 = some (1115, 0, 0, 0, 0, []) from rfl)
set_option maxRecDepth 100000 in
theorem l_1116 {d : Nat} {l0 l2 l3 : AV} {st : List AV} {o : Nat} {σ : Sg} {X : Nat} {K : List AV → List AV → Sg → Prop} (hX : 1116 ≠ X) (ho : o ≠ 0) : Rq d m_L_law X 1116 [l0, vR o, l2, l3] st σ K ↔ Rq d m_L_law X 1117 [l0, vR o, l2, l3] (vR o :: st) σ K := k5 hX (show fnd (pgm m_L_law) 1116 = some (1117, 5, 0, 1, 0, []) from rfl) rfl ho
set_option maxRecDepth 100000 in
theorem l_1117 {d : Nat} {l0 l1 l2 l3 : AV} {st : List AV} {o : Nat} {σ : Sg} {X : Nat} {K : List AV → List AV → Sg → Prop} (hX : 1117 ≠ X) (h4 : st.length ≤ 4) (hk : kn σ o = (0, 5)) : Rq d m_L_law X 1117 [l0, l1, l2, l3] (vR o :: st) σ K ↔ ∃ r σ1, Ev d m_X5_clear [vR o] σ r σ1 ∧ Rq d m_L_law X 1120 [l0, l1, l2, l3] (psh r st) σ1 K := k35 hX (show fnd (pgm m_L_law) 1117 = some (1120, 35, 120, 77, 1, []) from rfl) ⟨⟨by simp, by simpa using h4⟩, (by simp only [List.take, List.reverse, List.reverseAux, rcv]; rw [if_neg (by decide +kernel)]; exact decide_eq_true hk)⟩
set_option maxRecDepth 100000 in
theorem l_1120 {d : Nat} {l0 l1 l3 : AV} {st : List AV} {o : Nat} {σ : Sg} {X : Nat} {K : List AV → List AV → Sg → Prop} (hX : 1120 ≠ X) (ho : o ≠ 0) : Rq d m_L_law X 1120 [l0, l1, vR o, l3] st σ K ↔ Rq d m_L_law X 1121 [l0, l1, vR o, l3] (vR o :: st) σ K := k5 hX (show fnd (pgm m_L_law) 1120 = some (1121, 5, 0, 2, 0, []) from rfl) rfl ho
set_option maxRecDepth 100000 in
theorem l_1121 {d : Nat} {l0 l1 l2 l3 : AV} {st : List AV} {o : Nat} {σ : Sg} {X : Nat} {K : List AV → List AV → Sg → Prop} (hX : 1121 ≠ X) (h4 : st.length ≤ 4) (hk : kn σ o = (0, 6)) : Rq d m_L_law X 1121 [l0, l1, l2, l3] (vR o :: st) σ K ↔ ∃ r σ1, Ev d m_X6_clear [vR o] σ r σ1 ∧ Rq d m_L_law X 1124 [l0, l1, l2, l3] (psh r st) σ1 K := k35 hX (show fnd (pgm m_L_law) 1121 = some (1124, 35, 123, 153, 1, []) from rfl) ⟨⟨by simp, by simpa using h4⟩, (by simp only [List.take, List.reverse, List.reverseAux, rcv]; rw [if_neg (by decide +kernel)]; exact decide_eq_true hk)⟩
set_option maxRecDepth 100000 in
theorem l_1124 {d : Nat} {l0 l1 l2 l3 : AV} {st : List AV} {a b : Int} {σ : Sg} {X : Nat} {K : List AV → List AV → Sg → Prop} (hX : 1124 ≠ X)  : Rq d m_L_law X 1124 [l0, l1, l2, l3] (vI b :: vI a :: st) σ K ↔ if w32 a = w32 b then Rq d m_L_law X 1364 [l0, l1, l2, l3] st σ K else Rq d m_L_law X 1127 [l0, l1, l2, l3] st σ K := k20_0 hX (show fnd (pgm m_L_law) 1124 = some (1127, 20, 0, 0, 1364, []) from rfl)
set_option maxRecDepth 100000 in
theorem l_1127 {d : Nat} {l0 l1 l2 l3 : AV} {st : List AV} {σ : Sg} {X : Nat} {K : List AV → List AV → Sg → Prop} (hX : 1127 ≠ X)  : Rq d m_L_law X 1127 [l0, l1, l2, l3] st σ K ↔ Rq d m_L_law X 1128 [l0, l1, l2, l3] (vI 0 :: st) σ K := k0 hX (show fnd (pgm m_L_law) 1127 = some (1128, 0, 0, 0, 0, []) from rfl)
set_option maxRecDepth 100000 in
theorem l_1129 {d : Nat} {l0 l2 l3 : AV} {st : List AV} {o : Nat} {σ : Sg} {X : Nat} {K : List AV → List AV → Sg → Prop} (hX : 1129 ≠ X) (ho : o ≠ 0) : Rq d m_L_law X 1129 [l0, vR o, l2, l3] st σ K ↔ Rq d m_L_law X 1130 [l0, vR o, l2, l3] (vR o :: st) σ K := k5 hX (show fnd (pgm m_L_law) 1129 = some (1130, 5, 0, 1, 0, []) from rfl) rfl ho
set_option maxRecDepth 100000 in
theorem l_1130 {d : Nat} {l0 l1 l2 l3 : AV} {st : List AV} {o : Nat} {σ : Sg} {X : Nat} {K : List AV → List AV → Sg → Prop} (hX : 1130 ≠ X) (h4 : st.length ≤ 4) (hk : kn σ o = (0, 5)) : Rq d m_L_law X 1130 [l0, l1, l2, l3] (vR o :: st) σ K ↔ ∃ r σ1, Ev d m_X5_fault [vR o] σ r σ1 ∧ Rq d m_L_law X 1133 [l0, l1, l2, l3] (psh r st) σ1 K := k35 hX (show fnd (pgm m_L_law) 1130 = some (1133, 35, 124, 78, 1, []) from rfl) ⟨⟨by simp, by simpa using h4⟩, (by simp only [List.take, List.reverse, List.reverseAux, rcv]; rw [if_neg (by decide +kernel)]; exact decide_eq_true hk)⟩
set_option maxRecDepth 100000 in
theorem l_1133 {d : Nat} {l0 l1 l3 : AV} {st : List AV} {o : Nat} {σ : Sg} {X : Nat} {K : List AV → List AV → Sg → Prop} (hX : 1133 ≠ X) (ho : o ≠ 0) : Rq d m_L_law X 1133 [l0, l1, vR o, l3] st σ K ↔ Rq d m_L_law X 1134 [l0, l1, vR o, l3] (vR o :: st) σ K := k5 hX (show fnd (pgm m_L_law) 1133 = some (1134, 5, 0, 2, 0, []) from rfl) rfl ho
set_option maxRecDepth 100000 in
theorem l_1134 {d : Nat} {l0 l1 l2 l3 : AV} {st : List AV} {o : Nat} {σ : Sg} {X : Nat} {K : List AV → List AV → Sg → Prop} (hX : 1134 ≠ X) (h4 : st.length ≤ 4) (hk : kn σ o = (0, 6)) : Rq d m_L_law X 1134 [l0, l1, l2, l3] (vR o :: st) σ K ↔ ∃ r σ1, Ev d m_X6_fault [vR o] σ r σ1 ∧ Rq d m_L_law X 1137 [l0, l1, l2, l3] (psh r st) σ1 K := k35 hX (show fnd (pgm m_L_law) 1134 = some (1137, 35, 127, 159, 1, []) from rfl) ⟨⟨by simp, by simpa using h4⟩, (by simp only [List.take, List.reverse, List.reverseAux, rcv]; rw [if_neg (by decide +kernel)]; exact decide_eq_true hk)⟩
set_option maxRecDepth 100000 in
theorem l_1137 {d : Nat} {l0 l1 l2 l3 : AV} {st : List AV} {a b : Int} {σ : Sg} {X : Nat} {K : List AV → List AV → Sg → Prop} (hX : 1137 ≠ X)  : Rq d m_L_law X 1137 [l0, l1, l2, l3] (vI b :: vI a :: st) σ K ↔ if w32 a = w32 b then Rq d m_L_law X 1364 [l0, l1, l2, l3] st σ K else Rq d m_L_law X 1140 [l0, l1, l2, l3] st σ K := k20_0 hX (show fnd (pgm m_L_law) 1137 = some (1140, 20, 0, 0, 1364, []) from rfl)
set_option maxRecDepth 100000 in
theorem l_1140 {d : Nat} {l0 l1 l2 l3 : AV} {st : List AV} {σ : Sg} {X : Nat} {K : List AV → List AV → Sg → Prop} (hX : 1140 ≠ X)  : Rq d m_L_law X 1140 [l0, l1, l2, l3] st σ K ↔ Rq d m_L_law X 1141 [l0, l1, l2, l3] (vI 0 :: st) σ K := k0 hX (show fnd (pgm m_L_law) 1140 = some (1141, 0, 0, 0, 0, []) from rfl)
set_option maxRecDepth 100000 in
theorem l_1142 {d : Nat} {l0 l2 l3 : AV} {st : List AV} {o : Nat} {σ : Sg} {X : Nat} {K : List AV → List AV → Sg → Prop} (hX : 1142 ≠ X) (ho : o ≠ 0) : Rq d m_L_law X 1142 [l0, vR o, l2, l3] st σ K ↔ Rq d m_L_law X 1143 [l0, vR o, l2, l3] (vR o :: st) σ K := k5 hX (show fnd (pgm m_L_law) 1142 = some (1143, 5, 0, 1, 0, []) from rfl) rfl ho
set_option maxRecDepth 100000 in
theorem l_1143 {d : Nat} {l1 l2 l3 : AV} {st : List AV} {o : Nat} {σ : Sg} {X : Nat} {K : List AV → List AV → Sg → Prop} (hX : 1143 ≠ X) (ho : o ≠ 0) : Rq d m_L_law X 1143 [vR o, l1, l2, l3] st σ K ↔ Rq d m_L_law X 1144 [vR o, l1, l2, l3] (vR o :: st) σ K := k5 hX (show fnd (pgm m_L_law) 1143 = some (1144, 5, 0, 0, 0, []) from rfl) rfl ho
set_option maxRecDepth 100000 in
theorem l_1144 {d : Nat} {l0 l1 l2 : AV} {st : List AV} {x : Int} {σ : Sg} {X : Nat} {K : List AV → List AV → Sg → Prop} (hX : 1144 ≠ X)  : Rq d m_L_law X 1144 [l0, l1, l2, vI x] st σ K ↔ Rq d m_L_law X 1145 [l0, l1, l2, vI x] (vI x :: st) σ K := k3 hX (show fnd (pgm m_L_law) 1144 = some (1145, 3, 0, 3, 0, []) from rfl) rfl
set_option maxRecDepth 100000 in
theorem l_1145 {d : Nat} {l0 l1 l2 l3 : AV} {st : List AV} {σ : Sg} {X : Nat} {K : List AV → List AV → Sg → Prop} (hX : 1145 ≠ X)  : Rq d m_L_law X 1145 [l0, l1, l2, l3] st σ K ↔ Rq d m_L_law X 1146 [l0, l1, l2, l3] (vI 1 :: st) σ K := k0 hX (show fnd (pgm m_L_law) 1145 = some (1146, 0, 1, 0, 0, []) from rfl)
set_option maxRecDepth 100000 in
theorem l_1146 {d : Nat} {l0 l1 l2 l3 : AV} {st : List AV} {a b : Int} {σ : Sg} {X : Nat} {K : List AV → List AV → Sg → Prop} (hX : 1146 ≠ X)  : Rq d m_L_law X 1146 [l0, l1, l2, l3] (vI b :: vI a :: st) σ K ↔ Rq d m_L_law X 1147 [l0, l1, l2, l3] (vI (a + b) :: st) σ K := k10_0 hX (show fnd (pgm m_L_law) 1146 = some (1147, 10, 0, 0, 0, []) from rfl)
set_option maxRecDepth 100000 in
theorem l_1147 {d : Nat} {l0 l1 l2 l3 : AV} {st : List AV} {i : Int} {σ : Sg} {X : Nat} {K : List AV → List AV → Sg → Prop} (hX : 1147 ≠ X) (hi : 0 ≤ w32 i ∧ w32 i < σ 999 (-1)) : Rq d m_L_law X 1147 [l0, l1, l2, l3] (vI i :: vR 999 :: st) σ K ↔ Rq d m_L_law X 1148 [l0, l1, l2, l3] (vI (σ 999 (w32 i)) :: st) σ K := k41 hX (show fnd (pgm m_L_law) 1147 = some (1148, 41, 0, 0, 0, []) from rfl) hi
set_option maxRecDepth 100000 in
theorem l_1148 {d : Nat} {l0 l1 l2 l3 : AV} {st : List AV} {o : Nat} {a0 : Int} {σ : Sg} {X : Nat} {K : List AV → List AV → Sg → Prop} (hX : 1148 ≠ X) (h4 : st.length ≤ 4) (hk : kn σ o = (0, 5)) : Rq d m_L_law X 1148 [l0, l1, l2, l3] (vI a0 :: vR o :: st) σ K ↔ ∃ r σ1, Ev d m_X5_claims [vR o, vI a0] σ r σ1 ∧ Rq d m_L_law X 1151 [l0, l1, l2, l3] (psh r st) σ1 K := k35 hX (show fnd (pgm m_L_law) 1148 = some (1151, 35, 128, 79, 2, []) from rfl) ⟨⟨by simp, by simpa using h4⟩, (by simp only [List.take, List.reverse, List.reverseAux, rcv]; rw [if_neg (by decide +kernel)]; exact decide_eq_true hk)⟩
set_option maxRecDepth 100000 in
theorem l_1151 {d : Nat} {l0 l1 l3 : AV} {st : List AV} {o : Nat} {σ : Sg} {X : Nat} {K : List AV → List AV → Sg → Prop} (hX : 1151 ≠ X) (ho : o ≠ 0) : Rq d m_L_law X 1151 [l0, l1, vR o, l3] st σ K ↔ Rq d m_L_law X 1152 [l0, l1, vR o, l3] (vR o :: st) σ K := k5 hX (show fnd (pgm m_L_law) 1151 = some (1152, 5, 0, 2, 0, []) from rfl) rfl ho
set_option maxRecDepth 100000 in
theorem l_1152 {d : Nat} {l1 l2 l3 : AV} {st : List AV} {o : Nat} {σ : Sg} {X : Nat} {K : List AV → List AV → Sg → Prop} (hX : 1152 ≠ X) (ho : o ≠ 0) : Rq d m_L_law X 1152 [vR o, l1, l2, l3] st σ K ↔ Rq d m_L_law X 1153 [vR o, l1, l2, l3] (vR o :: st) σ K := k5 hX (show fnd (pgm m_L_law) 1152 = some (1153, 5, 0, 0, 0, []) from rfl) rfl ho
set_option maxRecDepth 100000 in
theorem l_1153 {d : Nat} {l0 l1 l2 : AV} {st : List AV} {x : Int} {σ : Sg} {X : Nat} {K : List AV → List AV → Sg → Prop} (hX : 1153 ≠ X)  : Rq d m_L_law X 1153 [l0, l1, l2, vI x] st σ K ↔ Rq d m_L_law X 1154 [l0, l1, l2, vI x] (vI x :: st) σ K := k3 hX (show fnd (pgm m_L_law) 1153 = some (1154, 3, 0, 3, 0, []) from rfl) rfl
set_option maxRecDepth 100000 in
theorem l_1154 {d : Nat} {l0 l1 l2 l3 : AV} {st : List AV} {σ : Sg} {X : Nat} {K : List AV → List AV → Sg → Prop} (hX : 1154 ≠ X)  : Rq d m_L_law X 1154 [l0, l1, l2, l3] st σ K ↔ Rq d m_L_law X 1155 [l0, l1, l2, l3] (vI 1 :: st) σ K := k0 hX (show fnd (pgm m_L_law) 1154 = some (1155, 0, 1, 0, 0, []) from rfl)
set_option maxRecDepth 100000 in
theorem l_1155 {d : Nat} {l0 l1 l2 l3 : AV} {st : List AV} {a b : Int} {σ : Sg} {X : Nat} {K : List AV → List AV → Sg → Prop} (hX : 1155 ≠ X)  : Rq d m_L_law X 1155 [l0, l1, l2, l3] (vI b :: vI a :: st) σ K ↔ Rq d m_L_law X 1156 [l0, l1, l2, l3] (vI (a + b) :: st) σ K := k10_0 hX (show fnd (pgm m_L_law) 1155 = some (1156, 10, 0, 0, 0, []) from rfl)
set_option maxRecDepth 100000 in
theorem l_1156 {d : Nat} {l0 l1 l2 l3 : AV} {st : List AV} {i : Int} {σ : Sg} {X : Nat} {K : List AV → List AV → Sg → Prop} (hX : 1156 ≠ X) (hi : 0 ≤ w32 i ∧ w32 i < σ 999 (-1)) : Rq d m_L_law X 1156 [l0, l1, l2, l3] (vI i :: vR 999 :: st) σ K ↔ Rq d m_L_law X 1157 [l0, l1, l2, l3] (vI (σ 999 (w32 i)) :: st) σ K := k41 hX (show fnd (pgm m_L_law) 1156 = some (1157, 41, 0, 0, 0, []) from rfl) hi
set_option maxRecDepth 100000 in
theorem l_1157 {d : Nat} {l0 l1 l2 l3 : AV} {st : List AV} {o : Nat} {a0 : Int} {σ : Sg} {X : Nat} {K : List AV → List AV → Sg → Prop} (hX : 1157 ≠ X) (h4 : st.length ≤ 4) (hk : kn σ o = (0, 6)) : Rq d m_L_law X 1157 [l0, l1, l2, l3] (vI a0 :: vR o :: st) σ K ↔ ∃ r σ1, Ev d m_X6_claims [vR o, vI a0] σ r σ1 ∧ Rq d m_L_law X 1160 [l0, l1, l2, l3] (psh r st) σ1 K := k35 hX (show fnd (pgm m_L_law) 1157 = some (1160, 35, 131, 161, 2, []) from rfl) ⟨⟨by simp, by simpa using h4⟩, (by simp only [List.take, List.reverse, List.reverseAux, rcv]; rw [if_neg (by decide +kernel)]; exact decide_eq_true hk)⟩
set_option maxRecDepth 100000 in
theorem l_1160 {d : Nat} {l0 l1 l2 l3 : AV} {st : List AV} {a b : Int} {σ : Sg} {X : Nat} {K : List AV → List AV → Sg → Prop} (hX : 1160 ≠ X)  : Rq d m_L_law X 1160 [l0, l1, l2, l3] (vI b :: vI a :: st) σ K ↔ if w32 a = w32 b then Rq d m_L_law X 1364 [l0, l1, l2, l3] st σ K else Rq d m_L_law X 1163 [l0, l1, l2, l3] st σ K := k20_0 hX (show fnd (pgm m_L_law) 1160 = some (1163, 20, 0, 0, 1364, []) from rfl)
set_option maxRecDepth 100000 in
theorem l_1163 {d : Nat} {l0 l1 l2 l3 : AV} {st : List AV} {σ : Sg} {X : Nat} {K : List AV → List AV → Sg → Prop} (hX : 1163 ≠ X)  : Rq d m_L_law X 1163 [l0, l1, l2, l3] st σ K ↔ Rq d m_L_law X 1164 [l0, l1, l2, l3] (vI 0 :: st) σ K := k0 hX (show fnd (pgm m_L_law) 1163 = some (1164, 0, 0, 0, 0, []) from rfl)
set_option maxRecDepth 100000 in
theorem l_1165 {d : Nat} {l0 l2 l3 : AV} {st : List AV} {o : Nat} {σ : Sg} {X : Nat} {K : List AV → List AV → Sg → Prop} (hX : 1165 ≠ X) (ho : o ≠ 0) : Rq d m_L_law X 1165 [l0, vR o, l2, l3] st σ K ↔ Rq d m_L_law X 1166 [l0, vR o, l2, l3] (vR o :: st) σ K := k5 hX (show fnd (pgm m_L_law) 1165 = some (1166, 5, 0, 1, 0, []) from rfl) rfl ho
set_option maxRecDepth 100000 in
theorem l_1166 {d : Nat} {l1 l2 l3 : AV} {st : List AV} {o : Nat} {σ : Sg} {X : Nat} {K : List AV → List AV → Sg → Prop} (hX : 1166 ≠ X) (ho : o ≠ 0) : Rq d m_L_law X 1166 [vR o, l1, l2, l3] st σ K ↔ Rq d m_L_law X 1167 [vR o, l1, l2, l3] (vR o :: st) σ K := k5 hX (show fnd (pgm m_L_law) 1166 = some (1167, 5, 0, 0, 0, []) from rfl) rfl ho
set_option maxRecDepth 100000 in
theorem l_1167 {d : Nat} {l0 l1 l2 : AV} {st : List AV} {x : Int} {σ : Sg} {X : Nat} {K : List AV → List AV → Sg → Prop} (hX : 1167 ≠ X)  : Rq d m_L_law X 1167 [l0, l1, l2, vI x] st σ K ↔ Rq d m_L_law X 1168 [l0, l1, l2, vI x] (vI x :: st) σ K := k3 hX (show fnd (pgm m_L_law) 1167 = some (1168, 3, 0, 3, 0, []) from rfl) rfl
set_option maxRecDepth 100000 in
theorem l_1168 {d : Nat} {l0 l1 l2 l3 : AV} {st : List AV} {σ : Sg} {X : Nat} {K : List AV → List AV → Sg → Prop} (hX : 1168 ≠ X)  : Rq d m_L_law X 1168 [l0, l1, l2, l3] st σ K ↔ Rq d m_L_law X 1169 [l0, l1, l2, l3] (vI 1 :: st) σ K := k0 hX (show fnd (pgm m_L_law) 1168 = some (1169, 0, 1, 0, 0, []) from rfl)
set_option maxRecDepth 100000 in
theorem l_1169 {d : Nat} {l0 l1 l2 l3 : AV} {st : List AV} {a b : Int} {σ : Sg} {X : Nat} {K : List AV → List AV → Sg → Prop} (hX : 1169 ≠ X)  : Rq d m_L_law X 1169 [l0, l1, l2, l3] (vI b :: vI a :: st) σ K ↔ Rq d m_L_law X 1170 [l0, l1, l2, l3] (vI (a + b) :: st) σ K := k10_0 hX (show fnd (pgm m_L_law) 1169 = some (1170, 10, 0, 0, 0, []) from rfl)
set_option maxRecDepth 100000 in
theorem l_1170 {d : Nat} {l0 l1 l2 l3 : AV} {st : List AV} {i : Int} {σ : Sg} {X : Nat} {K : List AV → List AV → Sg → Prop} (hX : 1170 ≠ X) (hi : 0 ≤ w32 i ∧ w32 i < σ 999 (-1)) : Rq d m_L_law X 1170 [l0, l1, l2, l3] (vI i :: vR 999 :: st) σ K ↔ Rq d m_L_law X 1171 [l0, l1, l2, l3] (vI (σ 999 (w32 i)) :: st) σ K := k41 hX (show fnd (pgm m_L_law) 1170 = some (1171, 41, 0, 0, 0, []) from rfl) hi
set_option maxRecDepth 100000 in
theorem l_1171 {d : Nat} {l1 l2 l3 : AV} {st : List AV} {o : Nat} {σ : Sg} {X : Nat} {K : List AV → List AV → Sg → Prop} (hX : 1171 ≠ X) (ho : o ≠ 0) : Rq d m_L_law X 1171 [vR o, l1, l2, l3] st σ K ↔ Rq d m_L_law X 1172 [vR o, l1, l2, l3] (vR o :: st) σ K := k5 hX (show fnd (pgm m_L_law) 1171 = some (1172, 5, 0, 0, 0, []) from rfl) rfl ho
set_option maxRecDepth 100000 in
theorem l_1172 {d : Nat} {l0 l1 l2 : AV} {st : List AV} {x : Int} {σ : Sg} {X : Nat} {K : List AV → List AV → Sg → Prop} (hX : 1172 ≠ X)  : Rq d m_L_law X 1172 [l0, l1, l2, vI x] st σ K ↔ Rq d m_L_law X 1173 [l0, l1, l2, vI x] (vI x :: st) σ K := k3 hX (show fnd (pgm m_L_law) 1172 = some (1173, 3, 0, 3, 0, []) from rfl) rfl
set_option maxRecDepth 100000 in
theorem l_1173 {d : Nat} {l0 l1 l2 l3 : AV} {st : List AV} {σ : Sg} {X : Nat} {K : List AV → List AV → Sg → Prop} (hX : 1173 ≠ X)  : Rq d m_L_law X 1173 [l0, l1, l2, l3] st σ K ↔ Rq d m_L_law X 1174 [l0, l1, l2, l3] (vI 2 :: st) σ K := k0 hX (show fnd (pgm m_L_law) 1173 = some (1174, 0, 2, 0, 0, []) from rfl)
set_option maxRecDepth 100000 in
theorem l_1174 {d : Nat} {l0 l1 l2 l3 : AV} {st : List AV} {a b : Int} {σ : Sg} {X : Nat} {K : List AV → List AV → Sg → Prop} (hX : 1174 ≠ X)  : Rq d m_L_law X 1174 [l0, l1, l2, l3] (vI b :: vI a :: st) σ K ↔ Rq d m_L_law X 1175 [l0, l1, l2, l3] (vI (a + b) :: st) σ K := k10_0 hX (show fnd (pgm m_L_law) 1174 = some (1175, 10, 0, 0, 0, []) from rfl)
set_option maxRecDepth 100000 in
theorem l_1175 {d : Nat} {l0 l1 l2 l3 : AV} {st : List AV} {i : Int} {σ : Sg} {X : Nat} {K : List AV → List AV → Sg → Prop} (hX : 1175 ≠ X) (hi : 0 ≤ w32 i ∧ w32 i < σ 999 (-1)) : Rq d m_L_law X 1175 [l0, l1, l2, l3] (vI i :: vR 999 :: st) σ K ↔ Rq d m_L_law X 1176 [l0, l1, l2, l3] (vI (σ 999 (w32 i)) :: st) σ K := k41 hX (show fnd (pgm m_L_law) 1175 = some (1176, 41, 0, 0, 0, []) from rfl) hi
set_option maxRecDepth 100000 in
theorem l_1176 {d : Nat} {l0 l1 l2 l3 : AV} {st : List AV} {o : Nat} {a0 : Int} {a1 : Int} {σ : Sg} {X : Nat} {K : List AV → List AV → Sg → Prop} (hX : 1176 ≠ X) (h4 : st.length ≤ 4) (hk : kn σ o = (0, 5)) : Rq d m_L_law X 1176 [l0, l1, l2, l3] (vI a1 :: vI a0 :: vR o :: st) σ K ↔ ∃ r σ1, Ev d m_X5_owed [vR o, vI a0, vI a1] σ r σ1 ∧ Rq d m_L_law X 1179 [l0, l1, l2, l3] (psh r st) σ1 K := k35 hX (show fnd (pgm m_L_law) 1176 = some (1179, 35, 132, 80, 3, []) from rfl) ⟨⟨by simp, by simpa using h4⟩, (by simp only [List.take, List.reverse, List.reverseAux, rcv]; rw [if_neg (by decide +kernel)]; exact decide_eq_true hk)⟩
set_option maxRecDepth 100000 in
theorem l_1179 {d : Nat} {l0 l1 l3 : AV} {st : List AV} {o : Nat} {σ : Sg} {X : Nat} {K : List AV → List AV → Sg → Prop} (hX : 1179 ≠ X) (ho : o ≠ 0) : Rq d m_L_law X 1179 [l0, l1, vR o, l3] st σ K ↔ Rq d m_L_law X 1180 [l0, l1, vR o, l3] (vR o :: st) σ K := k5 hX (show fnd (pgm m_L_law) 1179 = some (1180, 5, 0, 2, 0, []) from rfl) rfl ho
set_option maxRecDepth 100000 in
theorem l_1180 {d : Nat} {l1 l2 l3 : AV} {st : List AV} {o : Nat} {σ : Sg} {X : Nat} {K : List AV → List AV → Sg → Prop} (hX : 1180 ≠ X) (ho : o ≠ 0) : Rq d m_L_law X 1180 [vR o, l1, l2, l3] st σ K ↔ Rq d m_L_law X 1181 [vR o, l1, l2, l3] (vR o :: st) σ K := k5 hX (show fnd (pgm m_L_law) 1180 = some (1181, 5, 0, 0, 0, []) from rfl) rfl ho
set_option maxRecDepth 100000 in
theorem l_1181 {d : Nat} {l0 l1 l2 : AV} {st : List AV} {x : Int} {σ : Sg} {X : Nat} {K : List AV → List AV → Sg → Prop} (hX : 1181 ≠ X)  : Rq d m_L_law X 1181 [l0, l1, l2, vI x] st σ K ↔ Rq d m_L_law X 1182 [l0, l1, l2, vI x] (vI x :: st) σ K := k3 hX (show fnd (pgm m_L_law) 1181 = some (1182, 3, 0, 3, 0, []) from rfl) rfl
set_option maxRecDepth 100000 in
theorem l_1182 {d : Nat} {l0 l1 l2 l3 : AV} {st : List AV} {σ : Sg} {X : Nat} {K : List AV → List AV → Sg → Prop} (hX : 1182 ≠ X)  : Rq d m_L_law X 1182 [l0, l1, l2, l3] st σ K ↔ Rq d m_L_law X 1183 [l0, l1, l2, l3] (vI 1 :: st) σ K := k0 hX (show fnd (pgm m_L_law) 1182 = some (1183, 0, 1, 0, 0, []) from rfl)
set_option maxRecDepth 100000 in
theorem l_1183 {d : Nat} {l0 l1 l2 l3 : AV} {st : List AV} {a b : Int} {σ : Sg} {X : Nat} {K : List AV → List AV → Sg → Prop} (hX : 1183 ≠ X)  : Rq d m_L_law X 1183 [l0, l1, l2, l3] (vI b :: vI a :: st) σ K ↔ Rq d m_L_law X 1184 [l0, l1, l2, l3] (vI (a + b) :: st) σ K := k10_0 hX (show fnd (pgm m_L_law) 1183 = some (1184, 10, 0, 0, 0, []) from rfl)
set_option maxRecDepth 100000 in
theorem l_1184 {d : Nat} {l0 l1 l2 l3 : AV} {st : List AV} {i : Int} {σ : Sg} {X : Nat} {K : List AV → List AV → Sg → Prop} (hX : 1184 ≠ X) (hi : 0 ≤ w32 i ∧ w32 i < σ 999 (-1)) : Rq d m_L_law X 1184 [l0, l1, l2, l3] (vI i :: vR 999 :: st) σ K ↔ Rq d m_L_law X 1185 [l0, l1, l2, l3] (vI (σ 999 (w32 i)) :: st) σ K := k41 hX (show fnd (pgm m_L_law) 1184 = some (1185, 41, 0, 0, 0, []) from rfl) hi
set_option maxRecDepth 100000 in
theorem l_1185 {d : Nat} {l1 l2 l3 : AV} {st : List AV} {o : Nat} {σ : Sg} {X : Nat} {K : List AV → List AV → Sg → Prop} (hX : 1185 ≠ X) (ho : o ≠ 0) : Rq d m_L_law X 1185 [vR o, l1, l2, l3] st σ K ↔ Rq d m_L_law X 1186 [vR o, l1, l2, l3] (vR o :: st) σ K := k5 hX (show fnd (pgm m_L_law) 1185 = some (1186, 5, 0, 0, 0, []) from rfl) rfl ho
set_option maxRecDepth 100000 in
theorem l_1186 {d : Nat} {l0 l1 l2 : AV} {st : List AV} {x : Int} {σ : Sg} {X : Nat} {K : List AV → List AV → Sg → Prop} (hX : 1186 ≠ X)  : Rq d m_L_law X 1186 [l0, l1, l2, vI x] st σ K ↔ Rq d m_L_law X 1187 [l0, l1, l2, vI x] (vI x :: st) σ K := k3 hX (show fnd (pgm m_L_law) 1186 = some (1187, 3, 0, 3, 0, []) from rfl) rfl
set_option maxRecDepth 100000 in
theorem l_1187 {d : Nat} {l0 l1 l2 l3 : AV} {st : List AV} {σ : Sg} {X : Nat} {K : List AV → List AV → Sg → Prop} (hX : 1187 ≠ X)  : Rq d m_L_law X 1187 [l0, l1, l2, l3] st σ K ↔ Rq d m_L_law X 1188 [l0, l1, l2, l3] (vI 2 :: st) σ K := k0 hX (show fnd (pgm m_L_law) 1187 = some (1188, 0, 2, 0, 0, []) from rfl)
set_option maxRecDepth 100000 in
theorem l_1188 {d : Nat} {l0 l1 l2 l3 : AV} {st : List AV} {a b : Int} {σ : Sg} {X : Nat} {K : List AV → List AV → Sg → Prop} (hX : 1188 ≠ X)  : Rq d m_L_law X 1188 [l0, l1, l2, l3] (vI b :: vI a :: st) σ K ↔ Rq d m_L_law X 1189 [l0, l1, l2, l3] (vI (a + b) :: st) σ K := k10_0 hX (show fnd (pgm m_L_law) 1188 = some (1189, 10, 0, 0, 0, []) from rfl)
set_option maxRecDepth 100000 in
theorem l_1189 {d : Nat} {l0 l1 l2 l3 : AV} {st : List AV} {i : Int} {σ : Sg} {X : Nat} {K : List AV → List AV → Sg → Prop} (hX : 1189 ≠ X) (hi : 0 ≤ w32 i ∧ w32 i < σ 999 (-1)) : Rq d m_L_law X 1189 [l0, l1, l2, l3] (vI i :: vR 999 :: st) σ K ↔ Rq d m_L_law X 1190 [l0, l1, l2, l3] (vI (σ 999 (w32 i)) :: st) σ K := k41 hX (show fnd (pgm m_L_law) 1189 = some (1190, 41, 0, 0, 0, []) from rfl) hi
set_option maxRecDepth 100000 in
theorem l_1190 {d : Nat} {l0 l1 l2 l3 : AV} {st : List AV} {o : Nat} {a0 : Int} {a1 : Int} {σ : Sg} {X : Nat} {K : List AV → List AV → Sg → Prop} (hX : 1190 ≠ X) (h4 : st.length ≤ 4) (hk : kn σ o = (0, 6)) : Rq d m_L_law X 1190 [l0, l1, l2, l3] (vI a1 :: vI a0 :: vR o :: st) σ K ↔ ∃ r σ1, Ev d m_X6_owed [vR o, vI a0, vI a1] σ r σ1 ∧ Rq d m_L_law X 1193 [l0, l1, l2, l3] (psh r st) σ1 K := k35 hX (show fnd (pgm m_L_law) 1190 = some (1193, 35, 135, 164, 3, []) from rfl) ⟨⟨by simp, by simpa using h4⟩, (by simp only [List.take, List.reverse, List.reverseAux, rcv]; rw [if_neg (by decide +kernel)]; exact decide_eq_true hk)⟩
set_option maxRecDepth 100000 in
theorem l_1193 {d : Nat} {l0 l1 l2 l3 : AV} {st : List AV} {a b : Int} {σ : Sg} {X : Nat} {K : List AV → List AV → Sg → Prop} (hX : 1193 ≠ X)  : Rq d m_L_law X 1193 [l0, l1, l2, l3] (vI b :: vI a :: st) σ K ↔ if w32 a = w32 b then Rq d m_L_law X 1364 [l0, l1, l2, l3] st σ K else Rq d m_L_law X 1196 [l0, l1, l2, l3] st σ K := k20_0 hX (show fnd (pgm m_L_law) 1193 = some (1196, 20, 0, 0, 1364, []) from rfl)
set_option maxRecDepth 100000 in
theorem l_1196 {d : Nat} {l0 l1 l2 l3 : AV} {st : List AV} {σ : Sg} {X : Nat} {K : List AV → List AV → Sg → Prop} (hX : 1196 ≠ X)  : Rq d m_L_law X 1196 [l0, l1, l2, l3] st σ K ↔ Rq d m_L_law X 1197 [l0, l1, l2, l3] (vI 0 :: st) σ K := k0 hX (show fnd (pgm m_L_law) 1196 = some (1197, 0, 0, 0, 0, []) from rfl)
set_option maxRecDepth 100000 in
theorem l_1198 {d : Nat} {l0 l2 l3 : AV} {st : List AV} {o : Nat} {σ : Sg} {X : Nat} {K : List AV → List AV → Sg → Prop} (hX : 1198 ≠ X) (ho : o ≠ 0) : Rq d m_L_law X 1198 [l0, vR o, l2, l3] st σ K ↔ Rq d m_L_law X 1199 [l0, vR o, l2, l3] (vR o :: st) σ K := k5 hX (show fnd (pgm m_L_law) 1198 = some (1199, 5, 0, 1, 0, []) from rfl) rfl ho
set_option maxRecDepth 100000 in
theorem l_1199 {d : Nat} {l1 l2 l3 : AV} {st : List AV} {o : Nat} {σ : Sg} {X : Nat} {K : List AV → List AV → Sg → Prop} (hX : 1199 ≠ X) (ho : o ≠ 0) : Rq d m_L_law X 1199 [vR o, l1, l2, l3] st σ K ↔ Rq d m_L_law X 1200 [vR o, l1, l2, l3] (vR o :: st) σ K := k5 hX (show fnd (pgm m_L_law) 1199 = some (1200, 5, 0, 0, 0, []) from rfl) rfl ho
set_option maxRecDepth 100000 in
theorem l_1200 {d : Nat} {l0 l1 l2 : AV} {st : List AV} {x : Int} {σ : Sg} {X : Nat} {K : List AV → List AV → Sg → Prop} (hX : 1200 ≠ X)  : Rq d m_L_law X 1200 [l0, l1, l2, vI x] st σ K ↔ Rq d m_L_law X 1201 [l0, l1, l2, vI x] (vI x :: st) σ K := k3 hX (show fnd (pgm m_L_law) 1200 = some (1201, 3, 0, 3, 0, []) from rfl) rfl
set_option maxRecDepth 100000 in
theorem l_1201 {d : Nat} {l0 l1 l2 l3 : AV} {st : List AV} {σ : Sg} {X : Nat} {K : List AV → List AV → Sg → Prop} (hX : 1201 ≠ X)  : Rq d m_L_law X 1201 [l0, l1, l2, l3] st σ K ↔ Rq d m_L_law X 1202 [l0, l1, l2, l3] (vI 1 :: st) σ K := k0 hX (show fnd (pgm m_L_law) 1201 = some (1202, 0, 1, 0, 0, []) from rfl)
set_option maxRecDepth 100000 in
theorem l_1202 {d : Nat} {l0 l1 l2 l3 : AV} {st : List AV} {a b : Int} {σ : Sg} {X : Nat} {K : List AV → List AV → Sg → Prop} (hX : 1202 ≠ X)  : Rq d m_L_law X 1202 [l0, l1, l2, l3] (vI b :: vI a :: st) σ K ↔ Rq d m_L_law X 1203 [l0, l1, l2, l3] (vI (a + b) :: st) σ K := k10_0 hX (show fnd (pgm m_L_law) 1202 = some (1203, 10, 0, 0, 0, []) from rfl)
set_option maxRecDepth 100000 in
theorem l_1203 {d : Nat} {l0 l1 l2 l3 : AV} {st : List AV} {i : Int} {σ : Sg} {X : Nat} {K : List AV → List AV → Sg → Prop} (hX : 1203 ≠ X) (hi : 0 ≤ w32 i ∧ w32 i < σ 999 (-1)) : Rq d m_L_law X 1203 [l0, l1, l2, l3] (vI i :: vR 999 :: st) σ K ↔ Rq d m_L_law X 1204 [l0, l1, l2, l3] (vI (σ 999 (w32 i)) :: st) σ K := k41 hX (show fnd (pgm m_L_law) 1203 = some (1204, 41, 0, 0, 0, []) from rfl) hi
set_option maxRecDepth 100000 in
theorem l_1204 {d : Nat} {l0 l1 l2 l3 : AV} {st : List AV} {o : Nat} {a0 : Int} {σ : Sg} {X : Nat} {K : List AV → List AV → Sg → Prop} (hX : 1204 ≠ X) (h4 : st.length ≤ 4) (hk : kn σ o = (0, 5)) : Rq d m_L_law X 1204 [l0, l1, l2, l3] (vI a0 :: vR o :: st) σ K ↔ ∃ r σ1, Ev d m_X5_net [vR o, vI a0] σ r σ1 ∧ Rq d m_L_law X 1207 [l0, l1, l2, l3] (psh r st) σ1 K := k35 hX (show fnd (pgm m_L_law) 1204 = some (1207, 35, 136, 81, 2, []) from rfl) ⟨⟨by simp, by simpa using h4⟩, (by simp only [List.take, List.reverse, List.reverseAux, rcv]; rw [if_neg (by decide +kernel)]; exact decide_eq_true hk)⟩
set_option maxRecDepth 100000 in
theorem l_1207 {d : Nat} {l0 l1 l3 : AV} {st : List AV} {o : Nat} {σ : Sg} {X : Nat} {K : List AV → List AV → Sg → Prop} (hX : 1207 ≠ X) (ho : o ≠ 0) : Rq d m_L_law X 1207 [l0, l1, vR o, l3] st σ K ↔ Rq d m_L_law X 1208 [l0, l1, vR o, l3] (vR o :: st) σ K := k5 hX (show fnd (pgm m_L_law) 1207 = some (1208, 5, 0, 2, 0, []) from rfl) rfl ho
set_option maxRecDepth 100000 in
theorem l_1208 {d : Nat} {l1 l2 l3 : AV} {st : List AV} {o : Nat} {σ : Sg} {X : Nat} {K : List AV → List AV → Sg → Prop} (hX : 1208 ≠ X) (ho : o ≠ 0) : Rq d m_L_law X 1208 [vR o, l1, l2, l3] st σ K ↔ Rq d m_L_law X 1209 [vR o, l1, l2, l3] (vR o :: st) σ K := k5 hX (show fnd (pgm m_L_law) 1208 = some (1209, 5, 0, 0, 0, []) from rfl) rfl ho
set_option maxRecDepth 100000 in
theorem l_1209 {d : Nat} {l0 l1 l2 : AV} {st : List AV} {x : Int} {σ : Sg} {X : Nat} {K : List AV → List AV → Sg → Prop} (hX : 1209 ≠ X)  : Rq d m_L_law X 1209 [l0, l1, l2, vI x] st σ K ↔ Rq d m_L_law X 1210 [l0, l1, l2, vI x] (vI x :: st) σ K := k3 hX (show fnd (pgm m_L_law) 1209 = some (1210, 3, 0, 3, 0, []) from rfl) rfl
set_option maxRecDepth 100000 in
theorem l_1210 {d : Nat} {l0 l1 l2 l3 : AV} {st : List AV} {σ : Sg} {X : Nat} {K : List AV → List AV → Sg → Prop} (hX : 1210 ≠ X)  : Rq d m_L_law X 1210 [l0, l1, l2, l3] st σ K ↔ Rq d m_L_law X 1211 [l0, l1, l2, l3] (vI 1 :: st) σ K := k0 hX (show fnd (pgm m_L_law) 1210 = some (1211, 0, 1, 0, 0, []) from rfl)
set_option maxRecDepth 100000 in
theorem l_1211 {d : Nat} {l0 l1 l2 l3 : AV} {st : List AV} {a b : Int} {σ : Sg} {X : Nat} {K : List AV → List AV → Sg → Prop} (hX : 1211 ≠ X)  : Rq d m_L_law X 1211 [l0, l1, l2, l3] (vI b :: vI a :: st) σ K ↔ Rq d m_L_law X 1212 [l0, l1, l2, l3] (vI (a + b) :: st) σ K := k10_0 hX (show fnd (pgm m_L_law) 1211 = some (1212, 10, 0, 0, 0, []) from rfl)
set_option maxRecDepth 100000 in
theorem l_1212 {d : Nat} {l0 l1 l2 l3 : AV} {st : List AV} {i : Int} {σ : Sg} {X : Nat} {K : List AV → List AV → Sg → Prop} (hX : 1212 ≠ X) (hi : 0 ≤ w32 i ∧ w32 i < σ 999 (-1)) : Rq d m_L_law X 1212 [l0, l1, l2, l3] (vI i :: vR 999 :: st) σ K ↔ Rq d m_L_law X 1213 [l0, l1, l2, l3] (vI (σ 999 (w32 i)) :: st) σ K := k41 hX (show fnd (pgm m_L_law) 1212 = some (1213, 41, 0, 0, 0, []) from rfl) hi
set_option maxRecDepth 100000 in
theorem l_1213 {d : Nat} {l0 l1 l2 l3 : AV} {st : List AV} {o : Nat} {a0 : Int} {σ : Sg} {X : Nat} {K : List AV → List AV → Sg → Prop} (hX : 1213 ≠ X) (h4 : st.length ≤ 4) (hk : kn σ o = (0, 6)) : Rq d m_L_law X 1213 [l0, l1, l2, l3] (vI a0 :: vR o :: st) σ K ↔ ∃ r σ1, Ev d m_X6_net [vR o, vI a0] σ r σ1 ∧ Rq d m_L_law X 1216 [l0, l1, l2, l3] (psh r st) σ1 K := k35 hX (show fnd (pgm m_L_law) 1213 = some (1216, 35, 139, 166, 2, []) from rfl) ⟨⟨by simp, by simpa using h4⟩, (by simp only [List.take, List.reverse, List.reverseAux, rcv]; rw [if_neg (by decide +kernel)]; exact decide_eq_true hk)⟩
set_option maxRecDepth 100000 in
theorem l_1216 {d : Nat} {l0 l1 l2 l3 : AV} {st : List AV} {a b : Int} {σ : Sg} {X : Nat} {K : List AV → List AV → Sg → Prop} (hX : 1216 ≠ X)  : Rq d m_L_law X 1216 [l0, l1, l2, l3] (vI b :: vI a :: st) σ K ↔ if w32 a = w32 b then Rq d m_L_law X 1364 [l0, l1, l2, l3] st σ K else Rq d m_L_law X 1219 [l0, l1, l2, l3] st σ K := k20_0 hX (show fnd (pgm m_L_law) 1216 = some (1219, 20, 0, 0, 1364, []) from rfl)
set_option maxRecDepth 100000 in
theorem l_1219 {d : Nat} {l0 l1 l2 l3 : AV} {st : List AV} {σ : Sg} {X : Nat} {K : List AV → List AV → Sg → Prop} (hX : 1219 ≠ X)  : Rq d m_L_law X 1219 [l0, l1, l2, l3] st σ K ↔ Rq d m_L_law X 1220 [l0, l1, l2, l3] (vI 0 :: st) σ K := k0 hX (show fnd (pgm m_L_law) 1219 = some (1220, 0, 0, 0, 0, []) from rfl)
set_option maxRecDepth 100000 in
theorem l_1221 {d : Nat} {l0 l2 l3 : AV} {st : List AV} {o : Nat} {σ : Sg} {X : Nat} {K : List AV → List AV → Sg → Prop} (hX : 1221 ≠ X) (ho : o ≠ 0) : Rq d m_L_law X 1221 [l0, vR o, l2, l3] st σ K ↔ Rq d m_L_law X 1222 [l0, vR o, l2, l3] (vR o :: st) σ K := k5 hX (show fnd (pgm m_L_law) 1221 = some (1222, 5, 0, 1, 0, []) from rfl) rfl ho
set_option maxRecDepth 100000 in
theorem l_1222 {d : Nat} {l0 l1 l2 l3 : AV} {st : List AV} {o : Nat} {σ : Sg} {X : Nat} {K : List AV → List AV → Sg → Prop} (hX : 1222 ≠ X) (h4 : st.length ≤ 4) (hk : kn σ o = (0, 5)) : Rq d m_L_law X 1222 [l0, l1, l2, l3] (vR o :: st) σ K ↔ ∃ r σ1, Ev d m_X5_fewest [vR o] σ r σ1 ∧ Rq d m_L_law X 1225 [l0, l1, l2, l3] (psh r st) σ1 K := k35 hX (show fnd (pgm m_L_law) 1222 = some (1225, 35, 140, 82, 1, []) from rfl) ⟨⟨by simp, by simpa using h4⟩, (by simp only [List.take, List.reverse, List.reverseAux, rcv]; rw [if_neg (by decide +kernel)]; exact decide_eq_true hk)⟩
set_option maxRecDepth 100000 in
theorem l_1225 {d : Nat} {l0 l1 l3 : AV} {st : List AV} {o : Nat} {σ : Sg} {X : Nat} {K : List AV → List AV → Sg → Prop} (hX : 1225 ≠ X) (ho : o ≠ 0) : Rq d m_L_law X 1225 [l0, l1, vR o, l3] st σ K ↔ Rq d m_L_law X 1226 [l0, l1, vR o, l3] (vR o :: st) σ K := k5 hX (show fnd (pgm m_L_law) 1225 = some (1226, 5, 0, 2, 0, []) from rfl) rfl ho
set_option maxRecDepth 100000 in
theorem l_1226 {d : Nat} {l0 l1 l2 l3 : AV} {st : List AV} {o : Nat} {σ : Sg} {X : Nat} {K : List AV → List AV → Sg → Prop} (hX : 1226 ≠ X) (h4 : st.length ≤ 4) (hk : kn σ o = (0, 6)) : Rq d m_L_law X 1226 [l0, l1, l2, l3] (vR o :: st) σ K ↔ ∃ r σ1, Ev d m_X6_fewest [vR o] σ r σ1 ∧ Rq d m_L_law X 1229 [l0, l1, l2, l3] (psh r st) σ1 K := k35 hX (show fnd (pgm m_L_law) 1226 = some (1229, 35, 143, 167, 1, []) from rfl) ⟨⟨by simp, by simpa using h4⟩, (by simp only [List.take, List.reverse, List.reverseAux, rcv]; rw [if_neg (by decide +kernel)]; exact decide_eq_true hk)⟩
set_option maxRecDepth 100000 in
theorem l_1229 {d : Nat} {l0 l1 l2 l3 : AV} {st : List AV} {a b : Int} {σ : Sg} {X : Nat} {K : List AV → List AV → Sg → Prop} (hX : 1229 ≠ X)  : Rq d m_L_law X 1229 [l0, l1, l2, l3] (vI b :: vI a :: st) σ K ↔ if w32 a = w32 b then Rq d m_L_law X 1364 [l0, l1, l2, l3] st σ K else Rq d m_L_law X 1232 [l0, l1, l2, l3] st σ K := k20_0 hX (show fnd (pgm m_L_law) 1229 = some (1232, 20, 0, 0, 1364, []) from rfl)
set_option maxRecDepth 100000 in
theorem l_1232 {d : Nat} {l0 l1 l2 l3 : AV} {st : List AV} {σ : Sg} {X : Nat} {K : List AV → List AV → Sg → Prop} (hX : 1232 ≠ X)  : Rq d m_L_law X 1232 [l0, l1, l2, l3] st σ K ↔ Rq d m_L_law X 1233 [l0, l1, l2, l3] (vI 0 :: st) σ K := k0 hX (show fnd (pgm m_L_law) 1232 = some (1233, 0, 0, 0, 0, []) from rfl)
set_option maxRecDepth 100000 in
theorem l_1234 {d : Nat} {l0 l2 l3 : AV} {st : List AV} {o : Nat} {σ : Sg} {X : Nat} {K : List AV → List AV → Sg → Prop} (hX : 1234 ≠ X) (ho : o ≠ 0) : Rq d m_L_law X 1234 [l0, vR o, l2, l3] st σ K ↔ Rq d m_L_law X 1235 [l0, vR o, l2, l3] (vR o :: st) σ K := k5 hX (show fnd (pgm m_L_law) 1234 = some (1235, 5, 0, 1, 0, []) from rfl) rfl ho
set_option maxRecDepth 100000 in
theorem l_1235 {d : Nat} {l1 l2 l3 : AV} {st : List AV} {o : Nat} {σ : Sg} {X : Nat} {K : List AV → List AV → Sg → Prop} (hX : 1235 ≠ X) (ho : o ≠ 0) : Rq d m_L_law X 1235 [vR o, l1, l2, l3] st σ K ↔ Rq d m_L_law X 1236 [vR o, l1, l2, l3] (vR o :: st) σ K := k5 hX (show fnd (pgm m_L_law) 1235 = some (1236, 5, 0, 0, 0, []) from rfl) rfl ho
set_option maxRecDepth 100000 in
theorem l_1236 {d : Nat} {l0 l1 l2 : AV} {st : List AV} {x : Int} {σ : Sg} {X : Nat} {K : List AV → List AV → Sg → Prop} (hX : 1236 ≠ X)  : Rq d m_L_law X 1236 [l0, l1, l2, vI x] st σ K ↔ Rq d m_L_law X 1237 [l0, l1, l2, vI x] (vI x :: st) σ K := k3 hX (show fnd (pgm m_L_law) 1236 = some (1237, 3, 0, 3, 0, []) from rfl) rfl
set_option maxRecDepth 100000 in
theorem l_1237 {d : Nat} {l0 l1 l2 l3 : AV} {st : List AV} {σ : Sg} {X : Nat} {K : List AV → List AV → Sg → Prop} (hX : 1237 ≠ X)  : Rq d m_L_law X 1237 [l0, l1, l2, l3] st σ K ↔ Rq d m_L_law X 1238 [l0, l1, l2, l3] (vI 1 :: st) σ K := k0 hX (show fnd (pgm m_L_law) 1237 = some (1238, 0, 1, 0, 0, []) from rfl)
set_option maxRecDepth 100000 in
theorem l_1238 {d : Nat} {l0 l1 l2 l3 : AV} {st : List AV} {a b : Int} {σ : Sg} {X : Nat} {K : List AV → List AV → Sg → Prop} (hX : 1238 ≠ X)  : Rq d m_L_law X 1238 [l0, l1, l2, l3] (vI b :: vI a :: st) σ K ↔ Rq d m_L_law X 1239 [l0, l1, l2, l3] (vI (a + b) :: st) σ K := k10_0 hX (show fnd (pgm m_L_law) 1238 = some (1239, 10, 0, 0, 0, []) from rfl)
set_option maxRecDepth 100000 in
theorem l_1239 {d : Nat} {l0 l1 l2 l3 : AV} {st : List AV} {i : Int} {σ : Sg} {X : Nat} {K : List AV → List AV → Sg → Prop} (hX : 1239 ≠ X) (hi : 0 ≤ w32 i ∧ w32 i < σ 999 (-1)) : Rq d m_L_law X 1239 [l0, l1, l2, l3] (vI i :: vR 999 :: st) σ K ↔ Rq d m_L_law X 1240 [l0, l1, l2, l3] (vI (σ 999 (w32 i)) :: st) σ K := k41 hX (show fnd (pgm m_L_law) 1239 = some (1240, 41, 0, 0, 0, []) from rfl) hi
set_option maxRecDepth 100000 in
theorem l_1240 {d : Nat} {l0 l1 l2 l3 : AV} {st : List AV} {o : Nat} {a0 : Int} {σ : Sg} {X : Nat} {K : List AV → List AV → Sg → Prop} (hX : 1240 ≠ X) (h4 : st.length ≤ 4) (hk : kn σ o = (0, 5)) : Rq d m_L_law X 1240 [l0, l1, l2, l3] (vI a0 :: vR o :: st) σ K ↔ ∃ r σ1, Ev d m_X5_part [vR o, vI a0] σ r σ1 ∧ Rq d m_L_law X 1243 [l0, l1, l2, l3] (psh r st) σ1 K := k35 hX (show fnd (pgm m_L_law) 1240 = some (1243, 35, 144, 83, 2, []) from rfl) ⟨⟨by simp, by simpa using h4⟩, (by simp only [List.take, List.reverse, List.reverseAux, rcv]; rw [if_neg (by decide +kernel)]; exact decide_eq_true hk)⟩
set_option maxRecDepth 100000 in
theorem l_1243 {d : Nat} {l0 l1 l3 : AV} {st : List AV} {o : Nat} {σ : Sg} {X : Nat} {K : List AV → List AV → Sg → Prop} (hX : 1243 ≠ X) (ho : o ≠ 0) : Rq d m_L_law X 1243 [l0, l1, vR o, l3] st σ K ↔ Rq d m_L_law X 1244 [l0, l1, vR o, l3] (vR o :: st) σ K := k5 hX (show fnd (pgm m_L_law) 1243 = some (1244, 5, 0, 2, 0, []) from rfl) rfl ho
set_option maxRecDepth 100000 in
theorem l_1244 {d : Nat} {l1 l2 l3 : AV} {st : List AV} {o : Nat} {σ : Sg} {X : Nat} {K : List AV → List AV → Sg → Prop} (hX : 1244 ≠ X) (ho : o ≠ 0) : Rq d m_L_law X 1244 [vR o, l1, l2, l3] st σ K ↔ Rq d m_L_law X 1245 [vR o, l1, l2, l3] (vR o :: st) σ K := k5 hX (show fnd (pgm m_L_law) 1244 = some (1245, 5, 0, 0, 0, []) from rfl) rfl ho
set_option maxRecDepth 100000 in
theorem l_1245 {d : Nat} {l0 l1 l2 : AV} {st : List AV} {x : Int} {σ : Sg} {X : Nat} {K : List AV → List AV → Sg → Prop} (hX : 1245 ≠ X)  : Rq d m_L_law X 1245 [l0, l1, l2, vI x] st σ K ↔ Rq d m_L_law X 1246 [l0, l1, l2, vI x] (vI x :: st) σ K := k3 hX (show fnd (pgm m_L_law) 1245 = some (1246, 3, 0, 3, 0, []) from rfl) rfl
set_option maxRecDepth 100000 in
theorem l_1246 {d : Nat} {l0 l1 l2 l3 : AV} {st : List AV} {σ : Sg} {X : Nat} {K : List AV → List AV → Sg → Prop} (hX : 1246 ≠ X)  : Rq d m_L_law X 1246 [l0, l1, l2, l3] st σ K ↔ Rq d m_L_law X 1247 [l0, l1, l2, l3] (vI 1 :: st) σ K := k0 hX (show fnd (pgm m_L_law) 1246 = some (1247, 0, 1, 0, 0, []) from rfl)
set_option maxRecDepth 100000 in
theorem l_1247 {d : Nat} {l0 l1 l2 l3 : AV} {st : List AV} {a b : Int} {σ : Sg} {X : Nat} {K : List AV → List AV → Sg → Prop} (hX : 1247 ≠ X)  : Rq d m_L_law X 1247 [l0, l1, l2, l3] (vI b :: vI a :: st) σ K ↔ Rq d m_L_law X 1248 [l0, l1, l2, l3] (vI (a + b) :: st) σ K := k10_0 hX (show fnd (pgm m_L_law) 1247 = some (1248, 10, 0, 0, 0, []) from rfl)
set_option maxRecDepth 100000 in
theorem l_1248 {d : Nat} {l0 l1 l2 l3 : AV} {st : List AV} {i : Int} {σ : Sg} {X : Nat} {K : List AV → List AV → Sg → Prop} (hX : 1248 ≠ X) (hi : 0 ≤ w32 i ∧ w32 i < σ 999 (-1)) : Rq d m_L_law X 1248 [l0, l1, l2, l3] (vI i :: vR 999 :: st) σ K ↔ Rq d m_L_law X 1249 [l0, l1, l2, l3] (vI (σ 999 (w32 i)) :: st) σ K := k41 hX (show fnd (pgm m_L_law) 1248 = some (1249, 41, 0, 0, 0, []) from rfl) hi
set_option maxRecDepth 100000 in
theorem l_1249 {d : Nat} {l0 l1 l2 l3 : AV} {st : List AV} {o : Nat} {a0 : Int} {σ : Sg} {X : Nat} {K : List AV → List AV → Sg → Prop} (hX : 1249 ≠ X) (h4 : st.length ≤ 4) (hk : kn σ o = (0, 6)) : Rq d m_L_law X 1249 [l0, l1, l2, l3] (vI a0 :: vR o :: st) σ K ↔ ∃ r σ1, Ev d m_X6_part [vR o, vI a0] σ r σ1 ∧ Rq d m_L_law X 1252 [l0, l1, l2, l3] (psh r st) σ1 K := k35 hX (show fnd (pgm m_L_law) 1249 = some (1252, 35, 148, 168, 2, []) from rfl) ⟨⟨by simp, by simpa using h4⟩, (by simp only [List.take, List.reverse, List.reverseAux, rcv]; rw [if_neg (by decide +kernel)]; exact decide_eq_true hk)⟩
set_option maxRecDepth 100000 in
theorem l_1252 {d : Nat} {l0 l1 l2 l3 : AV} {st : List AV} {a b : Int} {σ : Sg} {X : Nat} {K : List AV → List AV → Sg → Prop} (hX : 1252 ≠ X)  : Rq d m_L_law X 1252 [l0, l1, l2, l3] (vL b :: vL a :: st) σ K ↔ Rq d m_L_law X 1253 [l0, l1, l2, l3] (vI (cmpL a b) :: st) σ K := k16 hX (show fnd (pgm m_L_law) 1252 = some (1253, 16, 0, 0, 0, []) from rfl)
set_option maxRecDepth 100000 in
theorem l_1253 {d : Nat} {l0 l1 l2 l3 : AV} {st : List AV} {a : Int} {σ : Sg} {X : Nat} {K : List AV → List AV → Sg → Prop} (hX : 1253 ≠ X)  : Rq d m_L_law X 1253 [l0, l1, l2, l3] (vI a :: st) σ K ↔ if w32 a = 0 then Rq d m_L_law X 1364 [l0, l1, l2, l3] st σ K else Rq d m_L_law X 1256 [l0, l1, l2, l3] st σ K := k19_0 hX (show fnd (pgm m_L_law) 1253 = some (1256, 19, 0, 0, 1364, []) from rfl)
set_option maxRecDepth 100000 in
theorem l_1256 {d : Nat} {l0 l1 l2 l3 : AV} {st : List AV} {σ : Sg} {X : Nat} {K : List AV → List AV → Sg → Prop} (hX : 1256 ≠ X)  : Rq d m_L_law X 1256 [l0, l1, l2, l3] st σ K ↔ Rq d m_L_law X 1257 [l0, l1, l2, l3] (vI 0 :: st) σ K := k0 hX (show fnd (pgm m_L_law) 1256 = some (1257, 0, 0, 0, 0, []) from rfl)
set_option maxRecDepth 100000 in
theorem l_1258 {d : Nat} {l0 l2 l3 : AV} {st : List AV} {o : Nat} {σ : Sg} {X : Nat} {K : List AV → List AV → Sg → Prop} (hX : 1258 ≠ X) (ho : o ≠ 0) : Rq d m_L_law X 1258 [l0, vR o, l2, l3] st σ K ↔ Rq d m_L_law X 1259 [l0, vR o, l2, l3] (vR o :: st) σ K := k5 hX (show fnd (pgm m_L_law) 1258 = some (1259, 5, 0, 1, 0, []) from rfl) rfl ho
set_option maxRecDepth 100000 in
theorem l_1259 {d : Nat} {l1 l2 l3 : AV} {st : List AV} {o : Nat} {σ : Sg} {X : Nat} {K : List AV → List AV → Sg → Prop} (hX : 1259 ≠ X) (ho : o ≠ 0) : Rq d m_L_law X 1259 [vR o, l1, l2, l3] st σ K ↔ Rq d m_L_law X 1260 [vR o, l1, l2, l3] (vR o :: st) σ K := k5 hX (show fnd (pgm m_L_law) 1259 = some (1260, 5, 0, 0, 0, []) from rfl) rfl ho
set_option maxRecDepth 100000 in
theorem l_1260 {d : Nat} {l0 l1 l2 : AV} {st : List AV} {x : Int} {σ : Sg} {X : Nat} {K : List AV → List AV → Sg → Prop} (hX : 1260 ≠ X)  : Rq d m_L_law X 1260 [l0, l1, l2, vI x] st σ K ↔ Rq d m_L_law X 1261 [l0, l1, l2, vI x] (vI x :: st) σ K := k3 hX (show fnd (pgm m_L_law) 1260 = some (1261, 3, 0, 3, 0, []) from rfl) rfl
set_option maxRecDepth 100000 in
theorem l_1261 {d : Nat} {l0 l1 l2 l3 : AV} {st : List AV} {σ : Sg} {X : Nat} {K : List AV → List AV → Sg → Prop} (hX : 1261 ≠ X)  : Rq d m_L_law X 1261 [l0, l1, l2, l3] st σ K ↔ Rq d m_L_law X 1262 [l0, l1, l2, l3] (vI 1 :: st) σ K := k0 hX (show fnd (pgm m_L_law) 1261 = some (1262, 0, 1, 0, 0, []) from rfl)
set_option maxRecDepth 100000 in
theorem l_1262 {d : Nat} {l0 l1 l2 l3 : AV} {st : List AV} {a b : Int} {σ : Sg} {X : Nat} {K : List AV → List AV → Sg → Prop} (hX : 1262 ≠ X)  : Rq d m_L_law X 1262 [l0, l1, l2, l3] (vI b :: vI a :: st) σ K ↔ Rq d m_L_law X 1263 [l0, l1, l2, l3] (vI (a + b) :: st) σ K := k10_0 hX (show fnd (pgm m_L_law) 1262 = some (1263, 10, 0, 0, 0, []) from rfl)
set_option maxRecDepth 100000 in
theorem l_1263 {d : Nat} {l0 l1 l2 l3 : AV} {st : List AV} {i : Int} {σ : Sg} {X : Nat} {K : List AV → List AV → Sg → Prop} (hX : 1263 ≠ X) (hi : 0 ≤ w32 i ∧ w32 i < σ 999 (-1)) : Rq d m_L_law X 1263 [l0, l1, l2, l3] (vI i :: vR 999 :: st) σ K ↔ Rq d m_L_law X 1264 [l0, l1, l2, l3] (vI (σ 999 (w32 i)) :: st) σ K := k41 hX (show fnd (pgm m_L_law) 1263 = some (1264, 41, 0, 0, 0, []) from rfl) hi
set_option maxRecDepth 100000 in
theorem l_1264 {d : Nat} {l0 l1 l2 l3 : AV} {st : List AV} {o : Nat} {a0 : Int} {σ : Sg} {X : Nat} {K : List AV → List AV → Sg → Prop} (hX : 1264 ≠ X) (h4 : st.length ≤ 4) (hk : kn σ o = (0, 5)) : Rq d m_L_law X 1264 [l0, l1, l2, l3] (vI a0 :: vR o :: st) σ K ↔ ∃ r σ1, Ev d m_X5_image [vR o, vI a0] σ r σ1 ∧ Rq d m_L_law X 1267 [l0, l1, l2, l3] (psh r st) σ1 K := k35 hX (show fnd (pgm m_L_law) 1264 = some (1267, 35, 149, 84, 2, []) from rfl) ⟨⟨by simp, by simpa using h4⟩, (by simp only [List.take, List.reverse, List.reverseAux, rcv]; rw [if_neg (by decide +kernel)]; exact decide_eq_true hk)⟩
set_option maxRecDepth 100000 in
theorem l_1267 {d : Nat} {l0 l1 l3 : AV} {st : List AV} {o : Nat} {σ : Sg} {X : Nat} {K : List AV → List AV → Sg → Prop} (hX : 1267 ≠ X) (ho : o ≠ 0) : Rq d m_L_law X 1267 [l0, l1, vR o, l3] st σ K ↔ Rq d m_L_law X 1268 [l0, l1, vR o, l3] (vR o :: st) σ K := k5 hX (show fnd (pgm m_L_law) 1267 = some (1268, 5, 0, 2, 0, []) from rfl) rfl ho
set_option maxRecDepth 100000 in
theorem l_1268 {d : Nat} {l1 l2 l3 : AV} {st : List AV} {o : Nat} {σ : Sg} {X : Nat} {K : List AV → List AV → Sg → Prop} (hX : 1268 ≠ X) (ho : o ≠ 0) : Rq d m_L_law X 1268 [vR o, l1, l2, l3] st σ K ↔ Rq d m_L_law X 1269 [vR o, l1, l2, l3] (vR o :: st) σ K := k5 hX (show fnd (pgm m_L_law) 1268 = some (1269, 5, 0, 0, 0, []) from rfl) rfl ho
set_option maxRecDepth 100000 in
theorem l_1269 {d : Nat} {l0 l1 l2 : AV} {st : List AV} {x : Int} {σ : Sg} {X : Nat} {K : List AV → List AV → Sg → Prop} (hX : 1269 ≠ X)  : Rq d m_L_law X 1269 [l0, l1, l2, vI x] st σ K ↔ Rq d m_L_law X 1270 [l0, l1, l2, vI x] (vI x :: st) σ K := k3 hX (show fnd (pgm m_L_law) 1269 = some (1270, 3, 0, 3, 0, []) from rfl) rfl
set_option maxRecDepth 100000 in
theorem l_1270 {d : Nat} {l0 l1 l2 l3 : AV} {st : List AV} {σ : Sg} {X : Nat} {K : List AV → List AV → Sg → Prop} (hX : 1270 ≠ X)  : Rq d m_L_law X 1270 [l0, l1, l2, l3] st σ K ↔ Rq d m_L_law X 1271 [l0, l1, l2, l3] (vI 1 :: st) σ K := k0 hX (show fnd (pgm m_L_law) 1270 = some (1271, 0, 1, 0, 0, []) from rfl)
set_option maxRecDepth 100000 in
theorem l_1271 {d : Nat} {l0 l1 l2 l3 : AV} {st : List AV} {a b : Int} {σ : Sg} {X : Nat} {K : List AV → List AV → Sg → Prop} (hX : 1271 ≠ X)  : Rq d m_L_law X 1271 [l0, l1, l2, l3] (vI b :: vI a :: st) σ K ↔ Rq d m_L_law X 1272 [l0, l1, l2, l3] (vI (a + b) :: st) σ K := k10_0 hX (show fnd (pgm m_L_law) 1271 = some (1272, 10, 0, 0, 0, []) from rfl)
set_option maxRecDepth 100000 in
theorem l_1272 {d : Nat} {l0 l1 l2 l3 : AV} {st : List AV} {i : Int} {σ : Sg} {X : Nat} {K : List AV → List AV → Sg → Prop} (hX : 1272 ≠ X) (hi : 0 ≤ w32 i ∧ w32 i < σ 999 (-1)) : Rq d m_L_law X 1272 [l0, l1, l2, l3] (vI i :: vR 999 :: st) σ K ↔ Rq d m_L_law X 1273 [l0, l1, l2, l3] (vI (σ 999 (w32 i)) :: st) σ K := k41 hX (show fnd (pgm m_L_law) 1272 = some (1273, 41, 0, 0, 0, []) from rfl) hi
set_option maxRecDepth 100000 in
theorem l_1273 {d : Nat} {l0 l1 l2 l3 : AV} {st : List AV} {o : Nat} {a0 : Int} {σ : Sg} {X : Nat} {K : List AV → List AV → Sg → Prop} (hX : 1273 ≠ X) (h4 : st.length ≤ 4) (hk : kn σ o = (0, 6)) : Rq d m_L_law X 1273 [l0, l1, l2, l3] (vI a0 :: vR o :: st) σ K ↔ ∃ r σ1, Ev d m_X6_image [vR o, vI a0] σ r σ1 ∧ Rq d m_L_law X 1276 [l0, l1, l2, l3] (psh r st) σ1 K := k35 hX (show fnd (pgm m_L_law) 1273 = some (1276, 35, 152, 169, 2, []) from rfl) ⟨⟨by simp, by simpa using h4⟩, (by simp only [List.take, List.reverse, List.reverseAux, rcv]; rw [if_neg (by decide +kernel)]; exact decide_eq_true hk)⟩
set_option maxRecDepth 100000 in
theorem l_1276 {d : Nat} {l0 l1 l2 l3 : AV} {st : List AV} {a b : Int} {σ : Sg} {X : Nat} {K : List AV → List AV → Sg → Prop} (hX : 1276 ≠ X)  : Rq d m_L_law X 1276 [l0, l1, l2, l3] (vI b :: vI a :: st) σ K ↔ if w32 a = w32 b then Rq d m_L_law X 1364 [l0, l1, l2, l3] st σ K else Rq d m_L_law X 1279 [l0, l1, l2, l3] st σ K := k20_0 hX (show fnd (pgm m_L_law) 1276 = some (1279, 20, 0, 0, 1364, []) from rfl)
set_option maxRecDepth 100000 in
theorem l_1279 {d : Nat} {l0 l1 l2 l3 : AV} {st : List AV} {σ : Sg} {X : Nat} {K : List AV → List AV → Sg → Prop} (hX : 1279 ≠ X)  : Rq d m_L_law X 1279 [l0, l1, l2, l3] st σ K ↔ Rq d m_L_law X 1280 [l0, l1, l2, l3] (vI 0 :: st) σ K := k0 hX (show fnd (pgm m_L_law) 1279 = some (1280, 0, 0, 0, 0, []) from rfl)
set_option maxRecDepth 100000 in
theorem l_1281 {d : Nat} {l0 l2 l3 : AV} {st : List AV} {o : Nat} {σ : Sg} {X : Nat} {K : List AV → List AV → Sg → Prop} (hX : 1281 ≠ X) (ho : o ≠ 0) : Rq d m_L_law X 1281 [l0, vR o, l2, l3] st σ K ↔ Rq d m_L_law X 1282 [l0, vR o, l2, l3] (vR o :: st) σ K := k5 hX (show fnd (pgm m_L_law) 1281 = some (1282, 5, 0, 1, 0, []) from rfl) rfl ho
set_option maxRecDepth 100000 in
theorem l_1282 {d : Nat} {l1 l2 l3 : AV} {st : List AV} {o : Nat} {σ : Sg} {X : Nat} {K : List AV → List AV → Sg → Prop} (hX : 1282 ≠ X) (ho : o ≠ 0) : Rq d m_L_law X 1282 [vR o, l1, l2, l3] st σ K ↔ Rq d m_L_law X 1283 [vR o, l1, l2, l3] (vR o :: st) σ K := k5 hX (show fnd (pgm m_L_law) 1282 = some (1283, 5, 0, 0, 0, []) from rfl) rfl ho
set_option maxRecDepth 100000 in
theorem l_1283 {d : Nat} {l0 l1 l2 : AV} {st : List AV} {x : Int} {σ : Sg} {X : Nat} {K : List AV → List AV → Sg → Prop} (hX : 1283 ≠ X)  : Rq d m_L_law X 1283 [l0, l1, l2, vI x] st σ K ↔ Rq d m_L_law X 1284 [l0, l1, l2, vI x] (vI x :: st) σ K := k3 hX (show fnd (pgm m_L_law) 1283 = some (1284, 3, 0, 3, 0, []) from rfl) rfl
set_option maxRecDepth 100000 in
theorem l_1284 {d : Nat} {l0 l1 l2 l3 : AV} {st : List AV} {σ : Sg} {X : Nat} {K : List AV → List AV → Sg → Prop} (hX : 1284 ≠ X)  : Rq d m_L_law X 1284 [l0, l1, l2, l3] st σ K ↔ Rq d m_L_law X 1285 [l0, l1, l2, l3] (vI 1 :: st) σ K := k0 hX (show fnd (pgm m_L_law) 1284 = some (1285, 0, 1, 0, 0, []) from rfl)
set_option maxRecDepth 100000 in
theorem l_1285 {d : Nat} {l0 l1 l2 l3 : AV} {st : List AV} {a b : Int} {σ : Sg} {X : Nat} {K : List AV → List AV → Sg → Prop} (hX : 1285 ≠ X)  : Rq d m_L_law X 1285 [l0, l1, l2, l3] (vI b :: vI a :: st) σ K ↔ Rq d m_L_law X 1286 [l0, l1, l2, l3] (vI (a + b) :: st) σ K := k10_0 hX (show fnd (pgm m_L_law) 1285 = some (1286, 10, 0, 0, 0, []) from rfl)
set_option maxRecDepth 100000 in
theorem l_1286 {d : Nat} {l0 l1 l2 l3 : AV} {st : List AV} {i : Int} {σ : Sg} {X : Nat} {K : List AV → List AV → Sg → Prop} (hX : 1286 ≠ X) (hi : 0 ≤ w32 i ∧ w32 i < σ 999 (-1)) : Rq d m_L_law X 1286 [l0, l1, l2, l3] (vI i :: vR 999 :: st) σ K ↔ Rq d m_L_law X 1287 [l0, l1, l2, l3] (vI (σ 999 (w32 i)) :: st) σ K := k41 hX (show fnd (pgm m_L_law) 1286 = some (1287, 41, 0, 0, 0, []) from rfl) hi
set_option maxRecDepth 100000 in
theorem l_1287 {d : Nat} {l0 l1 l2 l3 : AV} {st : List AV} {o : Nat} {a0 : Int} {σ : Sg} {X : Nat} {K : List AV → List AV → Sg → Prop} (hX : 1287 ≠ X) (h4 : st.length ≤ 4) (hk : kn σ o = (0, 5)) : Rq d m_L_law X 1287 [l0, l1, l2, l3] (vI a0 :: vR o :: st) σ K ↔ ∃ r σ1, Ev d m_X5_from [vR o, vI a0] σ r σ1 ∧ Rq d m_L_law X 1290 [l0, l1, l2, l3] (psh r st) σ1 K := k35 hX (show fnd (pgm m_L_law) 1287 = some (1290, 35, 153, 85, 2, []) from rfl) ⟨⟨by simp, by simpa using h4⟩, (by simp only [List.take, List.reverse, List.reverseAux, rcv]; rw [if_neg (by decide +kernel)]; exact decide_eq_true hk)⟩
set_option maxRecDepth 100000 in
theorem l_1290 {d : Nat} {l0 l1 l3 : AV} {st : List AV} {o : Nat} {σ : Sg} {X : Nat} {K : List AV → List AV → Sg → Prop} (hX : 1290 ≠ X) (ho : o ≠ 0) : Rq d m_L_law X 1290 [l0, l1, vR o, l3] st σ K ↔ Rq d m_L_law X 1291 [l0, l1, vR o, l3] (vR o :: st) σ K := k5 hX (show fnd (pgm m_L_law) 1290 = some (1291, 5, 0, 2, 0, []) from rfl) rfl ho
set_option maxRecDepth 100000 in
theorem l_1291 {d : Nat} {l1 l2 l3 : AV} {st : List AV} {o : Nat} {σ : Sg} {X : Nat} {K : List AV → List AV → Sg → Prop} (hX : 1291 ≠ X) (ho : o ≠ 0) : Rq d m_L_law X 1291 [vR o, l1, l2, l3] st σ K ↔ Rq d m_L_law X 1292 [vR o, l1, l2, l3] (vR o :: st) σ K := k5 hX (show fnd (pgm m_L_law) 1291 = some (1292, 5, 0, 0, 0, []) from rfl) rfl ho
set_option maxRecDepth 100000 in
theorem l_1292 {d : Nat} {l0 l1 l2 : AV} {st : List AV} {x : Int} {σ : Sg} {X : Nat} {K : List AV → List AV → Sg → Prop} (hX : 1292 ≠ X)  : Rq d m_L_law X 1292 [l0, l1, l2, vI x] st σ K ↔ Rq d m_L_law X 1293 [l0, l1, l2, vI x] (vI x :: st) σ K := k3 hX (show fnd (pgm m_L_law) 1292 = some (1293, 3, 0, 3, 0, []) from rfl) rfl
set_option maxRecDepth 100000 in
theorem l_1293 {d : Nat} {l0 l1 l2 l3 : AV} {st : List AV} {σ : Sg} {X : Nat} {K : List AV → List AV → Sg → Prop} (hX : 1293 ≠ X)  : Rq d m_L_law X 1293 [l0, l1, l2, l3] st σ K ↔ Rq d m_L_law X 1294 [l0, l1, l2, l3] (vI 1 :: st) σ K := k0 hX (show fnd (pgm m_L_law) 1293 = some (1294, 0, 1, 0, 0, []) from rfl)
set_option maxRecDepth 100000 in
theorem l_1294 {d : Nat} {l0 l1 l2 l3 : AV} {st : List AV} {a b : Int} {σ : Sg} {X : Nat} {K : List AV → List AV → Sg → Prop} (hX : 1294 ≠ X)  : Rq d m_L_law X 1294 [l0, l1, l2, l3] (vI b :: vI a :: st) σ K ↔ Rq d m_L_law X 1295 [l0, l1, l2, l3] (vI (a + b) :: st) σ K := k10_0 hX (show fnd (pgm m_L_law) 1294 = some (1295, 10, 0, 0, 0, []) from rfl)
set_option maxRecDepth 100000 in
theorem l_1295 {d : Nat} {l0 l1 l2 l3 : AV} {st : List AV} {i : Int} {σ : Sg} {X : Nat} {K : List AV → List AV → Sg → Prop} (hX : 1295 ≠ X) (hi : 0 ≤ w32 i ∧ w32 i < σ 999 (-1)) : Rq d m_L_law X 1295 [l0, l1, l2, l3] (vI i :: vR 999 :: st) σ K ↔ Rq d m_L_law X 1296 [l0, l1, l2, l3] (vI (σ 999 (w32 i)) :: st) σ K := k41 hX (show fnd (pgm m_L_law) 1295 = some (1296, 41, 0, 0, 0, []) from rfl) hi
set_option maxRecDepth 100000 in
theorem l_1296 {d : Nat} {l0 l1 l2 l3 : AV} {st : List AV} {o : Nat} {a0 : Int} {σ : Sg} {X : Nat} {K : List AV → List AV → Sg → Prop} (hX : 1296 ≠ X) (h4 : st.length ≤ 4) (hk : kn σ o = (0, 6)) : Rq d m_L_law X 1296 [l0, l1, l2, l3] (vI a0 :: vR o :: st) σ K ↔ ∃ r σ1, Ev d m_X6_from [vR o, vI a0] σ r σ1 ∧ Rq d m_L_law X 1299 [l0, l1, l2, l3] (psh r st) σ1 K := k35 hX (show fnd (pgm m_L_law) 1296 = some (1299, 35, 156, 170, 2, []) from rfl) ⟨⟨by simp, by simpa using h4⟩, (by simp only [List.take, List.reverse, List.reverseAux, rcv]; rw [if_neg (by decide +kernel)]; exact decide_eq_true hk)⟩
set_option maxRecDepth 100000 in
theorem l_1299 {d : Nat} {l0 l1 l2 l3 : AV} {st : List AV} {a b : Int} {σ : Sg} {X : Nat} {K : List AV → List AV → Sg → Prop} (hX : 1299 ≠ X)  : Rq d m_L_law X 1299 [l0, l1, l2, l3] (vI b :: vI a :: st) σ K ↔ if w32 a = w32 b then Rq d m_L_law X 1364 [l0, l1, l2, l3] st σ K else Rq d m_L_law X 1302 [l0, l1, l2, l3] st σ K := k20_0 hX (show fnd (pgm m_L_law) 1299 = some (1302, 20, 0, 0, 1364, []) from rfl)
set_option maxRecDepth 100000 in
theorem l_1302 {d : Nat} {l0 l1 l2 l3 : AV} {st : List AV} {σ : Sg} {X : Nat} {K : List AV → List AV → Sg → Prop} (hX : 1302 ≠ X)  : Rq d m_L_law X 1302 [l0, l1, l2, l3] st σ K ↔ Rq d m_L_law X 1303 [l0, l1, l2, l3] (vI 0 :: st) σ K := k0 hX (show fnd (pgm m_L_law) 1302 = some (1303, 0, 0, 0, 0, []) from rfl)
set_option maxRecDepth 100000 in
theorem l_1304 {d : Nat} {l0 l2 l3 : AV} {st : List AV} {o : Nat} {σ : Sg} {X : Nat} {K : List AV → List AV → Sg → Prop} (hX : 1304 ≠ X) (ho : o ≠ 0) : Rq d m_L_law X 1304 [l0, vR o, l2, l3] st σ K ↔ Rq d m_L_law X 1305 [l0, vR o, l2, l3] (vR o :: st) σ K := k5 hX (show fnd (pgm m_L_law) 1304 = some (1305, 5, 0, 1, 0, []) from rfl) rfl ho
set_option maxRecDepth 100000 in
theorem l_1305 {d : Nat} {l1 l2 l3 : AV} {st : List AV} {o : Nat} {σ : Sg} {X : Nat} {K : List AV → List AV → Sg → Prop} (hX : 1305 ≠ X) (ho : o ≠ 0) : Rq d m_L_law X 1305 [vR o, l1, l2, l3] st σ K ↔ Rq d m_L_law X 1306 [vR o, l1, l2, l3] (vR o :: st) σ K := k5 hX (show fnd (pgm m_L_law) 1305 = some (1306, 5, 0, 0, 0, []) from rfl) rfl ho
set_option maxRecDepth 100000 in
theorem l_1306 {d : Nat} {l0 l1 l2 : AV} {st : List AV} {x : Int} {σ : Sg} {X : Nat} {K : List AV → List AV → Sg → Prop} (hX : 1306 ≠ X)  : Rq d m_L_law X 1306 [l0, l1, l2, vI x] st σ K ↔ Rq d m_L_law X 1307 [l0, l1, l2, vI x] (vI x :: st) σ K := k3 hX (show fnd (pgm m_L_law) 1306 = some (1307, 3, 0, 3, 0, []) from rfl) rfl
set_option maxRecDepth 100000 in
theorem l_1307 {d : Nat} {l0 l1 l2 l3 : AV} {st : List AV} {σ : Sg} {X : Nat} {K : List AV → List AV → Sg → Prop} (hX : 1307 ≠ X)  : Rq d m_L_law X 1307 [l0, l1, l2, l3] st σ K ↔ Rq d m_L_law X 1308 [l0, l1, l2, l3] (vI 1 :: st) σ K := k0 hX (show fnd (pgm m_L_law) 1307 = some (1308, 0, 1, 0, 0, []) from rfl)
set_option maxRecDepth 100000 in
theorem l_1308 {d : Nat} {l0 l1 l2 l3 : AV} {st : List AV} {a b : Int} {σ : Sg} {X : Nat} {K : List AV → List AV → Sg → Prop} (hX : 1308 ≠ X)  : Rq d m_L_law X 1308 [l0, l1, l2, l3] (vI b :: vI a :: st) σ K ↔ Rq d m_L_law X 1309 [l0, l1, l2, l3] (vI (a + b) :: st) σ K := k10_0 hX (show fnd (pgm m_L_law) 1308 = some (1309, 10, 0, 0, 0, []) from rfl)
set_option maxRecDepth 100000 in
theorem l_1309 {d : Nat} {l0 l1 l2 l3 : AV} {st : List AV} {i : Int} {σ : Sg} {X : Nat} {K : List AV → List AV → Sg → Prop} (hX : 1309 ≠ X) (hi : 0 ≤ w32 i ∧ w32 i < σ 999 (-1)) : Rq d m_L_law X 1309 [l0, l1, l2, l3] (vI i :: vR 999 :: st) σ K ↔ Rq d m_L_law X 1310 [l0, l1, l2, l3] (vI (σ 999 (w32 i)) :: st) σ K := k41 hX (show fnd (pgm m_L_law) 1309 = some (1310, 41, 0, 0, 0, []) from rfl) hi
set_option maxRecDepth 100000 in
theorem l_1310 {d : Nat} {l0 l1 l2 l3 : AV} {st : List AV} {o : Nat} {a0 : Int} {σ : Sg} {X : Nat} {K : List AV → List AV → Sg → Prop} (hX : 1310 ≠ X) (h4 : st.length ≤ 4) (hk : kn σ o = (0, 5)) : Rq d m_L_law X 1310 [l0, l1, l2, l3] (vI a0 :: vR o :: st) σ K ↔ ∃ r σ1, Ev d m_X5_status [vR o, vI a0] σ r σ1 ∧ Rq d m_L_law X 1313 [l0, l1, l2, l3] (psh r st) σ1 K := k35 hX (show fnd (pgm m_L_law) 1310 = some (1313, 35, 157, 86, 2, []) from rfl) ⟨⟨by simp, by simpa using h4⟩, (by simp only [List.take, List.reverse, List.reverseAux, rcv]; rw [if_neg (by decide +kernel)]; exact decide_eq_true hk)⟩
set_option maxRecDepth 100000 in
theorem l_1313 {d : Nat} {l0 l1 l3 : AV} {st : List AV} {o : Nat} {σ : Sg} {X : Nat} {K : List AV → List AV → Sg → Prop} (hX : 1313 ≠ X) (ho : o ≠ 0) : Rq d m_L_law X 1313 [l0, l1, vR o, l3] st σ K ↔ Rq d m_L_law X 1314 [l0, l1, vR o, l3] (vR o :: st) σ K := k5 hX (show fnd (pgm m_L_law) 1313 = some (1314, 5, 0, 2, 0, []) from rfl) rfl ho
set_option maxRecDepth 100000 in
theorem l_1314 {d : Nat} {l1 l2 l3 : AV} {st : List AV} {o : Nat} {σ : Sg} {X : Nat} {K : List AV → List AV → Sg → Prop} (hX : 1314 ≠ X) (ho : o ≠ 0) : Rq d m_L_law X 1314 [vR o, l1, l2, l3] st σ K ↔ Rq d m_L_law X 1315 [vR o, l1, l2, l3] (vR o :: st) σ K := k5 hX (show fnd (pgm m_L_law) 1314 = some (1315, 5, 0, 0, 0, []) from rfl) rfl ho
set_option maxRecDepth 100000 in
theorem l_1315 {d : Nat} {l0 l1 l2 : AV} {st : List AV} {x : Int} {σ : Sg} {X : Nat} {K : List AV → List AV → Sg → Prop} (hX : 1315 ≠ X)  : Rq d m_L_law X 1315 [l0, l1, l2, vI x] st σ K ↔ Rq d m_L_law X 1316 [l0, l1, l2, vI x] (vI x :: st) σ K := k3 hX (show fnd (pgm m_L_law) 1315 = some (1316, 3, 0, 3, 0, []) from rfl) rfl
set_option maxRecDepth 100000 in
theorem l_1316 {d : Nat} {l0 l1 l2 l3 : AV} {st : List AV} {σ : Sg} {X : Nat} {K : List AV → List AV → Sg → Prop} (hX : 1316 ≠ X)  : Rq d m_L_law X 1316 [l0, l1, l2, l3] st σ K ↔ Rq d m_L_law X 1317 [l0, l1, l2, l3] (vI 1 :: st) σ K := k0 hX (show fnd (pgm m_L_law) 1316 = some (1317, 0, 1, 0, 0, []) from rfl)
set_option maxRecDepth 100000 in
theorem l_1317 {d : Nat} {l0 l1 l2 l3 : AV} {st : List AV} {a b : Int} {σ : Sg} {X : Nat} {K : List AV → List AV → Sg → Prop} (hX : 1317 ≠ X)  : Rq d m_L_law X 1317 [l0, l1, l2, l3] (vI b :: vI a :: st) σ K ↔ Rq d m_L_law X 1318 [l0, l1, l2, l3] (vI (a + b) :: st) σ K := k10_0 hX (show fnd (pgm m_L_law) 1317 = some (1318, 10, 0, 0, 0, []) from rfl)
set_option maxRecDepth 100000 in
theorem l_1318 {d : Nat} {l0 l1 l2 l3 : AV} {st : List AV} {i : Int} {σ : Sg} {X : Nat} {K : List AV → List AV → Sg → Prop} (hX : 1318 ≠ X) (hi : 0 ≤ w32 i ∧ w32 i < σ 999 (-1)) : Rq d m_L_law X 1318 [l0, l1, l2, l3] (vI i :: vR 999 :: st) σ K ↔ Rq d m_L_law X 1319 [l0, l1, l2, l3] (vI (σ 999 (w32 i)) :: st) σ K := k41 hX (show fnd (pgm m_L_law) 1318 = some (1319, 41, 0, 0, 0, []) from rfl) hi
set_option maxRecDepth 100000 in
theorem l_1319 {d : Nat} {l0 l1 l2 l3 : AV} {st : List AV} {o : Nat} {a0 : Int} {σ : Sg} {X : Nat} {K : List AV → List AV → Sg → Prop} (hX : 1319 ≠ X) (h4 : st.length ≤ 4) (hk : kn σ o = (0, 6)) : Rq d m_L_law X 1319 [l0, l1, l2, l3] (vI a0 :: vR o :: st) σ K ↔ ∃ r σ1, Ev d m_X6_status [vR o, vI a0] σ r σ1 ∧ Rq d m_L_law X 1322 [l0, l1, l2, l3] (psh r st) σ1 K := k35 hX (show fnd (pgm m_L_law) 1319 = some (1322, 35, 160, 171, 2, []) from rfl) ⟨⟨by simp, by simpa using h4⟩, (by simp only [List.take, List.reverse, List.reverseAux, rcv]; rw [if_neg (by decide +kernel)]; exact decide_eq_true hk)⟩
set_option maxRecDepth 100000 in
theorem l_1322 {d : Nat} {l0 l1 l2 l3 : AV} {st : List AV} {a b : Int} {σ : Sg} {X : Nat} {K : List AV → List AV → Sg → Prop} (hX : 1322 ≠ X)  : Rq d m_L_law X 1322 [l0, l1, l2, l3] (vI b :: vI a :: st) σ K ↔ if w32 a = w32 b then Rq d m_L_law X 1364 [l0, l1, l2, l3] st σ K else Rq d m_L_law X 1325 [l0, l1, l2, l3] st σ K := k20_0 hX (show fnd (pgm m_L_law) 1322 = some (1325, 20, 0, 0, 1364, []) from rfl)
set_option maxRecDepth 100000 in
theorem l_1325 {d : Nat} {l0 l1 l2 l3 : AV} {st : List AV} {σ : Sg} {X : Nat} {K : List AV → List AV → Sg → Prop} (hX : 1325 ≠ X)  : Rq d m_L_law X 1325 [l0, l1, l2, l3] st σ K ↔ Rq d m_L_law X 1326 [l0, l1, l2, l3] (vI 0 :: st) σ K := k0 hX (show fnd (pgm m_L_law) 1325 = some (1326, 0, 0, 0, 0, []) from rfl)
set_option maxRecDepth 100000 in
theorem l_1327 {d : Nat} {l0 l2 l3 : AV} {st : List AV} {o : Nat} {σ : Sg} {X : Nat} {K : List AV → List AV → Sg → Prop} (hX : 1327 ≠ X) (ho : o ≠ 0) : Rq d m_L_law X 1327 [l0, vR o, l2, l3] st σ K ↔ Rq d m_L_law X 1328 [l0, vR o, l2, l3] (vR o :: st) σ K := k5 hX (show fnd (pgm m_L_law) 1327 = some (1328, 5, 0, 1, 0, []) from rfl) rfl ho
set_option maxRecDepth 100000 in
theorem l_1328 {d : Nat} {l1 l2 l3 : AV} {st : List AV} {o : Nat} {σ : Sg} {X : Nat} {K : List AV → List AV → Sg → Prop} (hX : 1328 ≠ X) (ho : o ≠ 0) : Rq d m_L_law X 1328 [vR o, l1, l2, l3] st σ K ↔ Rq d m_L_law X 1329 [vR o, l1, l2, l3] (vR o :: st) σ K := k5 hX (show fnd (pgm m_L_law) 1328 = some (1329, 5, 0, 0, 0, []) from rfl) rfl ho
set_option maxRecDepth 100000 in
theorem l_1329 {d : Nat} {l0 l1 l2 : AV} {st : List AV} {x : Int} {σ : Sg} {X : Nat} {K : List AV → List AV → Sg → Prop} (hX : 1329 ≠ X)  : Rq d m_L_law X 1329 [l0, l1, l2, vI x] st σ K ↔ Rq d m_L_law X 1330 [l0, l1, l2, vI x] (vI x :: st) σ K := k3 hX (show fnd (pgm m_L_law) 1329 = some (1330, 3, 0, 3, 0, []) from rfl) rfl
set_option maxRecDepth 100000 in
theorem l_1330 {d : Nat} {l0 l1 l2 l3 : AV} {st : List AV} {σ : Sg} {X : Nat} {K : List AV → List AV → Sg → Prop} (hX : 1330 ≠ X)  : Rq d m_L_law X 1330 [l0, l1, l2, l3] st σ K ↔ Rq d m_L_law X 1331 [l0, l1, l2, l3] (vI 1 :: st) σ K := k0 hX (show fnd (pgm m_L_law) 1330 = some (1331, 0, 1, 0, 0, []) from rfl)
set_option maxRecDepth 100000 in
theorem l_1331 {d : Nat} {l0 l1 l2 l3 : AV} {st : List AV} {a b : Int} {σ : Sg} {X : Nat} {K : List AV → List AV → Sg → Prop} (hX : 1331 ≠ X)  : Rq d m_L_law X 1331 [l0, l1, l2, l3] (vI b :: vI a :: st) σ K ↔ Rq d m_L_law X 1332 [l0, l1, l2, l3] (vI (a + b) :: st) σ K := k10_0 hX (show fnd (pgm m_L_law) 1331 = some (1332, 10, 0, 0, 0, []) from rfl)
set_option maxRecDepth 100000 in
theorem l_1332 {d : Nat} {l0 l1 l2 l3 : AV} {st : List AV} {i : Int} {σ : Sg} {X : Nat} {K : List AV → List AV → Sg → Prop} (hX : 1332 ≠ X) (hi : 0 ≤ w32 i ∧ w32 i < σ 999 (-1)) : Rq d m_L_law X 1332 [l0, l1, l2, l3] (vI i :: vR 999 :: st) σ K ↔ Rq d m_L_law X 1333 [l0, l1, l2, l3] (vI (σ 999 (w32 i)) :: st) σ K := k41 hX (show fnd (pgm m_L_law) 1332 = some (1333, 41, 0, 0, 0, []) from rfl) hi
set_option maxRecDepth 100000 in
theorem l_1333 {d : Nat} {l0 l1 l2 l3 : AV} {st : List AV} {o : Nat} {a0 : Int} {σ : Sg} {X : Nat} {K : List AV → List AV → Sg → Prop} (hX : 1333 ≠ X) (h4 : st.length ≤ 4) (hk : kn σ o = (0, 5)) : Rq d m_L_law X 1333 [l0, l1, l2, l3] (vI a0 :: vR o :: st) σ K ↔ ∃ r σ1, Ev d m_X5_count [vR o, vI a0] σ r σ1 ∧ Rq d m_L_law X 1336 [l0, l1, l2, l3] (psh r st) σ1 K := k35 hX (show fnd (pgm m_L_law) 1333 = some (1336, 35, 161, 87, 2, []) from rfl) ⟨⟨by simp, by simpa using h4⟩, (by simp only [List.take, List.reverse, List.reverseAux, rcv]; rw [if_neg (by decide +kernel)]; exact decide_eq_true hk)⟩
set_option maxRecDepth 100000 in
theorem l_1336 {d : Nat} {l0 l1 l3 : AV} {st : List AV} {o : Nat} {σ : Sg} {X : Nat} {K : List AV → List AV → Sg → Prop} (hX : 1336 ≠ X) (ho : o ≠ 0) : Rq d m_L_law X 1336 [l0, l1, vR o, l3] st σ K ↔ Rq d m_L_law X 1337 [l0, l1, vR o, l3] (vR o :: st) σ K := k5 hX (show fnd (pgm m_L_law) 1336 = some (1337, 5, 0, 2, 0, []) from rfl) rfl ho
set_option maxRecDepth 100000 in
theorem l_1337 {d : Nat} {l1 l2 l3 : AV} {st : List AV} {o : Nat} {σ : Sg} {X : Nat} {K : List AV → List AV → Sg → Prop} (hX : 1337 ≠ X) (ho : o ≠ 0) : Rq d m_L_law X 1337 [vR o, l1, l2, l3] st σ K ↔ Rq d m_L_law X 1338 [vR o, l1, l2, l3] (vR o :: st) σ K := k5 hX (show fnd (pgm m_L_law) 1337 = some (1338, 5, 0, 0, 0, []) from rfl) rfl ho
set_option maxRecDepth 100000 in
theorem l_1338 {d : Nat} {l0 l1 l2 : AV} {st : List AV} {x : Int} {σ : Sg} {X : Nat} {K : List AV → List AV → Sg → Prop} (hX : 1338 ≠ X)  : Rq d m_L_law X 1338 [l0, l1, l2, vI x] st σ K ↔ Rq d m_L_law X 1339 [l0, l1, l2, vI x] (vI x :: st) σ K := k3 hX (show fnd (pgm m_L_law) 1338 = some (1339, 3, 0, 3, 0, []) from rfl) rfl
set_option maxRecDepth 100000 in
theorem l_1339 {d : Nat} {l0 l1 l2 l3 : AV} {st : List AV} {σ : Sg} {X : Nat} {K : List AV → List AV → Sg → Prop} (hX : 1339 ≠ X)  : Rq d m_L_law X 1339 [l0, l1, l2, l3] st σ K ↔ Rq d m_L_law X 1340 [l0, l1, l2, l3] (vI 1 :: st) σ K := k0 hX (show fnd (pgm m_L_law) 1339 = some (1340, 0, 1, 0, 0, []) from rfl)
set_option maxRecDepth 100000 in
theorem l_1340 {d : Nat} {l0 l1 l2 l3 : AV} {st : List AV} {a b : Int} {σ : Sg} {X : Nat} {K : List AV → List AV → Sg → Prop} (hX : 1340 ≠ X)  : Rq d m_L_law X 1340 [l0, l1, l2, l3] (vI b :: vI a :: st) σ K ↔ Rq d m_L_law X 1341 [l0, l1, l2, l3] (vI (a + b) :: st) σ K := k10_0 hX (show fnd (pgm m_L_law) 1340 = some (1341, 10, 0, 0, 0, []) from rfl)
set_option maxRecDepth 100000 in
theorem l_1341 {d : Nat} {l0 l1 l2 l3 : AV} {st : List AV} {i : Int} {σ : Sg} {X : Nat} {K : List AV → List AV → Sg → Prop} (hX : 1341 ≠ X) (hi : 0 ≤ w32 i ∧ w32 i < σ 999 (-1)) : Rq d m_L_law X 1341 [l0, l1, l2, l3] (vI i :: vR 999 :: st) σ K ↔ Rq d m_L_law X 1342 [l0, l1, l2, l3] (vI (σ 999 (w32 i)) :: st) σ K := k41 hX (show fnd (pgm m_L_law) 1341 = some (1342, 41, 0, 0, 0, []) from rfl) hi
set_option maxRecDepth 100000 in
theorem l_1342 {d : Nat} {l0 l1 l2 l3 : AV} {st : List AV} {o : Nat} {a0 : Int} {σ : Sg} {X : Nat} {K : List AV → List AV → Sg → Prop} (hX : 1342 ≠ X) (h4 : st.length ≤ 4) (hk : kn σ o = (0, 6)) : Rq d m_L_law X 1342 [l0, l1, l2, l3] (vI a0 :: vR o :: st) σ K ↔ ∃ r σ1, Ev d m_X6_count [vR o, vI a0] σ r σ1 ∧ Rq d m_L_law X 1345 [l0, l1, l2, l3] (psh r st) σ1 K := k35 hX (show fnd (pgm m_L_law) 1342 = some (1345, 35, 164, 173, 2, []) from rfl) ⟨⟨by simp, by simpa using h4⟩, (by simp only [List.take, List.reverse, List.reverseAux, rcv]; rw [if_neg (by decide +kernel)]; exact decide_eq_true hk)⟩
set_option maxRecDepth 100000 in
theorem l_1345 {d : Nat} {l0 l1 l2 l3 : AV} {st : List AV} {a b : Int} {σ : Sg} {X : Nat} {K : List AV → List AV → Sg → Prop} (hX : 1345 ≠ X)  : Rq d m_L_law X 1345 [l0, l1, l2, l3] (vI b :: vI a :: st) σ K ↔ if w32 a = w32 b then Rq d m_L_law X 1364 [l0, l1, l2, l3] st σ K else Rq d m_L_law X 1348 [l0, l1, l2, l3] st σ K := k20_0 hX (show fnd (pgm m_L_law) 1345 = some (1348, 20, 0, 0, 1364, []) from rfl)
set_option maxRecDepth 100000 in
theorem l_1348 {d : Nat} {l0 l1 l2 l3 : AV} {st : List AV} {σ : Sg} {X : Nat} {K : List AV → List AV → Sg → Prop} (hX : 1348 ≠ X)  : Rq d m_L_law X 1348 [l0, l1, l2, l3] st σ K ↔ Rq d m_L_law X 1349 [l0, l1, l2, l3] (vI 0 :: st) σ K := k0 hX (show fnd (pgm m_L_law) 1348 = some (1349, 0, 0, 0, 0, []) from rfl)
set_option maxRecDepth 100000 in
theorem l_1350 {d : Nat} {l0 l2 l3 : AV} {st : List AV} {o : Nat} {σ : Sg} {X : Nat} {K : List AV → List AV → Sg → Prop} (hX : 1350 ≠ X) (ho : o ≠ 0) : Rq d m_L_law X 1350 [l0, vR o, l2, l3] st σ K ↔ Rq d m_L_law X 1351 [l0, vR o, l2, l3] (vR o :: st) σ K := k5 hX (show fnd (pgm m_L_law) 1350 = some (1351, 5, 0, 1, 0, []) from rfl) rfl ho
set_option maxRecDepth 100000 in
theorem l_1351 {d : Nat} {l0 l1 l2 l3 : AV} {st : List AV} {o : Nat} {σ : Sg} {X : Nat} {K : List AV → List AV → Sg → Prop} (hX : 1351 ≠ X) (h4 : st.length ≤ 4) (hk : kn σ o = (0, 5)) : Rq d m_L_law X 1351 [l0, l1, l2, l3] (vR o :: st) σ K ↔ ∃ r σ1, Ev d m_X5_digest [vR o] σ r σ1 ∧ Rq d m_L_law X 1354 [l0, l1, l2, l3] (psh r st) σ1 K := k35 hX (show fnd (pgm m_L_law) 1351 = some (1354, 35, 165, 88, 1, []) from rfl) ⟨⟨by simp, by simpa using h4⟩, (by simp only [List.take, List.reverse, List.reverseAux, rcv]; rw [if_neg (by decide +kernel)]; exact decide_eq_true hk)⟩
set_option maxRecDepth 100000 in
theorem l_1354 {d : Nat} {l0 l1 l3 : AV} {st : List AV} {o : Nat} {σ : Sg} {X : Nat} {K : List AV → List AV → Sg → Prop} (hX : 1354 ≠ X) (ho : o ≠ 0) : Rq d m_L_law X 1354 [l0, l1, vR o, l3] st σ K ↔ Rq d m_L_law X 1355 [l0, l1, vR o, l3] (vR o :: st) σ K := k5 hX (show fnd (pgm m_L_law) 1354 = some (1355, 5, 0, 2, 0, []) from rfl) rfl ho
set_option maxRecDepth 100000 in
theorem l_1355 {d : Nat} {l0 l1 l2 l3 : AV} {st : List AV} {o : Nat} {σ : Sg} {X : Nat} {K : List AV → List AV → Sg → Prop} (hX : 1355 ≠ X) (h4 : st.length ≤ 4) (hk : kn σ o = (0, 6)) : Rq d m_L_law X 1355 [l0, l1, l2, l3] (vR o :: st) σ K ↔ ∃ r σ1, Ev d m_X6_digest [vR o] σ r σ1 ∧ Rq d m_L_law X 1358 [l0, l1, l2, l3] (psh r st) σ1 K := k35 hX (show fnd (pgm m_L_law) 1355 = some (1358, 35, 169, 174, 1, []) from rfl) ⟨⟨by simp, by simpa using h4⟩, (by simp only [List.take, List.reverse, List.reverseAux, rcv]; rw [if_neg (by decide +kernel)]; exact decide_eq_true hk)⟩
set_option maxRecDepth 100000 in
theorem l_1358 {d : Nat} {l0 l1 l2 l3 : AV} {st : List AV} {a b : Int} {σ : Sg} {X : Nat} {K : List AV → List AV → Sg → Prop} (hX : 1358 ≠ X)  : Rq d m_L_law X 1358 [l0, l1, l2, l3] (vL b :: vL a :: st) σ K ↔ Rq d m_L_law X 1359 [l0, l1, l2, l3] (vI (cmpL a b) :: st) σ K := k16 hX (show fnd (pgm m_L_law) 1358 = some (1359, 16, 0, 0, 0, []) from rfl)
set_option maxRecDepth 100000 in
theorem l_1359 {d : Nat} {l0 l1 l2 l3 : AV} {st : List AV} {a : Int} {σ : Sg} {X : Nat} {K : List AV → List AV → Sg → Prop} (hX : 1359 ≠ X)  : Rq d m_L_law X 1359 [l0, l1, l2, l3] (vI a :: st) σ K ↔ if w32 a = 0 then Rq d m_L_law X 1364 [l0, l1, l2, l3] st σ K else Rq d m_L_law X 1362 [l0, l1, l2, l3] st σ K := k19_0 hX (show fnd (pgm m_L_law) 1359 = some (1362, 19, 0, 0, 1364, []) from rfl)
set_option maxRecDepth 100000 in
theorem l_1362 {d : Nat} {l0 l1 l2 l3 : AV} {st : List AV} {σ : Sg} {X : Nat} {K : List AV → List AV → Sg → Prop} (hX : 1362 ≠ X)  : Rq d m_L_law X 1362 [l0, l1, l2, l3] st σ K ↔ Rq d m_L_law X 1363 [l0, l1, l2, l3] (vI 0 :: st) σ K := k0 hX (show fnd (pgm m_L_law) 1362 = some (1363, 0, 0, 0, 0, []) from rfl)
set_option maxRecDepth 100000 in
theorem l_1364 {d : Nat} {l0 l1 l2 : AV} {st : List AV} {x : Int} {σ : Sg} {X : Nat} {K : List AV → List AV → Sg → Prop} (hX : 1364 ≠ X)  : Rq d m_L_law X 1364 [l0, l1, l2, vI x] st σ K ↔ Rq d m_L_law X 1367 [l0, l1, l2, vI (x + 6)] st σ K := k9 hX (show fnd (pgm m_L_law) 1364 = some (1367, 9, 6, 3, 0, []) from rfl) rfl
set_option maxRecDepth 100000 in
theorem l_1367 {d : Nat} {l0 l1 l2 l3 : AV} {st : List AV} {σ : Sg} {X : Nat} {K : List AV → List AV → Sg → Prop} (hX : 1367 ≠ X)  : Rq d m_L_law X 1367 [l0, l1, l2, l3] st σ K ↔ Rq d m_L_law X 18 [l0, l1, l2, l3] st σ K := k21 hX (show fnd (pgm m_L_law) 1367 = some (1370, 21, 0, 0, 18, []) from rfl)
set_option maxRecDepth 100000 in
theorem l_1370 {d : Nat} {l0 l1 l2 l3 : AV} {st : List AV} {σ : Sg} {X : Nat} {K : List AV → List AV → Sg → Prop} (hX : 1370 ≠ X)  : Rq d m_L_law X 1370 [l0, l1, l2, l3] st σ K ↔ Rq d m_L_law X 1371 [l0, l1, l2, l3] (vI 1 :: st) σ K := k0 hX (show fnd (pgm m_L_law) 1370 = some (1371, 0, 1, 0, 0, []) from rfl)
