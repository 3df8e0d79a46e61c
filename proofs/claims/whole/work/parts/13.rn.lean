theorem q0 {d y pc nx t : Nat} {ls st : List AV} {σ : Sg} {Q : AV → Sg → Prop} {tb : List (Int × Nat)} {v : Int} {k : Nat} (h : fnd (pgm y) pc = some (nx, 0, v, k, t, tb)) : Rn d y pc ls st σ Q ↔ Rn d y nx ls (vI v :: st) σ Q := Rn_nx (by simp only [stp, h]; rfl)
theorem q1 {d y pc nx t : Nat} {ls st : List AV} {σ : Sg} {Q : AV → Sg → Prop} {tb : List (Int × Nat)} {v : Int} {k : Nat} (h : fnd (pgm y) pc = some (nx, 1, v, k, t, tb)) : Rn d y pc ls st σ Q ↔ Rn d y nx ls (vL v :: st) σ Q := Rn_nx (by simp only [stp, h]; rfl)
theorem q2 {d y pc nx t : Nat} {ls st : List AV} {σ : Sg} {Q : AV → Sg → Prop} {tb : List (Int × Nat)} {v : Int} {k : Nat} (h : fnd (pgm y) pc = some (nx, 2, v, k, t, tb)) : Rn d y pc ls st σ Q ↔ Rn d y nx ls (vR 0 :: st) σ Q := Rn_nx (by simp only [stp, h]; rfl)
theorem q3 {d y pc nx t : Nat} {ls st : List AV} {σ : Sg} {Q : AV → Sg → Prop} {tb : List (Int × Nat)} {v x : Int} {k : Nat} (h : fnd (pgm y) pc = some (nx, 3, v, k, t, tb)) (hl : ls[k]? = some (vI x)) : Rn d y pc ls st σ Q ↔ Rn d y nx ls (vI x :: st) σ Q := Rn_nx (by simp only [stp, h]; simp only [exe, hl])
theorem q4 {d y pc nx t : Nat} {ls st : List AV} {σ : Sg} {Q : AV → Sg → Prop} {tb : List (Int × Nat)} {v x : Int} {k : Nat} (h : fnd (pgm y) pc = some (nx, 4, v, k, t, tb)) (hl : ls[k]? = some (vL x)) (h2 : ls[k + 1]? = some none) : Rn d y pc ls st σ Q ↔ Rn d y nx ls (vL x :: st) σ Q := Rn_nx (by simp only [stp, h]; simp only [exe, hl, h2])
theorem q5 {d y pc nx t : Nat} {ls st : List AV} {σ : Sg} {Q : AV → Sg → Prop} {tb : List (Int × Nat)} {v : Int} {k o : Nat} (h : fnd (pgm y) pc = some (nx, 5, v, k, t, tb)) (hl : ls[k]? = some (vR o)) (ho : o ≠ 0) : Rn d y pc ls st σ Q ↔ Rn d y nx ls (vR o :: st) σ Q := Rn_nx (by simp only [stp, h]; simp only [exe, hl, if_neg ho])
theorem q6 {d y pc nx t : Nat} {ls st : List AV} {σ : Sg} {Q : AV → Sg → Prop} {tb : List (Int × Nat)} {v x : Int} {k : Nat} (h : fnd (pgm y) pc = some (nx, 6, v, k, t, tb)) (hk : k < ls.length) : Rn d y pc ls (vI x :: st) σ Q ↔ Rn d y nx (ls.set k (vI x)) st σ Q := Rn_nx (by simp only [stp, h]; simp only [exe, if_pos hk])
theorem q7 {d y pc nx t : Nat} {ls st : List AV} {σ : Sg} {Q : AV → Sg → Prop} {tb : List (Int × Nat)} {v x : Int} {k : Nat} (h : fnd (pgm y) pc = some (nx, 7, v, k, t, tb)) (hk : k + 1 < ls.length) : Rn d y pc ls (vL x :: st) σ Q ↔ Rn d y nx ((ls.set k (vL x)).set (k + 1) none) st σ Q := Rn_nx (by simp only [stp, h]; simp only [exe, if_pos hk])
theorem q8 {d y pc nx t : Nat} {ls st : List AV} {σ : Sg} {Q : AV → Sg → Prop} {tb : List (Int × Nat)} {v : Int} {k o : Nat} (h : fnd (pgm y) pc = some (nx, 8, v, k, t, tb)) (hk : k < ls.length) (ho : o ≠ 0) : Rn d y pc ls (vR o :: st) σ Q ↔ Rn d y nx (ls.set k (vR o)) st σ Q := Rn_nx (by simp only [stp, h]; simp only [exe, if_pos hk, if_neg ho])
theorem q9 {d y pc nx t : Nat} {ls st : List AV} {σ : Sg} {Q : AV → Sg → Prop} {tb : List (Int × Nat)} {v x : Int} {k : Nat} (h : fnd (pgm y) pc = some (nx, 9, v, k, t, tb)) (hl : ls[k]? = some (vI x)) : Rn d y pc ls st σ Q ↔ Rn d y nx (ls.set k (vI (x + v))) st σ Q := Rn_nx (by simp only [stp, h]; simp only [exe, hl])
theorem q10_0 {d y pc nx t : Nat} {ls st : List AV} {σ : Sg} {Q : AV → Sg → Prop} {tb : List (Int × Nat)} {v a b : Int} (h : fnd (pgm y) pc = some (nx, 10, v, 0, t, tb)) : Rn d y pc ls (vI b :: vI a :: st) σ Q ↔ Rn d y nx ls (vI (a + b) :: st) σ Q := Rn_nx (by simp only [stp, h]; simp only [exe, ib, Option.map_some])
theorem q10_1 {d y pc nx t : Nat} {ls st : List AV} {σ : Sg} {Q : AV → Sg → Prop} {tb : List (Int × Nat)} {v a b : Int} (h : fnd (pgm y) pc = some (nx, 10, v, 1, t, tb)) : Rn d y pc ls (vI b :: vI a :: st) σ Q ↔ Rn d y nx ls (vI (a - b) :: st) σ Q := Rn_nx (by simp only [stp, h]; simp only [exe, ib, Option.map_some])
theorem q10_2 {d y pc nx t : Nat} {ls st : List AV} {σ : Sg} {Q : AV → Sg → Prop} {tb : List (Int × Nat)} {v a b : Int} (h : fnd (pgm y) pc = some (nx, 10, v, 2, t, tb)) : Rn d y pc ls (vI b :: vI a :: st) σ Q ↔ Rn d y nx ls (vI (a * b) :: st) σ Q := Rn_nx (by simp only [stp, h]; simp only [exe, ib, Option.map_some])
theorem q10_3 {d y pc nx t : Nat} {ls st : List AV} {σ : Sg} {Q : AV → Sg → Prop} {tb : List (Int × Nat)} {v a b : Int} (h : fnd (pgm y) pc = some (nx, 10, v, 3, t, tb)) (h0 : w32 b ≠ 0) : Rn d y pc ls (vI b :: vI a :: st) σ Q ↔ Rn d y nx ls (vI (div32 a b) :: st) σ Q := Rn_nx (by simp only [stp, h]; simp only [exe, ib, if_neg h0, Option.map_some])
theorem q10_4 {d y pc nx t : Nat} {ls st : List AV} {σ : Sg} {Q : AV → Sg → Prop} {tb : List (Int × Nat)} {v a b : Int} (h : fnd (pgm y) pc = some (nx, 10, v, 4, t, tb)) (h0 : w32 b ≠ 0) : Rn d y pc ls (vI b :: vI a :: st) σ Q ↔ Rn d y nx ls (vI (rem32 a b) :: st) σ Q := Rn_nx (by simp only [stp, h]; simp only [exe, ib, if_neg h0, Option.map_some])
theorem q10_5 {d y pc nx t : Nat} {ls st : List AV} {σ : Sg} {Q : AV → Sg → Prop} {tb : List (Int × Nat)} {v a b : Int} (h : fnd (pgm y) pc = some (nx, 10, v, 5, t, tb)) : Rn d y pc ls (vI b :: vI a :: st) σ Q ↔ Rn d y nx ls (vI (and32 a b) :: st) σ Q := Rn_nx (by simp only [stp, h]; simp only [exe, ib, Option.map_some])
theorem q10_6 {d y pc nx t : Nat} {ls st : List AV} {σ : Sg} {Q : AV → Sg → Prop} {tb : List (Int × Nat)} {v a b : Int} (h : fnd (pgm y) pc = some (nx, 10, v, 6, t, tb)) : Rn d y pc ls (vI b :: vI a :: st) σ Q ↔ Rn d y nx ls (vI (or32 a b) :: st) σ Q := Rn_nx (by simp only [stp, h]; simp only [exe, ib, Option.map_some])
theorem q10_7 {d y pc nx t : Nat} {ls st : List AV} {σ : Sg} {Q : AV → Sg → Prop} {tb : List (Int × Nat)} {v a b : Int} (h : fnd (pgm y) pc = some (nx, 10, v, 7, t, tb)) : Rn d y pc ls (vI b :: vI a :: st) σ Q ↔ Rn d y nx ls (vI (xor32 a b) :: st) σ Q := Rn_nx (by simp only [stp, h]; simp only [exe, ib, Option.map_some])
theorem q10_8 {d y pc nx t : Nat} {ls st : List AV} {σ : Sg} {Q : AV → Sg → Prop} {tb : List (Int × Nat)} {v a b : Int} (h : fnd (pgm y) pc = some (nx, 10, v, 8, t, tb)) : Rn d y pc ls (vI b :: vI a :: st) σ Q ↔ Rn d y nx ls (vI (shl32 a b) :: st) σ Q := Rn_nx (by simp only [stp, h]; simp only [exe, ib, Option.map_some])
theorem q10_9 {d y pc nx t : Nat} {ls st : List AV} {σ : Sg} {Q : AV → Sg → Prop} {tb : List (Int × Nat)} {v a b : Int} (h : fnd (pgm y) pc = some (nx, 10, v, 9, t, tb)) : Rn d y pc ls (vI b :: vI a :: st) σ Q ↔ Rn d y nx ls (vI (shr32 a b) :: st) σ Q := Rn_nx (by simp only [stp, h]; simp only [exe, ib, Option.map_some])
theorem q10_10 {d y pc nx t : Nat} {ls st : List AV} {σ : Sg} {Q : AV → Sg → Prop} {tb : List (Int × Nat)} {v a b : Int} (h : fnd (pgm y) pc = some (nx, 10, v, 10, t, tb)) : Rn d y pc ls (vI b :: vI a :: st) σ Q ↔ Rn d y nx ls (vI (ushr32 a b) :: st) σ Q := Rn_nx (by simp only [stp, h]; simp only [exe, ib, Option.map_some])
theorem q11_0 {d y pc nx t : Nat} {ls st : List AV} {σ : Sg} {Q : AV → Sg → Prop} {tb : List (Int × Nat)} {v a b : Int} (h : fnd (pgm y) pc = some (nx, 11, v, 0, t, tb)) : Rn d y pc ls (vL b :: vL a :: st) σ Q ↔ Rn d y nx ls (vL (a + b) :: st) σ Q := Rn_nx (by simp only [stp, h]; simp only [exe, lb, Option.map_some])
theorem q11_1 {d y pc nx t : Nat} {ls st : List AV} {σ : Sg} {Q : AV → Sg → Prop} {tb : List (Int × Nat)} {v a b : Int} (h : fnd (pgm y) pc = some (nx, 11, v, 1, t, tb)) : Rn d y pc ls (vL b :: vL a :: st) σ Q ↔ Rn d y nx ls (vL (a - b) :: st) σ Q := Rn_nx (by simp only [stp, h]; simp only [exe, lb, Option.map_some])
theorem q11_2 {d y pc nx t : Nat} {ls st : List AV} {σ : Sg} {Q : AV → Sg → Prop} {tb : List (Int × Nat)} {v a b : Int} (h : fnd (pgm y) pc = some (nx, 11, v, 2, t, tb)) : Rn d y pc ls (vL b :: vL a :: st) σ Q ↔ Rn d y nx ls (vL (a * b) :: st) σ Q := Rn_nx (by simp only [stp, h]; simp only [exe, lb, Option.map_some])
theorem q11_3 {d y pc nx t : Nat} {ls st : List AV} {σ : Sg} {Q : AV → Sg → Prop} {tb : List (Int × Nat)} {v a b : Int} (h : fnd (pgm y) pc = some (nx, 11, v, 3, t, tb)) (h0 : w64 b ≠ 0) : Rn d y pc ls (vL b :: vL a :: st) σ Q ↔ Rn d y nx ls (vL (div64 a b) :: st) σ Q := Rn_nx (by simp only [stp, h]; simp only [exe, lb, if_neg h0, Option.map_some])
theorem q11_4 {d y pc nx t : Nat} {ls st : List AV} {σ : Sg} {Q : AV → Sg → Prop} {tb : List (Int × Nat)} {v a b : Int} (h : fnd (pgm y) pc = some (nx, 11, v, 4, t, tb)) (h0 : w64 b ≠ 0) : Rn d y pc ls (vL b :: vL a :: st) σ Q ↔ Rn d y nx ls (vL (rem64 a b) :: st) σ Q := Rn_nx (by simp only [stp, h]; simp only [exe, lb, if_neg h0, Option.map_some])
theorem q11_5 {d y pc nx t : Nat} {ls st : List AV} {σ : Sg} {Q : AV → Sg → Prop} {tb : List (Int × Nat)} {v a b : Int} (h : fnd (pgm y) pc = some (nx, 11, v, 5, t, tb)) : Rn d y pc ls (vL b :: vL a :: st) σ Q ↔ Rn d y nx ls (vL (and64 a b) :: st) σ Q := Rn_nx (by simp only [stp, h]; simp only [exe, lb, Option.map_some])
theorem q11_6 {d y pc nx t : Nat} {ls st : List AV} {σ : Sg} {Q : AV → Sg → Prop} {tb : List (Int × Nat)} {v a b : Int} (h : fnd (pgm y) pc = some (nx, 11, v, 6, t, tb)) : Rn d y pc ls (vL b :: vL a :: st) σ Q ↔ Rn d y nx ls (vL (or64 a b) :: st) σ Q := Rn_nx (by simp only [stp, h]; simp only [exe, lb, Option.map_some])
theorem q12_0 {d y pc nx t : Nat} {ls st : List AV} {σ : Sg} {Q : AV → Sg → Prop} {tb : List (Int × Nat)} {v a b : Int} (h : fnd (pgm y) pc = some (nx, 12, v, 0, t, tb)) : Rn d y pc ls (vI b :: vL a :: st) σ Q ↔ Rn d y nx ls (vL (shl64 a b) :: st) σ Q := Rn_nx (by simp only [stp, h]; simp only [exe, lsf, Option.map_some])
theorem q12_1 {d y pc nx t : Nat} {ls st : List AV} {σ : Sg} {Q : AV → Sg → Prop} {tb : List (Int × Nat)} {v a b : Int} (h : fnd (pgm y) pc = some (nx, 12, v, 1, t, tb)) : Rn d y pc ls (vI b :: vL a :: st) σ Q ↔ Rn d y nx ls (vL (shr64 a b) :: st) σ Q := Rn_nx (by simp only [stp, h]; simp only [exe, lsf, Option.map_some])
theorem q13 {d y pc nx t : Nat} {ls st : List AV} {σ : Sg} {Q : AV → Sg → Prop} {tb : List (Int × Nat)} {v a : Int} {k : Nat} (h : fnd (pgm y) pc = some (nx, 13, v, k, t, tb)) : Rn d y pc ls (vI a :: st) σ Q ↔ Rn d y nx ls (vI (-a) :: st) σ Q := Rn_nx (by simp only [stp, h]; rfl)
theorem q14 {d y pc nx t : Nat} {ls st : List AV} {σ : Sg} {Q : AV → Sg → Prop} {tb : List (Int × Nat)} {v a : Int} {k : Nat} (h : fnd (pgm y) pc = some (nx, 14, v, k, t, tb)) : Rn d y pc ls (vI a :: st) σ Q ↔ Rn d y nx ls (vL (w32 a) :: st) σ Q := Rn_nx (by simp only [stp, h]; rfl)
theorem q15 {d y pc nx t : Nat} {ls st : List AV} {σ : Sg} {Q : AV → Sg → Prop} {tb : List (Int × Nat)} {v a : Int} {k : Nat} (h : fnd (pgm y) pc = some (nx, 15, v, k, t, tb)) : Rn d y pc ls (vL a :: st) σ Q ↔ Rn d y nx ls (vI a :: st) σ Q := Rn_nx (by simp only [stp, h]; rfl)
theorem q16 {d y pc nx t : Nat} {ls st : List AV} {σ : Sg} {Q : AV → Sg → Prop} {tb : List (Int × Nat)} {v a b : Int} {k : Nat} (h : fnd (pgm y) pc = some (nx, 16, v, k, t, tb)) : Rn d y pc ls (vL b :: vL a :: st) σ Q ↔ Rn d y nx ls (vI (cmpL a b) :: st) σ Q := Rn_nx (by simp only [stp, h]; rfl)
theorem q17i {d y pc nx t : Nat} {ls st : List AV} {σ : Sg} {Q : AV → Sg → Prop} {tb : List (Int × Nat)} {v a : Int} {k : Nat} (h : fnd (pgm y) pc = some (nx, 17, v, k, t, tb)) : Rn d y pc ls (vI a :: st) σ Q ↔ Rn d y nx ls (vI a :: vI a :: st) σ Q := Rn_nx (by simp only [stp, h]; rfl)
theorem q17r {d y pc nx t : Nat} {ls st : List AV} {σ : Sg} {Q : AV → Sg → Prop} {tb : List (Int × Nat)} {v : Int} {k o : Nat} (h : fnd (pgm y) pc = some (nx, 17, v, k, t, tb)) : Rn d y pc ls (vR o :: st) σ Q ↔ Rn d y nx ls (vR o :: vR o :: st) σ Q := Rn_nx (by simp only [stp, h]; rfl)
theorem q18 {d y pc nx t : Nat} {ls st : List AV} {σ : Sg} {Q : AV → Sg → Prop} {tb : List (Int × Nat)} {v a : Int} {k o : Nat} (h : fnd (pgm y) pc = some (nx, 18, v, k, t, tb)) : Rn d y pc ls (vI a :: vR o :: st) σ Q ↔ Rn d y nx ls (vI a :: vR o :: vI a :: vR o :: st) σ Q := Rn_nx (by simp only [stp, h]; rfl)
theorem q19_0 {d y pc nx t : Nat} {ls st : List AV} {σ : Sg} {Q : AV → Sg → Prop} {tb : List (Int × Nat)} {v a : Int} (h : fnd (pgm y) pc = some (nx, 19, v, 0, t, tb)) : Rn d y pc ls (vI a :: st) σ Q ↔ if w32 a = 0 then Rn d y t ls st σ Q else Rn d y nx ls st σ Q := by
  by_cases hc : w32 a = 0
  · rw [if_pos hc]
    exact Rn_nx (by simp only [stp, h]; simp only [exe]; rw [if_pos (by simpa [cnd] using hc)])
  · rw [if_neg hc]
    exact Rn_nx (by simp only [stp, h]; simp only [exe]; rw [if_neg (by simpa [cnd] using hc)])
theorem q20_0 {d y pc nx t : Nat} {ls st : List AV} {σ : Sg} {Q : AV → Sg → Prop} {tb : List (Int × Nat)} {v a b : Int} (h : fnd (pgm y) pc = some (nx, 20, v, 0, t, tb)) : Rn d y pc ls (vI b :: vI a :: st) σ Q ↔ if w32 a = w32 b then Rn d y t ls st σ Q else Rn d y nx ls st σ Q := by
  by_cases hc : w32 a = w32 b
  · rw [if_pos hc]
    exact Rn_nx (by simp only [stp, h]; simp only [exe]; rw [if_pos (by simpa [cnd] using hc)])
  · rw [if_neg hc]
    exact Rn_nx (by simp only [stp, h]; simp only [exe]; rw [if_neg (by simpa [cnd] using hc)])
theorem q19_1 {d y pc nx t : Nat} {ls st : List AV} {σ : Sg} {Q : AV → Sg → Prop} {tb : List (Int × Nat)} {v a : Int} (h : fnd (pgm y) pc = some (nx, 19, v, 1, t, tb)) : Rn d y pc ls (vI a :: st) σ Q ↔ if ¬ w32 a = 0 then Rn d y t ls st σ Q else Rn d y nx ls st σ Q := by
  by_cases hc : ¬ w32 a = 0
  · rw [if_pos hc]
    exact Rn_nx (by simp only [stp, h]; simp only [exe]; rw [if_pos (by simpa [cnd] using hc)])
  · rw [if_neg hc]
    exact Rn_nx (by simp only [stp, h]; simp only [exe]; rw [if_neg (by simpa [cnd] using hc)])
theorem q20_1 {d y pc nx t : Nat} {ls st : List AV} {σ : Sg} {Q : AV → Sg → Prop} {tb : List (Int × Nat)} {v a b : Int} (h : fnd (pgm y) pc = some (nx, 20, v, 1, t, tb)) : Rn d y pc ls (vI b :: vI a :: st) σ Q ↔ if ¬ w32 a = w32 b then Rn d y t ls st σ Q else Rn d y nx ls st σ Q := by
  by_cases hc : ¬ w32 a = w32 b
  · rw [if_pos hc]
    exact Rn_nx (by simp only [stp, h]; simp only [exe]; rw [if_pos (by simpa [cnd] using hc)])
  · rw [if_neg hc]
    exact Rn_nx (by simp only [stp, h]; simp only [exe]; rw [if_neg (by simpa [cnd] using hc)])
theorem q19_2 {d y pc nx t : Nat} {ls st : List AV} {σ : Sg} {Q : AV → Sg → Prop} {tb : List (Int × Nat)} {v a : Int} (h : fnd (pgm y) pc = some (nx, 19, v, 2, t, tb)) : Rn d y pc ls (vI a :: st) σ Q ↔ if w32 a < 0 then Rn d y t ls st σ Q else Rn d y nx ls st σ Q := by
  by_cases hc : w32 a < 0
  · rw [if_pos hc]
    exact Rn_nx (by simp only [stp, h]; simp only [exe]; rw [if_pos (by simpa [cnd] using hc)])
  · rw [if_neg hc]
    exact Rn_nx (by simp only [stp, h]; simp only [exe]; rw [if_neg (by simpa [cnd] using hc)])
theorem q20_2 {d y pc nx t : Nat} {ls st : List AV} {σ : Sg} {Q : AV → Sg → Prop} {tb : List (Int × Nat)} {v a b : Int} (h : fnd (pgm y) pc = some (nx, 20, v, 2, t, tb)) : Rn d y pc ls (vI b :: vI a :: st) σ Q ↔ if w32 a < w32 b then Rn d y t ls st σ Q else Rn d y nx ls st σ Q := by
  by_cases hc : w32 a < w32 b
  · rw [if_pos hc]
    exact Rn_nx (by simp only [stp, h]; simp only [exe]; rw [if_pos (by simpa [cnd] using hc)])
  · rw [if_neg hc]
    exact Rn_nx (by simp only [stp, h]; simp only [exe]; rw [if_neg (by simpa [cnd] using hc)])
theorem q19_3 {d y pc nx t : Nat} {ls st : List AV} {σ : Sg} {Q : AV → Sg → Prop} {tb : List (Int × Nat)} {v a : Int} (h : fnd (pgm y) pc = some (nx, 19, v, 3, t, tb)) : Rn d y pc ls (vI a :: st) σ Q ↔ if 0 ≤ w32 a then Rn d y t ls st σ Q else Rn d y nx ls st σ Q := by
  by_cases hc : 0 ≤ w32 a
  · rw [if_pos hc]
    exact Rn_nx (by simp only [stp, h]; simp only [exe]; rw [if_pos (by simpa [cnd] using hc)])
  · rw [if_neg hc]
    exact Rn_nx (by simp only [stp, h]; simp only [exe]; rw [if_neg (by simpa [cnd] using hc)])
theorem q20_3 {d y pc nx t : Nat} {ls st : List AV} {σ : Sg} {Q : AV → Sg → Prop} {tb : List (Int × Nat)} {v a b : Int} (h : fnd (pgm y) pc = some (nx, 20, v, 3, t, tb)) : Rn d y pc ls (vI b :: vI a :: st) σ Q ↔ if w32 b ≤ w32 a then Rn d y t ls st σ Q else Rn d y nx ls st σ Q := by
  by_cases hc : w32 b ≤ w32 a
  · rw [if_pos hc]
    exact Rn_nx (by simp only [stp, h]; simp only [exe]; rw [if_pos (by simpa [cnd] using hc)])
  · rw [if_neg hc]
    exact Rn_nx (by simp only [stp, h]; simp only [exe]; rw [if_neg (by simpa [cnd] using hc)])
theorem q19_4 {d y pc nx t : Nat} {ls st : List AV} {σ : Sg} {Q : AV → Sg → Prop} {tb : List (Int × Nat)} {v a : Int} (h : fnd (pgm y) pc = some (nx, 19, v, 4, t, tb)) : Rn d y pc ls (vI a :: st) σ Q ↔ if 0 < w32 a then Rn d y t ls st σ Q else Rn d y nx ls st σ Q := by
  by_cases hc : 0 < w32 a
  · rw [if_pos hc]
    exact Rn_nx (by simp only [stp, h]; simp only [exe]; rw [if_pos (by simpa [cnd] using hc)])
  · rw [if_neg hc]
    exact Rn_nx (by simp only [stp, h]; simp only [exe]; rw [if_neg (by simpa [cnd] using hc)])
theorem q20_4 {d y pc nx t : Nat} {ls st : List AV} {σ : Sg} {Q : AV → Sg → Prop} {tb : List (Int × Nat)} {v a b : Int} (h : fnd (pgm y) pc = some (nx, 20, v, 4, t, tb)) : Rn d y pc ls (vI b :: vI a :: st) σ Q ↔ if w32 b < w32 a then Rn d y t ls st σ Q else Rn d y nx ls st σ Q := by
  by_cases hc : w32 b < w32 a
  · rw [if_pos hc]
    exact Rn_nx (by simp only [stp, h]; simp only [exe]; rw [if_pos (by simpa [cnd] using hc)])
  · rw [if_neg hc]
    exact Rn_nx (by simp only [stp, h]; simp only [exe]; rw [if_neg (by simpa [cnd] using hc)])
theorem q19_5 {d y pc nx t : Nat} {ls st : List AV} {σ : Sg} {Q : AV → Sg → Prop} {tb : List (Int × Nat)} {v a : Int} (h : fnd (pgm y) pc = some (nx, 19, v, 5, t, tb)) : Rn d y pc ls (vI a :: st) σ Q ↔ if w32 a ≤ 0 then Rn d y t ls st σ Q else Rn d y nx ls st σ Q := by
  by_cases hc : w32 a ≤ 0
  · rw [if_pos hc]
    exact Rn_nx (by simp only [stp, h]; simp only [exe]; rw [if_pos (by simpa [cnd] using hc)])
  · rw [if_neg hc]
    exact Rn_nx (by simp only [stp, h]; simp only [exe]; rw [if_neg (by simpa [cnd] using hc)])
theorem q20_5 {d y pc nx t : Nat} {ls st : List AV} {σ : Sg} {Q : AV → Sg → Prop} {tb : List (Int × Nat)} {v a b : Int} (h : fnd (pgm y) pc = some (nx, 20, v, 5, t, tb)) : Rn d y pc ls (vI b :: vI a :: st) σ Q ↔ if w32 a ≤ w32 b then Rn d y t ls st σ Q else Rn d y nx ls st σ Q := by
  by_cases hc : w32 a ≤ w32 b
  · rw [if_pos hc]
    exact Rn_nx (by simp only [stp, h]; simp only [exe]; rw [if_pos (by simpa [cnd] using hc)])
  · rw [if_neg hc]
    exact Rn_nx (by simp only [stp, h]; simp only [exe]; rw [if_neg (by simpa [cnd] using hc)])
theorem q21 {d y pc nx t : Nat} {ls st : List AV} {σ : Sg} {Q : AV → Sg → Prop} {tb : List (Int × Nat)} {v : Int} {k : Nat} (h : fnd (pgm y) pc = some (nx, 21, v, k, t, tb)) : Rn d y pc ls st σ Q ↔ Rn d y t ls st σ Q := Rn_nx (by simp only [stp, h]; rfl)
theorem q22 {d y pc nx t : Nat} {ls st : List AV} {σ : Sg} {Q : AV → Sg → Prop} {tb : List (Int × Nat)} {v : Int} {k o : Nat} (h : fnd (pgm y) pc = some (nx, 22, v, k, t, tb)) : Rn d y pc ls (vR o :: st) σ Q ↔ if o = 0 then Rn d y t ls st σ Q else Rn d y nx ls st σ Q := by
  by_cases hc : o = 0
  · rw [if_pos hc]
    exact Rn_nx (by simp only [stp, h]; simp only [exe]; rw [if_pos hc])
  · rw [if_neg hc]
    exact Rn_nx (by simp only [stp, h]; simp only [exe]; rw [if_neg hc])
theorem q23 {d y pc nx t : Nat} {ls st : List AV} {σ : Sg} {Q : AV → Sg → Prop} {tb : List (Int × Nat)} {v : Int} {k o : Nat} (h : fnd (pgm y) pc = some (nx, 23, v, k, t, tb)) : Rn d y pc ls (vR o :: st) σ Q ↔ if o = 0 then Rn d y nx ls st σ Q else Rn d y t ls st σ Q := by
  by_cases hc : o = 0
  · rw [if_pos hc]
    exact Rn_nx (by simp only [stp, h]; simp only [exe]; rw [if_pos hc])
  · rw [if_neg hc]
    exact Rn_nx (by simp only [stp, h]; simp only [exe]; rw [if_neg hc])
theorem q24 {d y pc nx t : Nat} {ls st : List AV} {σ : Sg} {Q : AV → Sg → Prop} {tb : List (Int × Nat)} {v a : Int} {k : Nat} (h : fnd (pgm y) pc = some (nx, 24, v, k, t, tb)) : Rn d y pc ls (vI a :: st) σ Q ↔ Rn d y (swt tb t (w32 a)) ls st σ Q := Rn_nx (by simp only [stp, h]; rfl)
theorem q25 {d y pc nx t : Nat} {ls st : List AV} {σ : Sg} {Q : AV → Sg → Prop} {tb : List (Int × Nat)} {v i : Int} {k o : Nat} (h : fnd (pgm y) pc = some (nx, 25, v, k, t, tb)) (hi : 0 ≤ w32 i ∧ w32 i < al σ 1 o) : Rn d y pc ls (vI i :: vR o :: st) σ Q ↔ Rn d y nx ls (vI (σ o (w32 i)) :: st) σ Q := Rn_nx (by simp only [stp, h]; simp only [exe, if_pos hi])
theorem q26 {d y pc nx t : Nat} {ls st : List AV} {σ : Sg} {Q : AV → Sg → Prop} {tb : List (Int × Nat)} {v i : Int} {k o : Nat} (h : fnd (pgm y) pc = some (nx, 26, v, k, t, tb)) (hi : 0 ≤ w32 i ∧ w32 i < al σ 2 o) : Rn d y pc ls (vI i :: vR o :: st) σ Q ↔ Rn d y nx ls (vL (σ o (w32 i)) :: st) σ Q := Rn_nx (by simp only [stp, h]; simp only [exe, if_pos hi])
theorem q27 {d y pc nx t : Nat} {ls st : List AV} {σ : Sg} {Q : AV → Sg → Prop} {tb : List (Int × Nat)} {v i : Int} {k o : Nat} (h : fnd (pgm y) pc = some (nx, 27, v, k, t, tb)) (hi : 0 ≤ w32 i ∧ w32 i < al σ 3 o) : Rn d y pc ls (vI i :: vR o :: st) σ Q ↔ Rn d y nx ls (vI (σ o (w32 i)) :: st) σ Q := Rn_nx (by simp only [stp, h]; simp only [exe, if_pos hi])
theorem q28 {d y pc nx t : Nat} {ls st : List AV} {σ : Sg} {Q : AV → Sg → Prop} {tb : List (Int × Nat)} {v i : Int} {k o : Nat} (h : fnd (pgm y) pc = some (nx, 28, v, k, t, tb)) (hi : 0 ≤ w32 i ∧ w32 i < al σ 4 o) : Rn d y pc ls (vI i :: vR o :: st) σ Q ↔ Rn d y nx ls (vR (σ o (w32 i)).toNat :: st) σ Q := Rn_nx (by simp only [stp, h]; simp only [exe, if_pos hi])
theorem q29 {d y pc nx t : Nat} {ls st : List AV} {σ : Sg} {Q : AV → Sg → Prop} {tb : List (Int × Nat)} {v i x : Int} {k o : Nat} (h : fnd (pgm y) pc = some (nx, 29, v, k, t, tb)) (hi : 0 ≤ w32 i ∧ w32 i < al σ 1 o) : Rn d y pc ls (vI x :: vI i :: vR o :: st) σ Q ↔ Rn d y nx ls st (up σ o (w32 i) x) Q := Rn_nx (by simp only [stp, h]; simp only [exe, if_pos hi])
theorem q30 {d y pc nx t : Nat} {ls st : List AV} {σ : Sg} {Q : AV → Sg → Prop} {tb : List (Int × Nat)} {v i x : Int} {k o : Nat} (h : fnd (pgm y) pc = some (nx, 30, v, k, t, tb)) (hi : 0 ≤ w32 i ∧ w32 i < al σ 2 o) : Rn d y pc ls (vL x :: vI i :: vR o :: st) σ Q ↔ Rn d y nx ls st (up σ o (w32 i) x) Q := Rn_nx (by simp only [stp, h]; simp only [exe, if_pos hi])
theorem q31 {d y pc nx t : Nat} {ls st : List AV} {σ : Sg} {Q : AV → Sg → Prop} {tb : List (Int × Nat)} {v i x : Int} {k o : Nat} (h : fnd (pgm y) pc = some (nx, 31, v, k, t, tb)) (hi : 0 ≤ w32 i ∧ w32 i < al σ 3 o) (hx : x = 0 ∨ x = 1) : Rn d y pc ls (vI x :: vI i :: vR o :: st) σ Q ↔ Rn d y nx ls st (up σ o (w32 i) x) Q := Rn_nx (by simp only [stp, h]; simp only [exe, if_pos (show (0 ≤ w32 i ∧ w32 i < al σ 3 o) ∧ (x = 0 ∨ x = 1) from ⟨hi, hx⟩)])
theorem q32 {d y pc nx t : Nat} {ls st : List AV} {σ : Sg} {Q : AV → Sg → Prop} {tb : List (Int × Nat)} {v : Int} {k o c n : Nat} (h : fnd (pgm y) pc = some (nx, 32, v, k, t, tb)) (hk : kn σ o = (c, n)) (hc : c = 1 ∨ c = 2) : Rn d y pc ls (vR o :: st) σ Q ↔ Rn d y nx ls (vI n :: st) σ Q := Rn_nx (by simp only [stp, h]; simp only [exe, hk]; rw [if_pos hc])
theorem q33 {d y pc nx t : Nat} {ls st : List AV} {σ : Sg} {Q : AV → Sg → Prop} {tb : List (Int × Nat)} {v : Int} {k o : Nat} (h : fnd (pgm y) pc = some (nx, 33, v, k, t, tb)) (hk : kn σ o = (0, k)) : Rn d y pc ls (vR o :: st) σ Q ↔ Rn d y nx ls (fvl σ o k t :: st) σ Q := Rn_nx (by simp only [stp, h]; simp only [exe, if_pos hk])
theorem q34i {d y pc nx t : Nat} {ls st : List AV} {σ : Sg} {Q : AV → Sg → Prop} {tb : List (Int × Nat)} {v x : Int} {k o : Nat} (h : fnd (pgm y) pc = some (nx, 34, v, k, t, tb)) (hk : kn σ o = (0, k)) (hT : sT k t = 0) : Rn d y pc ls (vI x :: vR o :: st) σ Q ↔ Rn d y nx ls st (up σ o t x) Q := Rn_nx (by simp only [stp, h]; simp only [exe, if_pos (show kn σ o = (0, k) ∧ sT k t = 0 from ⟨hk, hT⟩)])
theorem q34l {d y pc nx t : Nat} {ls st : List AV} {σ : Sg} {Q : AV → Sg → Prop} {tb : List (Int × Nat)} {v x : Int} {k o : Nat} (h : fnd (pgm y) pc = some (nx, 34, v, k, t, tb)) (hk : kn σ o = (0, k)) (hT : sT k t = 1) : Rn d y pc ls (vL x :: vR o :: st) σ Q ↔ Rn d y nx ls st (up σ o t x) Q := Rn_nx (by simp only [stp, h]; simp only [exe, if_pos (show kn σ o = (0, k) ∧ sT k t = 1 from ⟨hk, hT⟩)])
theorem q34r {d y pc nx t : Nat} {ls st : List AV} {σ : Sg} {Q : AV → Sg → Prop} {tb : List (Int × Nat)} {v : Int} {k o x : Nat} (h : fnd (pgm y) pc = some (nx, 34, v, k, t, tb)) (hk : kn σ o = (0, k)) (hT : sT k t = 3) : Rn d y pc ls (vR x :: vR o :: st) σ Q ↔ Rn d y nx ls st (up σ o t x) Q := Rn_nx (by simp only [stp, h]; simp only [exe, if_pos (show kn σ o = (0, k) ∧ sT k t = 3 from ⟨hk, hT⟩)])
theorem q35 {d y pc nx t : Nat} {ls st : List AV} {σ : Sg} {Q : AV → Sg → Prop} {tb : List (Int × Nat)} {v : Int} {k : Nat} (h : fnd (pgm y) pc = some (nx, 35, v, k, t, tb)) (hc : (t ≤ st.length ∧ (st.drop t).length ≤ 4) ∧ rcv σ k (st.take t).reverse = true) : Rn d y pc ls st σ Q ↔ ∃ r σ1, Ev d k (st.take t).reverse σ r σ1 ∧ Rn d y nx ls (psh r (st.drop t)) σ1 Q := by
  have hs : stp d y (pc, ls, st, σ) = some (.inr (.inl (k, (st.take t).reverse, fun r σ1 => (nx, ls, psh r (st.drop t), σ1)))) := by simp only [stp, h]; simp only [exe, if_pos hc]
  exact Rn_call hs
theorem q36 {d y pc nx t : Nat} {ls st : List AV} {σ : Sg} {Q : AV → Sg → Prop} {tb : List (Int × Nat)} {v n dp sp : Int} {k a b : Nat} (h : fnd (pgm y) pc = some (nx, 36, v, k, t, tb)) (hc : (k = 1 ∨ k = 2) ∧ 0 ≤ w32 sp ∧ 0 ≤ w32 dp ∧ 0 ≤ w32 n ∧ w32 sp + w32 n ≤ al σ k a ∧ w32 dp + w32 n ≤ al σ k b ∧ a ≠ b ∧ st.length ≤ 4 ∧ 0 < al σ k a ∧ 0 < al σ k b) : Rn d y pc ls (vI n :: vI dp :: vR b :: vI sp :: vR a :: st) σ Q ↔ Rn d y nx ls st (cpy σ a (w32 sp) b (w32 dp) (w32 n)) Q := Rn_nx (by simp only [stp, h]; simp only [exe, if_pos hc])
theorem q37_0 {d y pc nx t : Nat} {ls st : List AV} {σ : Sg} {Q : AV → Sg → Prop} {tb : List (Int × Nat)} {v : Int} (h : fnd (pgm y) pc = some (nx, 37, v, 0, t, tb)) : Rn d y pc ls [] σ Q ↔ Q none σ := Rn_ret (by simp only [stp, h]; rfl)
theorem q37_1 {d y pc nx t : Nat} {ls st : List AV} {σ : Sg} {Q : AV → Sg → Prop} {tb : List (Int × Nat)} {v : Int} {x : Int} (h : fnd (pgm y) pc = some (nx, 37, v, 1, t, tb)) : Rn d y pc ls [vI x] σ Q ↔ Q (vI x) σ := Rn_ret (by simp only [stp, h]; rfl)
theorem q37_2 {d y pc nx t : Nat} {ls st : List AV} {σ : Sg} {Q : AV → Sg → Prop} {tb : List (Int × Nat)} {v : Int} {x : Int} (h : fnd (pgm y) pc = some (nx, 37, v, 2, t, tb)) (hx : x = 0 ∨ x = 1) : Rn d y pc ls [vI x] σ Q ↔ Q (vI x) σ := Rn_ret (by simp only [stp, h]; simp only [exe, if_pos hx])
theorem q37_3 {d y pc nx t : Nat} {ls st : List AV} {σ : Sg} {Q : AV → Sg → Prop} {tb : List (Int × Nat)} {v : Int} {x : Int} (h : fnd (pgm y) pc = some (nx, 37, v, 3, t, tb)) : Rn d y pc ls [vL x] σ Q ↔ Q (vL x) σ := Rn_ret (by simp only [stp, h]; rfl)
theorem q37_4 {d y pc nx t : Nat} {ls st : List AV} {σ : Sg} {Q : AV → Sg → Prop} {tb : List (Int × Nat)} {v : Int} {o : Nat} (h : fnd (pgm y) pc = some (nx, 37, v, 4, t, tb)) (ho : o ≠ 0) : Rn d y pc ls [vR o] σ Q ↔ Q (vR o) σ := Rn_ret (by simp only [stp, h]; simp only [exe, if_neg ho])
theorem q38 {d y pc nx t : Nat} {ls st : List AV} {σ : Sg} {Q : AV → Sg → Prop} {tb : List (Int × Nat)} {v : Int} {k : Nat} (h : fnd (pgm y) pc = some (nx, 38, v, k, t, tb)) : Rn d y pc ls st σ Q ↔ Rn d y nx ls (vR k :: st) σ Q := Rn_nx (by simp only [stp, h]; rfl)
theorem q39 {d y pc nx t : Nat} {ls st : List AV} {σ : Sg} {Q : AV → Sg → Prop} {tb : List (Int × Nat)} {v : Int} {k o : Nat} (h : fnd (pgm y) pc = some (nx, 39, v, k, t, tb)) (hc : (o = 900 ∨ o = 901) ∧ st.length ≤ 4 ∧ 6 ≤ d) : Rn d y pc ls (vR o :: st) σ Q ↔ Rn d y nx ls (vI (sln o) :: st) σ Q := Rn_nx (by simp only [stp, h]; simp only [exe, if_pos hc])
theorem q40 {d y pc nx t : Nat} {ls st : List AV} {σ : Sg} {Q : AV → Sg → Prop} {tb : List (Int × Nat)} {v i : Int} {k o : Nat} (h : fnd (pgm y) pc = some (nx, 40, v, k, t, tb)) (hc : (o = 900 ∨ o = 901) ∧ 0 ≤ w32 i ∧ w32 i < sln o ∧ st.length ≤ 4 ∧ 6 ≤ d) : Rn d y pc ls (vI i :: vR o :: st) σ Q ↔ Rn d y nx ls (vI (sch o (w32 i)) :: st) σ Q := Rn_nx (by simp only [stp, h]; simp only [exe, if_pos hc])
theorem q43 {d y pc nx t : Nat} {ls st : List AV} {σ : Sg} {Q : AV → Sg → Prop} {tb : List (Int × Nat)} {v a b : Int} {k : Nat} (h : fnd (pgm y) pc = some (nx, 43, v, k, t, tb)) (h4 : st.length ≤ 4) : Rn d y pc ls (vI b :: vI a :: st) σ Q ↔ Rn d y nx ls (vI (if w32 a < w32 b then b else a) :: st) σ Q := Rn_nx (by simp only [stp, h]; simp only [exe, if_pos h4])
theorem q44 {d y pc nx t : Nat} {ls st : List AV} {σ : Sg} {Q : AV → Sg → Prop} {tb : List (Int × Nat)} {v a b : Int} {k : Nat} (h : fnd (pgm y) pc = some (nx, 44, v, k, t, tb)) (h4 : st.length ≤ 4) : Rn d y pc ls (vI b :: vI a :: st) σ Q ↔ Rn d y nx ls (vI (if w32 b < w32 a then b else a) :: st) σ Q := Rn_nx (by simp only [stp, h]; simp only [exe, if_pos h4])
theorem kn_1 (σ : Sg) : kn σ 1 = (0, 5) := by unfold kn kl; rfl
theorem kn_2 (σ : Sg) : kn σ 2 = (0, 0) := by unfold kn kl; rfl
theorem kn_3 (σ : Sg) : kn σ 3 = (1, 6) := by unfold kn kl; rfl
theorem al_3 (σ : Sg) : al σ 1 3 = 6 := by unfold al; rw [kn_3]; rfl
theorem kn_4 (σ : Sg) : kn σ 4 = (1, 6) := by unfold kn kl; rfl
theorem al_4 (σ : Sg) : al σ 1 4 = 6 := by unfold al; rw [kn_4]; rfl
theorem kn_5 (σ : Sg) : kn σ 5 = (1, 6) := by unfold kn kl; rfl
theorem al_5 (σ : Sg) : al σ 1 5 = 6 := by unfold al; rw [kn_5]; rfl
theorem kn_6 (σ : Sg) : kn σ 6 = (1, 24) := by unfold kn kl; rfl
theorem al_6 (σ : Sg) : al σ 1 6 = 24 := by unfold al; rw [kn_6]; rfl
theorem kn_7 (σ : Sg) : kn σ 7 = (1, 144) := by unfold kn kl; rfl
theorem al_7 (σ : Sg) : al σ 1 7 = 144 := by unfold al; rw [kn_7]; rfl
theorem kn_8 (σ : Sg) : kn σ 8 = (1, 144) := by unfold kn kl; rfl
theorem al_8 (σ : Sg) : al σ 1 8 = 144 := by unfold al; rw [kn_8]; rfl
theorem kn_9 (σ : Sg) : kn σ 9 = (0, 2) := by unfold kn kl; rfl
theorem kn_10 (σ : Sg) : kn σ 10 = (1, 20) := by unfold kn kl; rfl
theorem al_10 (σ : Sg) : al σ 1 10 = 20 := by unfold al; rw [kn_10]; rfl
theorem kn_11 (σ : Sg) : kn σ 11 = (1, 20) := by unfold kn kl; rfl
theorem al_11 (σ : Sg) : al σ 1 11 = 20 := by unfold al; rw [kn_11]; rfl
theorem kn_12 (σ : Sg) : kn σ 12 = (1, 20) := by unfold kn kl; rfl
theorem al_12 (σ : Sg) : al σ 1 12 = 20 := by unfold al; rw [kn_12]; rfl
theorem kn_13 (σ : Sg) : kn σ 13 = (1, 20) := by unfold kn kl; rfl
theorem al_13 (σ : Sg) : al σ 1 13 = 20 := by unfold al; rw [kn_13]; rfl
theorem kn_14 (σ : Sg) : kn σ 14 = (1, 200) := by unfold kn kl; rfl
theorem al_14 (σ : Sg) : al σ 1 14 = 200 := by unfold al; rw [kn_14]; rfl
theorem kn_15 (σ : Sg) : kn σ 15 = (1, 6) := by unfold kn kl; rfl
theorem al_15 (σ : Sg) : al σ 1 15 = 6 := by unfold al; rw [kn_15]; rfl
theorem kn_16 (σ : Sg) : kn σ 16 = (4, 2) := by unfold kn kl; rfl
theorem al_16 (σ : Sg) : al σ 4 16 = 2 := by unfold al; rw [kn_16]; rfl
theorem kn_17 (σ : Sg) : kn σ 17 = (1, 3) := by unfold kn kl; rfl
theorem al_17 (σ : Sg) : al σ 1 17 = 3 := by unfold al; rw [kn_17]; rfl
theorem kn_18 (σ : Sg) : kn σ 18 = (0, 4) := by unfold kn kl; rfl
theorem kn_19 (σ : Sg) : kn σ 19 = (1, 6) := by unfold kn kl; rfl
theorem al_19 (σ : Sg) : al σ 1 19 = 6 := by unfold al; rw [kn_19]; rfl
theorem kn_20 (σ : Sg) : kn σ 20 = (1, 20) := by unfold kn kl; rfl
theorem al_20 (σ : Sg) : al σ 1 20 = 20 := by unfold al; rw [kn_20]; rfl
theorem kn_21 (σ : Sg) : kn σ 21 = (1, 20) := by unfold kn kl; rfl
theorem al_21 (σ : Sg) : al σ 1 21 = 20 := by unfold al; rw [kn_21]; rfl
theorem kn_22 (σ : Sg) : kn σ 22 = (1, 6) := by unfold kn kl; rfl
theorem al_22 (σ : Sg) : al σ 1 22 = 6 := by unfold al; rw [kn_22]; rfl
theorem kn_23 (σ : Sg) : kn σ 23 = (1, 1080) := by unfold kn kl; rfl
theorem al_23 (σ : Sg) : al σ 1 23 = 1080 := by unfold al; rw [kn_23]; rfl
theorem kn_24 (σ : Sg) : kn σ 24 = (1, 1080) := by unfold kn kl; rfl
theorem al_24 (σ : Sg) : al σ 1 24 = 1080 := by unfold al; rw [kn_24]; rfl
theorem kn_25 (σ : Sg) : kn σ 25 = (3, 144) := by unfold kn kl; rfl
theorem al_25 (σ : Sg) : al σ 3 25 = 144 := by unfold al; rw [kn_25]; rfl
theorem kn_26 (σ : Sg) : kn σ 26 = (0, 2) := by unfold kn kl; rfl
theorem kn_27 (σ : Sg) : kn σ 27 = (1, 20) := by unfold kn kl; rfl
theorem al_27 (σ : Sg) : al σ 1 27 = 20 := by unfold al; rw [kn_27]; rfl
theorem kn_28 (σ : Sg) : kn σ 28 = (1, 20) := by unfold kn kl; rfl
theorem al_28 (σ : Sg) : al σ 1 28 = 20 := by unfold al; rw [kn_28]; rfl
theorem kn_29 (σ : Sg) : kn σ 29 = (1, 20) := by unfold kn kl; rfl
theorem al_29 (σ : Sg) : al σ 1 29 = 20 := by unfold al; rw [kn_29]; rfl
theorem kn_30 (σ : Sg) : kn σ 30 = (1, 20) := by unfold kn kl; rfl
theorem al_30 (σ : Sg) : al σ 1 30 = 20 := by unfold al; rw [kn_30]; rfl
theorem kn_31 (σ : Sg) : kn σ 31 = (1, 6) := by unfold kn kl; rfl
theorem al_31 (σ : Sg) : al σ 1 31 = 6 := by unfold al; rw [kn_31]; rfl
theorem kn_32 (σ : Sg) : kn σ 32 = (3, 892) := by unfold kn kl; rfl
theorem al_32 (σ : Sg) : al σ 3 32 = 892 := by unfold al; rw [kn_32]; rfl
theorem kn_33 (σ : Sg) : kn σ 33 = (1, 4) := by unfold kn kl; rfl
theorem al_33 (σ : Sg) : al σ 1 33 = 4 := by unfold al; rw [kn_33]; rfl
theorem kn_34 (σ : Sg) : kn σ 34 = (2, 144) := by unfold kn kl; rfl
theorem al_34 (σ : Sg) : al σ 2 34 = 144 := by unfold al; rw [kn_34]; rfl
theorem kn_35 (σ : Sg) : kn σ 35 = (2, 144) := by unfold kn kl; rfl
theorem al_35 (σ : Sg) : al σ 2 35 = 144 := by unfold al; rw [kn_35]; rfl
theorem kn_36 (σ : Sg) : kn σ 36 = (0, 3) := by unfold kn kl; rfl
theorem kn_37 (σ : Sg) : kn σ 37 = (1, 5) := by unfold kn kl; rfl
theorem al_37 (σ : Sg) : al σ 1 37 = 5 := by unfold al; rw [kn_37]; rfl
theorem kn_38 (σ : Sg) : kn σ 38 = (0, 1) := by unfold kn kl; rfl
theorem kn_39 (σ : Sg) : kn σ 39 = (1, 14) := by unfold kn kl; rfl
theorem al_39 (σ : Sg) : al σ 1 39 = 14 := by unfold al; rw [kn_39]; rfl
theorem kn_40 (σ : Sg) : kn σ 40 = (1, 14) := by unfold kn kl; rfl
theorem al_40 (σ : Sg) : al σ 1 40 = 14 := by unfold al; rw [kn_40]; rfl
theorem kn_41 (σ : Sg) : kn σ 41 = (1, 14) := by unfold kn kl; rfl
theorem al_41 (σ : Sg) : al σ 1 41 = 14 := by unfold al; rw [kn_41]; rfl
theorem kn_42 (σ : Sg) : kn σ 42 = (1, 14) := by unfold kn kl; rfl
theorem al_42 (σ : Sg) : al σ 1 42 = 14 := by unfold al; rw [kn_42]; rfl
theorem kn_43 (σ : Sg) : kn σ 43 = (1, 14) := by unfold kn kl; rfl
theorem al_43 (σ : Sg) : al σ 1 43 = 14 := by unfold al; rw [kn_43]; rfl
theorem kn_44 (σ : Sg) : kn σ 44 = (1, 36) := by unfold kn kl; rfl
theorem al_44 (σ : Sg) : al σ 1 44 = 36 := by unfold al; rw [kn_44]; rfl
theorem kn_45 (σ : Sg) : kn σ 45 = (1, 36) := by unfold kn kl; rfl
theorem al_45 (σ : Sg) : al σ 1 45 = 36 := by unfold al; rw [kn_45]; rfl
theorem kn_46 (σ : Sg) : kn σ 46 = (1, 64) := by unfold kn kl; rfl
theorem al_46 (σ : Sg) : al σ 1 46 = 64 := by unfold al; rw [kn_46]; rfl
theorem kn_47 (σ : Sg) : kn σ 47 = (1, 64) := by unfold kn kl; rfl
theorem al_47 (σ : Sg) : al σ 1 47 = 64 := by unfold al; rw [kn_47]; rfl
theorem kn_100 (σ : Sg) : kn σ 100 = (0, 6) := by unfold kn kl; rfl
theorem kn_101 (σ : Sg) : kn σ 101 = (1, 600) := by unfold kn kl; rfl
theorem al_101 (σ : Sg) : al σ 1 101 = 600 := by unfold al; rw [kn_101]; rfl
theorem kn_102 (σ : Sg) : kn σ 102 = (1, 1200) := by unfold kn kl; rfl
theorem al_102 (σ : Sg) : al σ 1 102 = 1200 := by unfold al; rw [kn_102]; rfl
theorem kn_103 (σ : Sg) : kn σ 103 = (3, 2) := by unfold kn kl; rfl
theorem al_103 (σ : Sg) : al σ 3 103 = 2 := by unfold al; rw [kn_103]; rfl
theorem kn_104 (σ : Sg) : kn σ 104 = (1, 3) := by unfold kn kl; rfl
theorem al_104 (σ : Sg) : al σ 1 104 = 3 := by unfold al; rw [kn_104]; rfl
theorem kn_105 (σ : Sg) : kn σ 105 = (1, 6) := by unfold kn kl; rfl
theorem al_105 (σ : Sg) : al σ 1 105 = 6 := by unfold al; rw [kn_105]; rfl
theorem kn_106 (σ : Sg) : kn σ 106 = (1, 6) := by unfold kn kl; rfl
theorem al_106 (σ : Sg) : al σ 1 106 = 6 := by unfold al; rw [kn_106]; rfl
theorem kn_107 (σ : Sg) : kn σ 107 = (1, 126) := by unfold kn kl; rfl
theorem al_107 (σ : Sg) : al σ 1 107 = 126 := by unfold al; rw [kn_107]; rfl
theorem kn_108 (σ : Sg) : kn σ 108 = (1, 4320) := by unfold kn kl; rfl
theorem al_108 (σ : Sg) : al σ 1 108 = 4320 := by unfold al; rw [kn_108]; rfl
theorem kn_109 (σ : Sg) : kn σ 109 = (1, 20) := by unfold kn kl; rfl
theorem al_109 (σ : Sg) : al σ 1 109 = 20 := by unfold al; rw [kn_109]; rfl
theorem kn_110 (σ : Sg) : kn σ 110 = (2, 144) := by unfold kn kl; rfl
theorem al_110 (σ : Sg) : al σ 2 110 = 144 := by unfold al; rw [kn_110]; rfl
theorem kn_111 (σ : Sg) : kn σ 111 = (2, 144) := by unfold kn kl; rfl
theorem al_111 (σ : Sg) : al σ 2 111 = 144 := by unfold al; rw [kn_111]; rfl
theorem kn_112 (σ : Sg) : kn σ 112 = (1, 4) := by unfold kn kl; rfl
theorem al_112 (σ : Sg) : al σ 1 112 = 4 := by unfold al; rw [kn_112]; rfl
theorem kn_113 (σ : Sg) : kn σ 113 = (1, 60) := by unfold kn kl; rfl
theorem al_113 (σ : Sg) : al σ 1 113 = 60 := by unfold al; rw [kn_113]; rfl
theorem kn_114 (σ : Sg) : kn σ 114 = (1, 200) := by unfold kn kl; rfl
theorem al_114 (σ : Sg) : al σ 1 114 = 200 := by unfold al; rw [kn_114]; rfl
theorem kn_115 (σ : Sg) : kn σ 115 = (1, 36) := by unfold kn kl; rfl
theorem al_115 (σ : Sg) : al σ 1 115 = 36 := by unfold al; rw [kn_115]; rfl
theorem kn_116 (σ : Sg) : kn σ 116 = (3, 40) := by unfold kn kl; rfl
theorem al_116 (σ : Sg) : al σ 3 116 = 40 := by unfold al; rw [kn_116]; rfl
theorem kn_117 (σ : Sg) : kn σ 117 = (1, 64) := by unfold kn kl; rfl
theorem al_117 (σ : Sg) : al σ 1 117 = 64 := by unfold al; rw [kn_117]; rfl
theorem kn_118 (σ : Sg) : kn σ 118 = (1, 6) := by unfold kn kl; rfl
theorem al_118 (σ : Sg) : al σ 1 118 = 6 := by unfold al; rw [kn_118]; rfl
theorem tp_1_0 : tp 1 0 = 2 := by decide +kernel
theorem tp_1_1 : tp 1 1 = 16 := by decide +kernel
theorem tp_1_2 : tp 1 2 = 17 := by decide +kernel
theorem tp_1_3 : tp 1 3 = 18 := by decide +kernel
theorem tp_1_4 : tp 1 4 = 26 := by decide +kernel
theorem tp_1_5 : tp 1 5 = 31 := by decide +kernel
theorem tp_1_6 : tp 1 6 = 32 := by decide +kernel
theorem tp_1_7 : tp 1 7 = 33 := by decide +kernel
theorem tp_1_9 : tp 1 9 = 34 := by decide +kernel
theorem tp_1_10 : tp 1 10 = 35 := by decide +kernel
theorem tp_1_11 : tp 1 11 = 36 := by decide +kernel
theorem tp_1_12 : tp 1 12 = 38 := by decide +kernel
theorem tp_2_1 : tp 2 1 = 3 := by decide +kernel
theorem tp_2_2 : tp 2 2 = 4 := by decide +kernel
theorem tp_2_3 : tp 2 3 = 5 := by decide +kernel
theorem tp_2_4 : tp 2 4 = 6 := by decide +kernel
theorem tp_2_5 : tp 2 5 = 7 := by decide +kernel
theorem tp_2_6 : tp 2 6 = 8 := by decide +kernel
theorem tp_2_7 : tp 2 7 = 9 := by decide +kernel
theorem tp_2_8 : tp 2 8 = 14 := by decide +kernel
theorem tp_2_11 : tp 2 11 = 15 := by decide +kernel
theorem tp_9_0 : tp 9 0 = 10 := by decide +kernel
theorem tp_9_1 : tp 9 1 = 11 := by decide +kernel
theorem tp_9_2 : tp 9 2 = 12 := by decide +kernel
theorem tp_9_3 : tp 9 3 = 13 := by decide +kernel
theorem tp_18_0 : tp 18 0 = 19 := by decide +kernel
theorem tp_18_1 : tp 18 1 = 20 := by decide +kernel
theorem tp_18_2 : tp 18 2 = 21 := by decide +kernel
theorem tp_18_3 : tp 18 3 = 22 := by decide +kernel
theorem tp_18_4 : tp 18 4 = 23 := by decide +kernel
theorem tp_18_5 : tp 18 5 = 24 := by decide +kernel
theorem tp_18_7 : tp 18 7 = 25 := by decide +kernel
theorem tp_26_0 : tp 26 0 = 27 := by decide +kernel
theorem tp_26_1 : tp 26 1 = 28 := by decide +kernel
theorem tp_26_2 : tp 26 2 = 29 := by decide +kernel
theorem tp_26_3 : tp 26 3 = 30 := by decide +kernel
theorem tp_36_0 : tp 36 0 = 37 := by decide +kernel
theorem tp_38_2 : tp 38 2 = 39 := by decide +kernel
theorem tp_38_3 : tp 38 3 = 40 := by decide +kernel
theorem tp_38_4 : tp 38 4 = 41 := by decide +kernel
theorem tp_38_5 : tp 38 5 = 42 := by decide +kernel
theorem tp_38_6 : tp 38 6 = 43 := by decide +kernel
theorem tp_38_7 : tp 38 7 = 44 := by decide +kernel
theorem tp_38_8 : tp 38 8 = 45 := by decide +kernel
theorem tp_38_9 : tp 38 9 = 46 := by decide +kernel
theorem tp_38_10 : tp 38 10 = 47 := by decide +kernel
theorem tp_100_0 : tp 100 0 = 101 := by decide +kernel
theorem tp_100_1 : tp 100 1 = 102 := by decide +kernel
theorem tp_100_2 : tp 100 2 = 103 := by decide +kernel
theorem tp_100_3 : tp 100 3 = 104 := by decide +kernel
theorem tp_100_6 : tp 100 6 = 105 := by decide +kernel
theorem tp_100_7 : tp 100 7 = 106 := by decide +kernel
theorem tp_100_8 : tp 100 8 = 107 := by decide +kernel
theorem tp_100_9 : tp 100 9 = 108 := by decide +kernel
theorem tp_100_11 : tp 100 11 = 109 := by decide +kernel
theorem tp_100_13 : tp 100 13 = 110 := by decide +kernel
theorem tp_100_14 : tp 100 14 = 111 := by decide +kernel
theorem tp_100_17 : tp 100 17 = 112 := by decide +kernel
theorem tp_100_18 : tp 100 18 = 113 := by decide +kernel
theorem tp_100_23 : tp 100 23 = 114 := by decide +kernel
theorem tp_100_25 : tp 100 25 = 115 := by decide +kernel
theorem tp_100_26 : tp 100 26 = 116 := by decide +kernel
theorem tp_100_27 : tp 100 27 = 117 := by decide +kernel
theorem tp_100_28 : tp 100 28 = 118 := by decide +kernel
theorem tp_60_1 : tp 60 1 = 61 := by decide +kernel
theorem tp_60_2 : tp 60 2 = 62 := by decide +kernel
theorem tp_60_3 : tp 60 3 = 63 := by decide +kernel
theorem tp_60_4 : tp 60 4 = 64 := by decide +kernel
theorem tp_60_5 : tp 60 5 = 65 := by decide +kernel
theorem tp_60_6 : tp 60 6 = 66 := by decide +kernel
theorem tp_60_7 : tp 60 7 = 67 := by decide +kernel
theorem tp_60_8 : tp 60 8 = 72 := by decide +kernel
theorem tp_60_11 : tp 60 11 = 73 := by decide +kernel
theorem tp_67_0 : tp 67 0 = 68 := by decide +kernel
theorem tp_67_1 : tp 67 1 = 69 := by decide +kernel
theorem tp_67_2 : tp 67 2 = 70 := by decide +kernel
theorem tp_67_3 : tp 67 3 = 71 := by decide +kernel
theorem tp_80_1 : tp 80 1 = 81 := by decide +kernel
theorem tp_80_2 : tp 80 2 = 82 := by decide +kernel
theorem tp_80_3 : tp 80 3 = 83 := by decide +kernel
theorem tp_80_4 : tp 80 4 = 84 := by decide +kernel
theorem tp_80_5 : tp 80 5 = 85 := by decide +kernel
theorem tp_80_6 : tp 80 6 = 86 := by decide +kernel
theorem tp_80_7 : tp 80 7 = 87 := by decide +kernel
theorem tp_80_8 : tp 80 8 = 92 := by decide +kernel
theorem tp_80_11 : tp 80 11 = 93 := by decide +kernel
theorem tp_87_0 : tp 87 0 = 88 := by decide +kernel
theorem tp_87_1 : tp 87 1 = 89 := by decide +kernel
theorem tp_87_2 : tp 87 2 = 90 := by decide +kernel
theorem tp_87_3 : tp 87 3 = 91 := by decide +kernel
