/-! The law's own run, by segments. -/
def Rq (d y X pc : Nat) (ls st : List AV) (σ : Sg) (K : List AV → List AV → Sg → Prop) : Prop := ∃ n ls' st' σ', sg d (Ev d) y n (pc, ls, st, σ) (X, ls', st', σ') ∧ K ls' st' σ'
theorem Rq_here {d y X : Nat} {ls st : List AV} {σ : Sg} {K : List AV → List AV → Sg → Prop} (h : K ls st σ) : Rq d y X X ls st σ K := ⟨0, ls, st, σ, rfl, h⟩
theorem Rq_go {d y X pc : Nat} {ls st : List AV} {σ : Sg} {K : List AV → List AV → Sg → Prop} {pc' : Nat} {ls' st' : List AV} {σ' : Sg} (h : stp d y (pc, ls, st, σ) = some (.inl (pc', ls', st', σ'))) (hr : Rq d y X pc' ls' st' σ' K) : Rq d y X pc ls st σ K := by
  obtain ⟨n, l1, s1, σ1, h1, h2⟩ := hr
  exact ⟨n + 1, l1, s1, σ1, by simp only [sg, h]; exact h1, h2⟩
theorem Rq_nx {d y X pc : Nat} {ls st : List AV} {σ : Sg} {K : List AV → List AV → Sg → Prop} {pc' : Nat} {ls' st' : List AV} {σ' : Sg} (hX : pc ≠ X) (h : stp d y (pc, ls, st, σ) = some (.inl (pc', ls', st', σ'))) : Rq d y X pc ls st σ K ↔ Rq d y X pc' ls' st' σ' K := by
  constructor
  · rintro ⟨n, l1, s1, σ1, h1, h2⟩
    cases n with
    | zero => simp only [sg, Prod.mk.injEq] at h1; exact absurd h1.1 hX
    | succ n =>
      simp only [sg, h] at h1
      exact ⟨n, l1, s1, σ1, h1, h2⟩
  · exact Rq_go h
theorem Rq_call {d y X pc : Nat} {ls st : List AV} {σ : Sg} {K : List AV → List AV → Sg → Prop} {k : Nat} {a : List AV} {f : AV → Sg → St} (hX : pc ≠ X) (h : stp d y (pc, ls, st, σ) = some (.inr (.inl (k, a, f)))) : Rq d y X pc ls st σ K ↔ ∃ r σ1, Ev d k a σ r σ1 ∧ Rq d y X (f r σ1).1 (f r σ1).2.1 (f r σ1).2.2.1 (f r σ1).2.2.2 K := by
  constructor
  · rintro ⟨n, l1, s1, σ2, h1, h2⟩
    cases n with
    | zero => simp only [sg, Prod.mk.injEq] at h1; exact absurd h1.1 hX
    | succ n =>
      simp only [sg, h] at h1
      obtain ⟨r0, σ0, e1, e2⟩ := h1
      exact ⟨r0, σ0, e1, n, l1, s1, σ2, e2, h2⟩
  · rintro ⟨r0, σ0, e1, n, l1, s1, σ2, e2, h2⟩
    exact ⟨n + 1, l1, s1, σ2, by simp only [sg, h]; exact ⟨r0, σ0, e1, e2⟩, h2⟩
theorem k0 {d y pc nx t : Nat} {ls st : List AV} {σ : Sg} {X : Nat} {Q : List AV → List AV → Sg → Prop} (hX : pc ≠ X) {tb : List (Int × Nat)} {v : Int} {k : Nat} (h : fnd (pgm y) pc = some (nx, 0, v, k, t, tb)) : Rq d y X pc ls st σ Q ↔ Rq d y X nx ls (vI v :: st) σ Q := Rq_nx hX (by simp only [stp, h]; rfl)
theorem k1 {d y pc nx t : Nat} {ls st : List AV} {σ : Sg} {X : Nat} {Q : List AV → List AV → Sg → Prop} (hX : pc ≠ X) {tb : List (Int × Nat)} {v : Int} {k : Nat} (h : fnd (pgm y) pc = some (nx, 1, v, k, t, tb)) : Rq d y X pc ls st σ Q ↔ Rq d y X nx ls (vL v :: st) σ Q := Rq_nx hX (by simp only [stp, h]; rfl)
theorem k3 {d y pc nx t : Nat} {ls st : List AV} {σ : Sg} {X : Nat} {Q : List AV → List AV → Sg → Prop} (hX : pc ≠ X) {tb : List (Int × Nat)} {v x : Int} {k : Nat} (h : fnd (pgm y) pc = some (nx, 3, v, k, t, tb)) (hl : ls[k]? = some (vI x)) : Rq d y X pc ls st σ Q ↔ Rq d y X nx ls (vI x :: st) σ Q := Rq_nx hX (by simp only [stp, h]; simp only [exe, hl])
theorem k5 {d y pc nx t : Nat} {ls st : List AV} {σ : Sg} {X : Nat} {Q : List AV → List AV → Sg → Prop} (hX : pc ≠ X) {tb : List (Int × Nat)} {v : Int} {k o : Nat} (h : fnd (pgm y) pc = some (nx, 5, v, k, t, tb)) (hl : ls[k]? = some (vR o)) (ho : o ≠ 0) : Rq d y X pc ls st σ Q ↔ Rq d y X nx ls (vR o :: st) σ Q := Rq_nx hX (by simp only [stp, h]; simp only [exe, hl, if_neg ho])
theorem k6 {d y pc nx t : Nat} {ls st : List AV} {σ : Sg} {X : Nat} {Q : List AV → List AV → Sg → Prop} (hX : pc ≠ X) {tb : List (Int × Nat)} {v x : Int} {k : Nat} (h : fnd (pgm y) pc = some (nx, 6, v, k, t, tb)) (hk : k < ls.length) : Rq d y X pc ls (vI x :: st) σ Q ↔ Rq d y X nx (ls.set k (vI x)) st σ Q := Rq_nx hX (by simp only [stp, h]; simp only [exe, if_pos hk])
theorem k9 {d y pc nx t : Nat} {ls st : List AV} {σ : Sg} {X : Nat} {Q : List AV → List AV → Sg → Prop} (hX : pc ≠ X) {tb : List (Int × Nat)} {v x : Int} {k : Nat} (h : fnd (pgm y) pc = some (nx, 9, v, k, t, tb)) (hl : ls[k]? = some (vI x)) : Rq d y X pc ls st σ Q ↔ Rq d y X nx (ls.set k (vI (x + v))) st σ Q := Rq_nx hX (by simp only [stp, h]; simp only [exe, hl])
theorem k10_0 {d y pc nx t : Nat} {ls st : List AV} {σ : Sg} {X : Nat} {Q : List AV → List AV → Sg → Prop} (hX : pc ≠ X) {tb : List (Int × Nat)} {v a b : Int} (h : fnd (pgm y) pc = some (nx, 10, v, 0, t, tb)) : Rq d y X pc ls (vI b :: vI a :: st) σ Q ↔ Rq d y X nx ls (vI (a + b) :: st) σ Q := Rq_nx hX (by simp only [stp, h]; simp only [exe, ib, Option.map_some])
theorem k10_1 {d y pc nx t : Nat} {ls st : List AV} {σ : Sg} {X : Nat} {Q : List AV → List AV → Sg → Prop} (hX : pc ≠ X) {tb : List (Int × Nat)} {v a b : Int} (h : fnd (pgm y) pc = some (nx, 10, v, 1, t, tb)) : Rq d y X pc ls (vI b :: vI a :: st) σ Q ↔ Rq d y X nx ls (vI (a - b) :: st) σ Q := Rq_nx hX (by simp only [stp, h]; simp only [exe, ib, Option.map_some])
theorem k10_5 {d y pc nx t : Nat} {ls st : List AV} {σ : Sg} {X : Nat} {Q : List AV → List AV → Sg → Prop} (hX : pc ≠ X) {tb : List (Int × Nat)} {v a b : Int} (h : fnd (pgm y) pc = some (nx, 10, v, 5, t, tb)) : Rq d y X pc ls (vI b :: vI a :: st) σ Q ↔ Rq d y X nx ls (vI (and32 a b) :: st) σ Q := Rq_nx hX (by simp only [stp, h]; simp only [exe, ib, Option.map_some])
theorem k11_5 {d y pc nx t : Nat} {ls st : List AV} {σ : Sg} {X : Nat} {Q : List AV → List AV → Sg → Prop} (hX : pc ≠ X) {tb : List (Int × Nat)} {v a b : Int} (h : fnd (pgm y) pc = some (nx, 11, v, 5, t, tb)) : Rq d y X pc ls (vL b :: vL a :: st) σ Q ↔ Rq d y X nx ls (vL (and64 a b) :: st) σ Q := Rq_nx hX (by simp only [stp, h]; simp only [exe, lb, Option.map_some])
theorem k11_6 {d y pc nx t : Nat} {ls st : List AV} {σ : Sg} {X : Nat} {Q : List AV → List AV → Sg → Prop} (hX : pc ≠ X) {tb : List (Int × Nat)} {v a b : Int} (h : fnd (pgm y) pc = some (nx, 11, v, 6, t, tb)) : Rq d y X pc ls (vL b :: vL a :: st) σ Q ↔ Rq d y X nx ls (vL (or64 a b) :: st) σ Q := Rq_nx hX (by simp only [stp, h]; simp only [exe, lb, Option.map_some])
theorem k12_0 {d y pc nx t : Nat} {ls st : List AV} {σ : Sg} {X : Nat} {Q : List AV → List AV → Sg → Prop} (hX : pc ≠ X) {tb : List (Int × Nat)} {v a b : Int} (h : fnd (pgm y) pc = some (nx, 12, v, 0, t, tb)) : Rq d y X pc ls (vI b :: vL a :: st) σ Q ↔ Rq d y X nx ls (vL (shl64 a b) :: st) σ Q := Rq_nx hX (by simp only [stp, h]; simp only [exe, lsf, Option.map_some])
theorem k14 {d y pc nx t : Nat} {ls st : List AV} {σ : Sg} {X : Nat} {Q : List AV → List AV → Sg → Prop} (hX : pc ≠ X) {tb : List (Int × Nat)} {v a : Int} {k : Nat} (h : fnd (pgm y) pc = some (nx, 14, v, k, t, tb)) : Rq d y X pc ls (vI a :: st) σ Q ↔ Rq d y X nx ls (vL (w32 a) :: st) σ Q := Rq_nx hX (by simp only [stp, h]; rfl)
theorem k16 {d y pc nx t : Nat} {ls st : List AV} {σ : Sg} {X : Nat} {Q : List AV → List AV → Sg → Prop} (hX : pc ≠ X) {tb : List (Int × Nat)} {v a b : Int} {k : Nat} (h : fnd (pgm y) pc = some (nx, 16, v, k, t, tb)) : Rq d y X pc ls (vL b :: vL a :: st) σ Q ↔ Rq d y X nx ls (vI (cmpL a b) :: st) σ Q := Rq_nx hX (by simp only [stp, h]; rfl)
theorem k19_0 {d y pc nx t : Nat} {ls st : List AV} {σ : Sg} {X : Nat} {Q : List AV → List AV → Sg → Prop} (hX : pc ≠ X) {tb : List (Int × Nat)} {v a : Int} (h : fnd (pgm y) pc = some (nx, 19, v, 0, t, tb)) : Rq d y X pc ls (vI a :: st) σ Q ↔ if w32 a = 0 then Rq d y X t ls st σ Q else Rq d y X nx ls st σ Q := by
  by_cases hc : w32 a = 0
  · rw [if_pos hc]
    exact Rq_nx hX (by simp only [stp, h]; simp only [exe]; rw [if_pos (by simpa [cnd] using hc)])
  · rw [if_neg hc]
    exact Rq_nx hX (by simp only [stp, h]; simp only [exe]; rw [if_neg (by simpa [cnd] using hc)])
theorem k20_0 {d y pc nx t : Nat} {ls st : List AV} {σ : Sg} {X : Nat} {Q : List AV → List AV → Sg → Prop} (hX : pc ≠ X) {tb : List (Int × Nat)} {v a b : Int} (h : fnd (pgm y) pc = some (nx, 20, v, 0, t, tb)) : Rq d y X pc ls (vI b :: vI a :: st) σ Q ↔ if w32 a = w32 b then Rq d y X t ls st σ Q else Rq d y X nx ls st σ Q := by
  by_cases hc : w32 a = w32 b
  · rw [if_pos hc]
    exact Rq_nx hX (by simp only [stp, h]; simp only [exe]; rw [if_pos (by simpa [cnd] using hc)])
  · rw [if_neg hc]
    exact Rq_nx hX (by simp only [stp, h]; simp only [exe]; rw [if_neg (by simpa [cnd] using hc)])
theorem k19_1 {d y pc nx t : Nat} {ls st : List AV} {σ : Sg} {X : Nat} {Q : List AV → List AV → Sg → Prop} (hX : pc ≠ X) {tb : List (Int × Nat)} {v a : Int} (h : fnd (pgm y) pc = some (nx, 19, v, 1, t, tb)) : Rq d y X pc ls (vI a :: st) σ Q ↔ if ¬ w32 a = 0 then Rq d y X t ls st σ Q else Rq d y X nx ls st σ Q := by
  by_cases hc : ¬ w32 a = 0
  · rw [if_pos hc]
    exact Rq_nx hX (by simp only [stp, h]; simp only [exe]; rw [if_pos (by simpa [cnd] using hc)])
  · rw [if_neg hc]
    exact Rq_nx hX (by simp only [stp, h]; simp only [exe]; rw [if_neg (by simpa [cnd] using hc)])
theorem k20_1 {d y pc nx t : Nat} {ls st : List AV} {σ : Sg} {X : Nat} {Q : List AV → List AV → Sg → Prop} (hX : pc ≠ X) {tb : List (Int × Nat)} {v a b : Int} (h : fnd (pgm y) pc = some (nx, 20, v, 1, t, tb)) : Rq d y X pc ls (vI b :: vI a :: st) σ Q ↔ if ¬ w32 a = w32 b then Rq d y X t ls st σ Q else Rq d y X nx ls st σ Q := by
  by_cases hc : ¬ w32 a = w32 b
  · rw [if_pos hc]
    exact Rq_nx hX (by simp only [stp, h]; simp only [exe]; rw [if_pos (by simpa [cnd] using hc)])
  · rw [if_neg hc]
    exact Rq_nx hX (by simp only [stp, h]; simp only [exe]; rw [if_neg (by simpa [cnd] using hc)])
theorem k20_4 {d y pc nx t : Nat} {ls st : List AV} {σ : Sg} {X : Nat} {Q : List AV → List AV → Sg → Prop} (hX : pc ≠ X) {tb : List (Int × Nat)} {v a b : Int} (h : fnd (pgm y) pc = some (nx, 20, v, 4, t, tb)) : Rq d y X pc ls (vI b :: vI a :: st) σ Q ↔ if w32 b < w32 a then Rq d y X t ls st σ Q else Rq d y X nx ls st σ Q := by
  by_cases hc : w32 b < w32 a
  · rw [if_pos hc]
    exact Rq_nx hX (by simp only [stp, h]; simp only [exe]; rw [if_pos (by simpa [cnd] using hc)])
  · rw [if_neg hc]
    exact Rq_nx hX (by simp only [stp, h]; simp only [exe]; rw [if_neg (by simpa [cnd] using hc)])
theorem k21 {d y pc nx t : Nat} {ls st : List AV} {σ : Sg} {X : Nat} {Q : List AV → List AV → Sg → Prop} (hX : pc ≠ X) {tb : List (Int × Nat)} {v : Int} {k : Nat} (h : fnd (pgm y) pc = some (nx, 21, v, k, t, tb)) : Rq d y X pc ls st σ Q ↔ Rq d y X t ls st σ Q := Rq_nx hX (by simp only [stp, h]; rfl)
theorem k24 {d y pc nx t : Nat} {ls st : List AV} {σ : Sg} {X : Nat} {Q : List AV → List AV → Sg → Prop} (hX : pc ≠ X) {tb : List (Int × Nat)} {v a : Int} {k : Nat} (h : fnd (pgm y) pc = some (nx, 24, v, k, t, tb)) : Rq d y X pc ls (vI a :: st) σ Q ↔ Rq d y X (swt tb t (w32 a)) ls st σ Q := Rq_nx hX (by simp only [stp, h]; rfl)
theorem k35 {d y pc nx t : Nat} {ls st : List AV} {σ : Sg} {X : Nat} {Q : List AV → List AV → Sg → Prop} (hX : pc ≠ X) {tb : List (Int × Nat)} {v : Int} {k : Nat} (h : fnd (pgm y) pc = some (nx, 35, v, k, t, tb)) (hc : (t ≤ st.length ∧ (st.drop t).length ≤ 4) ∧ rcv σ k (st.take t).reverse = true) : Rq d y X pc ls st σ Q ↔ ∃ r σ1, Ev d k (st.take t).reverse σ r σ1 ∧ Rq d y X nx ls (psh r (st.drop t)) σ1 Q := by
  have hs : stp d y (pc, ls, st, σ) = some (.inr (.inl (k, (st.take t).reverse, fun r σ1 => (nx, ls, psh r (st.drop t), σ1)))) := by simp only [stp, h]; simp only [exe, if_pos hc]
  exact Rq_call hX hs
theorem k41 {d y pc nx t : Nat} {ls st : List AV} {σ : Sg} {X : Nat} {Q : List AV → List AV → Sg → Prop} (hX : pc ≠ X) {tb : List (Int × Nat)} {v i : Int} {k : Nat} (h : fnd (pgm y) pc = some (nx, 41, v, k, t, tb)) (hi : 0 ≤ w32 i ∧ w32 i < σ 999 (-1)) : Rq d y X pc ls (vI i :: vR 999 :: st) σ Q ↔ Rq d y X nx ls (vI (σ 999 (w32 i)) :: st) σ Q := Rq_nx hX (by simp only [stp, h]; simp only [exe]; rw [if_pos ⟨trivial, hi⟩])
theorem k42 {d y pc nx t : Nat} {ls st : List AV} {σ : Sg} {X : Nat} {Q : List AV → List AV → Sg → Prop} (hX : pc ≠ X) {tb : List (Int × Nat)} {v : Int} {k : Nat} (h : fnd (pgm y) pc = some (nx, 42, v, k, t, tb)) : Rq d y X pc ls (vR 999 :: st) σ Q ↔ Rq d y X nx ls (vI (σ 999 (-1)) :: st) σ Q := Rq_nx hX (by simp only [stp, h]; simp only [exe]; rw [if_pos trivial])
