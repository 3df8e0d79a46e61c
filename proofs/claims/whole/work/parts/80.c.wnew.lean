/-! The world with a new image. -/
def iF (j : Nat) (i : Int) : Int := if j = 0 then (if i = 10 then -1 else 0) else if j = 13 then (if 0 ≤ i ∧ i < 6 then -1 else 0) else 0
def sgN (F : Nat) (X : Int) (σ : Sg) : Sg := fun k i => if F ≤ k ∧ k < F + 14 then iF (k - F) i else if k = 16 ∧ i = X then (F : Int) else if k = 18 ∧ i = 8 then (if (σ 18 8).toNat = 0 then σ 18 8 else 500) else if k = 36 ∧ i = 1 then (if (σ 36 1).toNat = 0 then σ 36 1 else 501) else σ k i
def aN (F : Nat) (q : Nat → Nat) (σ : Sg) (a : Nat → Nat) : Nat → Nat := fun k => if F ≤ k ∧ k < F + 14 then q (k - F) else if k = 500 then a (σ 18 8).toNat else if k = 501 then a (σ 36 1).toNat else a k
theorem aN_o {F : Nat} {q : Nat → Nat} {σ : Sg} {a : Nat → Nat} {k : Nat} (h : ¬ (F ≤ k ∧ k < F + 14)) (h5 : k < 500 ∨ 501 < k) : aN F q σ a k = a k := by
  unfold aN; rw [if_neg h, if_neg (by omega), if_neg (by omega)]
theorem sgN_o {F : Nat} {X : Int} {σ : Sg} {k : Nat} (h : ¬ (F ≤ k ∧ k < F + 14)) (h1 : k ≠ 16) (h2 : k ≠ 18) (h3 : k ≠ 36) : sgN F X σ k = σ k := by
  funext i
  unfold sgN; rw [if_neg h, if_neg (fun q => h1 q.1), if_neg (fun q => h2 q.1), if_neg (fun q => h3 q.1)]
theorem tI1 : ∀ e ∈ kBl, (e.1 < 60 ∨ 94 ≤ e.1) ∧ e.1 < 500 ∧ (e.2.1 = 0 → ∀ j ∈ List.range (nS e.2.2), sT e.2.2 j = 2 → (tp e.1 j < 60 ∨ 94 ≤ tp e.1 j) ∧ tp e.1 j < 500) := by decide +kernel
theorem tI2 : ∀ e ∈ kI0, (60 ≤ e.1 ∧ e.1 < 74) ∧ (e.2.1 = 0 → ∀ j ∈ List.range (nS e.2.2), sT e.2.2 j = 2 → (60 ≤ tp e.1 j ∧ tp e.1 j < 74)) := by decide +kernel
theorem tI3 : ∀ e ∈ kI1, (80 ≤ e.1 ∧ e.1 < 94) ∧ (e.2.1 = 0 → ∀ j ∈ List.range (nS e.2.2), sT e.2.2 j = 2 → (80 ≤ tp e.1 j ∧ tp e.1 j < 94)) := by decide +kernel
theorem tI4 : ∀ e ∈ kBl ++ (kI0 ++ kI1), (e.2.1 = 0 ∨ e.2.1 = 1 ∨ e.2.1 = 2 ∨ e.2.1 = 3 ∨ e = (16, 4, 2)) ∧ ((e.1 = 18 ∨ e.1 = 36) → e.2.1 = 0) ∧ (e.1 = 16 → e = (16, 4, 2)) ∧ (e.2.1 = 0 → ∀ j ∈ List.range (nS e.2.2), (sT e.2.2 j = 3 → (e.1 = 18 ∧ j = 8) ∨ (e.1 = 36 ∧ j = 1)) ∧ ((e.1 = 18 ∧ j = 8) ∨ (e.1 = 36 ∧ j = 1) → sT e.2.2 j = 3)) := by decide +kernel
theorem ent_c {a a' : Nat → Nat} {cy : Nat → ClassId} {k : Nat} {f f' : Int → Int} {e : Nat × Nat} (h0 : e.1 = 0 → ∀ j, j < nS e.2 → svl a' k f' e.2 j = svl a k f e.2 j) (h1 : e.1 ≠ 0 → (e.1 = 1 ∨ e.1 = 2 ∨ e.1 = 3) ∧ f' = f) : ent a' cy k f' e = ent a cy k f e := by
  obtain ⟨e1, e2⟩ := e
  by_cases z : e1 = 0
  · subst z
    simp only [ent]
    congr 2
    exact List.map_congr_left (fun j hj => h0 rfl j (List.mem_range.mp hj))
  · obtain ⟨h2, h3⟩ := h1 z
    subst h3
    rcases h2 with h | h | h <;> (simp only at h; subst h; rfl)
theorem ent_n {F : Nat} {X : Int} {q a : Nat → Nat} {cy : Nat → ClassId} {σ : Sg} {e : Nat × Nat × Nat} (hF : F = 60 ∨ F = 80) (he : e ∈ kBl ++ (kI0 ++ kI1)) (h16 : e.1 ≠ 16) (hk : ¬ (F ≤ e.1 ∧ e.1 < F + 14) ∧ e.1 < 500) (ht : e.2.1 = 0 → ∀ j, j < nS e.2.2 → sT e.2.2 j = 2 → ¬ (F ≤ tp e.1 j ∧ tp e.1 j < F + 14) ∧ tp e.1 j < 500) : (aN F q σ a e.1, ent (aN F q σ a) cy e.1 (sgN F X σ e.1) e.2) = (a e.1, ent a cy e.1 (σ e.1) e.2) := by
  obtain ⟨t1, t2, t3, t4⟩ := tI4 e he
  rw [aN_o hk.1 (by omega)]
  congr 1
  refine ent_c (fun z j hj => ?_) (fun z => ?_)
  · obtain ⟨u1, u2⟩ := t4 z j (List.mem_range.mpr hj)
    unfold svl
    rcases (show sT e.2.2 j = 0 ∨ sT e.2.2 j = 1 ∨ sT e.2.2 j = 2 ∨ sT e.2.2 j = 3 ∨ 3 < sT e.2.2 j by omega) with h | h | h | h | h
    · have n1 : sgN F X σ e.1 j = σ e.1 j := by
        unfold sgN
        rw [if_neg hk.1, if_neg (fun q => h16 q.1), if_neg (fun q => by have := u2 (Or.inl ⟨q.1, by omega⟩); omega), if_neg (fun q => by have := u2 (Or.inr ⟨q.1, by omega⟩); omega)]
      simp only [h, n1]
    · have n1 : sgN F X σ e.1 j = σ e.1 j := by
        unfold sgN
        rw [if_neg hk.1, if_neg (fun q => h16 q.1), if_neg (fun q => by have := u2 (Or.inl ⟨q.1, by omega⟩); omega), if_neg (fun q => by have := u2 (Or.inr ⟨q.1, by omega⟩); omega)]
      simp only [h, n1]
    · have n1 := ht z j hj h
      simp only [h]
      rw [aN_o n1.1 (by omega)]
    · have n1 := u1 h
      simp only [h]
      rcases n1 with ⟨n1, n2⟩ | ⟨n1, n2⟩
      · have e5 : aN F q σ a 500 = a (σ 18 8).toNat := by unfold aN; rw [if_neg (by omega), if_pos rfl]
        have e8 : sgN F X σ e.1 j = if (σ 18 8).toNat = 0 then σ 18 8 else 500 := by
          unfold sgN
          rw [if_neg hk.1, if_neg (fun q => h16 q.1), if_pos ⟨n1, by omega⟩]
        rw [e8, show σ e.1 j = σ 18 8 by rw [n1, n2]; rfl]
        by_cases y : (σ 18 8).toNat = 0
        · rw [if_pos y, if_pos y, if_pos y]
        · rw [if_neg y, if_neg y, if_neg (by decide)]
          show Value.ref (aN F q σ a 500) = _
          rw [e5]
      · have e5 : aN F q σ a 501 = a (σ 36 1).toNat := by unfold aN; rw [if_neg (by omega), if_neg (by decide), if_pos rfl]
        have e8 : sgN F X σ e.1 j = if (σ 36 1).toNat = 0 then σ 36 1 else 501 := by
          unfold sgN
          rw [if_neg hk.1, if_neg (fun q => h16 q.1), if_neg (fun q => by omega), if_pos ⟨n1, by omega⟩]
        rw [e8, show σ e.1 j = σ 36 1 by rw [n1, n2]; rfl]
        by_cases y : (σ 36 1).toNat = 0
        · rw [if_pos y, if_pos y, if_pos y]
        · rw [if_neg y, if_neg y, if_neg (by decide)]
          show Value.ref (aN F q σ a 501) = _
          rw [e5]
    · exfalso
      have hh : ∀ c ∈ List.range 7, ∀ j ∈ List.range (nS c), sT c j ≤ 3 := by decide +kernel
      obtain ⟨h7, -⟩ := tp_all e he z
      have := hh e.2.2 (List.mem_range.mpr h7) j (List.mem_range.mpr hj)
      omega
  · refine ⟨?_, sgN_o hk.1 h16 (fun q => z (t2 (Or.inl q))) (fun q => z (t2 (Or.inr q)))⟩
    rcases t1 with h | h | h | h | h
    · exact absurd h z
    · exact Or.inl h
    · exact Or.inr (Or.inl h)
    · exact Or.inr (Or.inr h)
    · exact absurd (by rw [h]) h16
