/-! Numbers of 32 and 64 bits as whole numbers. -/
theorem w32_eq (x : Int) : w32 x = (x + 2147483648) % 4294967296 - 2147483648 := by
  unfold w32
  rw [Int32.toInt_ofInt]
  simp only [Int.bmod, Int32.size]
  omega
theorem w64_eq (x : Int) : w64 x = (x + 9223372036854775808) % 18446744073709551616 - 9223372036854775808 := by
  unfold w64
  rw [Int64.toInt_ofInt]
  simp only [Int.bmod, Int64.size]
  omega
theorem w32_id {x : Int} (h1 : -2147483648 ≤ x) (h2 : x ≤ 2147483647) : w32 x = x := by rw [w32_eq]; omega
theorem w64_id {x : Int} (h1 : -9223372036854775808 ≤ x) (h2 : x ≤ 9223372036854775807) : w64 x = x := by rw [w64_eq]; omega
theorem w32_rg (x : Int) : -2147483648 ≤ w32 x ∧ w32 x ≤ 2147483647 := by rw [w32_eq]; omega
theorem w32_w (x : Int) : w32 (w32 x) = w32 x := by rw [w32_eq (w32 x), w32_eq x]; omega
theorem w64_w32 (x : Int) : w64 (w32 x) = w32 x := by rw [w64_eq, w32_eq]; omega
theorem div32_eq {x y : Int} (hx : 0 ≤ x) (hx2 : x ≤ 2147483647) (hy : 0 < y) (hy2 : y ≤ 2147483647) : div32 x y = x / y := by
  unfold div32
  rw [Int32.toInt_div]
  have e1 : (Int32.ofInt x).toInt = x := w32_id (by omega) (by omega)
  have e2 : (Int32.ofInt y).toInt = y := w32_id (by omega) (by omega)
  rw [e1, e2, Int.tdiv_eq_ediv_of_nonneg hx]
  have h3 : x / y ≤ x := Int.ediv_le_self _ hx
  have h4 : 0 ≤ x / y := Int.ediv_nonneg hx (by omega)
  have := w32_id (x := x / y) (by omega) (by omega)
  unfold w32 at this
  rw [Int32.toInt_ofInt] at this
  exact this
theorem rem32_eq {x y : Int} (hx : 0 ≤ x) (hx2 : x ≤ 2147483647) (hy : 0 < y) (hy2 : y ≤ 2147483647) : rem32 x y = x % y := by
  have hd := div32_eq hx hx2 hy hy2
  unfold rem32
  unfold div32 at hd
  have e1 : Int32.ofInt x / Int32.ofInt y = Int32.ofInt (x / y) := by
    apply Int32.toInt_inj.mp
    rw [hd]
    have h3 : x / y ≤ x := Int.ediv_le_self _ hx
    have h4 : 0 ≤ x / y := Int.ediv_nonneg hx (by omega)
    exact (w32_id (x := x / y) (by omega) (by omega)).symm
  rw [e1, ← Int32.ofInt_mul, ← Int32.ofInt_sub]
  have e2 : x - x / y * y = x % y := by rw [Int.emod_def, Int.mul_comm]
  rw [e2]
  have h5 : 0 ≤ x % y := Int.emod_nonneg _ (by omega)
  have h6 : x % y < y := Int.emod_lt_of_pos _ hy
  exact w32_id (by omega) (by omega)
theorem ite01 {c : Prop} (h : Decidable c) : (if c then (1 : Int) else 0) = 0 ∨ (if c then (1 : Int) else 0) = 1 := by
  by_cases h : c <;> simp [h]
theorem cmp_lt {a b : Int} : w32 (cmpL a b) < 0 ↔ w64 a < w64 b := by
  unfold cmpL; rw [w32_eq]; repeat' split
  all_goals omega
theorem cmp_gt {a b : Int} : 0 < w32 (cmpL a b) ↔ w64 b < w64 a := by
  unfold cmpL; rw [w32_eq]; repeat' split
  all_goals omega
theorem cmp_le {a b : Int} : w32 (cmpL a b) ≤ 0 ↔ w64 a ≤ w64 b := by
  unfold cmpL; rw [w32_eq]; repeat' split
  all_goals omega
theorem cmp_ge {a b : Int} : 0 ≤ w32 (cmpL a b) ↔ w64 b ≤ w64 a := by
  unfold cmpL; rw [w32_eq]; repeat' split
  all_goals omega
theorem cmp_eq {a b : Int} : w32 (cmpL a b) = 0 ↔ w64 a = w64 b := by
  unfold cmpL; rw [w32_eq]; repeat' split
  all_goals omega
theorem loopN (R : Int → Prop) (n : Int) (hend : R n) (hstep : ∀ i, 0 ≤ i → i < n → R (i + 1) → R i) : ∀ i, 0 ≤ i → i ≤ n → R i := by
  have h : ∀ (k : Nat) (i : Int), 0 ≤ i → i ≤ n → n - i = k → R i := by
    intro k
    induction k with
    | zero => intro i h0 h1 h2; rw [show i = n by omega]; exact hend
    | succ k ih => intro i h0 h1 h2; exact hstep i h0 (by omega) (ih (i + 1) (by omega) (by omega) (by omega))
  intro i h0 h1
  exact h (n - i).toNat i h0 h1 (by omega)
theorem psh_some {v : Int ⊕ Int ⊕ Nat} {st : List AV} : psh (some v) st = some v :: st := rfl
theorem psh_none {st : List AV} : psh none st = st := rfl
theorem wite0 {c : Prop} [Decidable c] : (w32 (if c then 1 else 0) = 0) ↔ ¬ c := by
  by_cases h : c <;> simp [h] <;> decide
theorem ite0 {c : Prop} [Decidable c] : ((if c then (1 : Int) else 0) = 0) ↔ ¬ c := by
  by_cases h : c <;> simp [h]
theorem up_n {σ : Sg} {k k' : Nat} {i v j : Int} (h : k' ≠ k) : up σ k i v k' j = σ k' j := by rw [up_ne h]
theorem up_s {σ : Sg} {k : Nat} {i v : Int} : up σ k i v k i = v := by simp [up]
theorem up_o {σ : Sg} {k : Nat} {i v j : Int} (h : j ≠ i) : up σ k i v k j = σ k j := by simp [up, h]
def fll (σ : Sg) (k : Nat) (lo hi v : Int) : Sg := fun k' i => if k' = k ∧ lo ≤ i ∧ i < hi then v else σ k' i
theorem fll_ne {σ : Sg} {k k' : Nat} {lo hi v : Int} (h : k' ≠ k) : fll σ k lo hi v k' = σ k' := by
  funext i; simp [fll, h]
theorem fll_i {σ : Sg} {k : Nat} {lo hi v i : Int} (h : lo ≤ i ∧ i < hi) : fll σ k lo hi v k i = v := by simp [fll, h]
theorem fll_o {σ : Sg} {k : Nat} {lo hi v i : Int} (h : i < lo ∨ hi ≤ i) : fll σ k lo hi v k i = σ k i := by
  simp only [fll]; rw [if_neg (by omega)]
theorem fll_0 {σ : Sg} {k : Nat} {lo v : Int} : fll σ k lo lo v = σ := by
  funext k' i; simp only [fll]; rw [if_neg (by omega)]
theorem fll_s {σ : Sg} {k : Nat} {lo hi v : Int} (h : lo ≤ hi) : up (fll σ k lo hi v) k hi v = fll σ k lo (hi + 1) v := by
  funext k' i
  simp only [fll, up]
  by_cases e : k' = k
  · by_cases e2 : i = hi
    · rw [if_pos ⟨e, e2⟩, if_pos ⟨e, by omega, by omega⟩]
    · rw [if_neg (fun q => e2 q.2)]
      by_cases e3 : lo ≤ i ∧ i < hi
      · rw [if_pos ⟨e, e3⟩, if_pos ⟨e, by omega, by omega⟩]
      · rw [if_neg (fun q => e3 q.2), if_neg (fun q => e3 ⟨q.2.1, by omega⟩)]
  · rw [if_neg (fun q => e q.1), if_neg (fun q => e q.1), if_neg (fun q => e q.1)]
theorem cpy_n {σ : Sg} {x b k' : Nat} {sp dp n j : Int} (h : k' ≠ b) : cpy σ x sp b dp n k' j = σ k' j := by rw [cpy_ne h]
theorem up_up {σ : Sg} {k : Nat} {i v v' : Int} : up (up σ k i v) k i v' = up σ k i v' := by
  funext k' j; simp only [up]; split <;> simp_all
