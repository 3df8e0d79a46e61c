/-! A roll ends within sixty turns; the reference's roll is the specified one. -/
def cntI (p : Int → Bool) (n : Int) : Int := itI (fun t a => a + (if p t = true then 1 else 0)) 0 n
theorem cntI_s {p : Int → Bool} {n : Int} (h : 0 ≤ n) : cntI p (n + 1) = cntI p n + (if p n = true then 1 else 0) := by unfold cntI; rw [itI_s h]
theorem cntI_rg {p : Int → Bool} {n : Int} (h : 0 ≤ n) : 0 ≤ cntI p n ∧ cntI p n ≤ n := itI_bd (fun i a _ _ => by split <;> omega) h
theorem cntI_le {p q : Int → Bool} : ∀ (k : Nat), (∀ t, 0 ≤ t → t < (k : Int) → p t = true → q t = true) → cntI p k ≤ cntI q k := by
  intro k
  induction k with
  | zero => intro _; exact Int.le_refl _
  | succ k ih =>
    intro h
    rw [show ((k + 1 : Nat) : Int) = (k : Int) + 1 by omega, cntI_s (by omega), cntI_s (by omega)]
    have h1 := ih (fun t a b => h t a (by omega))
    have h2 := h k (by omega) (by omega)
    by_cases e : p k = true
    · rw [if_pos e, if_pos (h2 e)]; omega
    · rw [if_neg e]; split <;> omega
theorem cntI_lt {p q : Int → Bool} {o : Int} : ∀ (k : Nat), 0 ≤ o → o < (k : Int) → q o = true → p o = false → (∀ t, 0 ≤ t → t < (k : Int) → p t = true → q t = true) → cntI p k < cntI q k := by
  intro k
  induction k with
  | zero => intro a b; omega
  | succ k ih =>
    intro a b hq hp h
    rw [show ((k + 1 : Nat) : Int) = (k : Int) + 1 by omega, cntI_s (by omega), cntI_s (by omega)]
    by_cases e : o = k
    · subst e
      have h1 := cntI_le (p := p) (q := q) k (fun t a b => h t a (by omega))
      rw [if_pos hq, hp]
      simp
      omega
    · have h1 := ih a (by omega) hq hp (fun t a b => h t a (by omega))
      have h2 := h k (by omega) (by omega)
      by_cases e : p k = true
      · rw [if_pos e, if_pos (h2 e)]; omega
      · rw [if_neg e]; split <;> omega
theorem cntI_all : ∀ (k : Nat), cntI (fun _ => true) k = k := by
  intro k
  induction k with
  | zero => rfl
  | succ k ih =>
    rw [show ((k + 1 : Nat) : Int) = (k : Int) + 1 by omega, cntI_s (by omega), ih]
    simp
/-- cells ahead of the rim -/
def dst (c w : Int) : Int := if w = 0 then c / 12 else if w = 1 then 11 - c % 12 else if w = 2 then 11 - c / 12 else c % 12
theorem dst_nx {c w : Int} (h0 : 0 ≤ c) (h1 : c < 144) (h2 : 0 ≤ w) (h3 : w < 4) (h : nxc c w ≠ -1) : dst (nxc c w) w = dst c w - 1 := by
  rcases (show w = 0 ∨ w = 1 ∨ w = 2 ∨ w = 3 by omega) with rfl | rfl | rfl | rfl
  all_goals
    simp only [nxc, dst] at h ⊢
    simp at h ⊢
    split <;> omega
/-- how many stones lie nearer to the rim -/
def rk (pl : Int → Int) (n w s : Int) : Int := cntI (fun t => decide (pl t ≠ -1 ∧ dst (pl t) w < dst (pl s) w)) n
theorem rk_lt {pl : Int → Int} {n w s : Int} (hn : 0 ≤ n) (hs : 0 ≤ s ∧ s < n) : 0 ≤ rk pl n w s ∧ rk pl n w s < n := by
  have h1 := cntI_lt (p := fun t => decide (pl t ≠ -1 ∧ dst (pl t) w < dst (pl s) w)) (q := fun _ => true) (o := s) n.toNat hs.1 (by omega) rfl (by simp) (fun _ _ _ _ => rfl)
  rw [cntI_all, Int.toNat_of_nonneg hn] at h1
  exact ⟨(cntI_rg hn).1, h1⟩
theorem rk_dn {pl : Int → Int} {n w s o : Int} (hn : 0 ≤ n) (ho : 0 ≤ o ∧ o < n) (hp : pl o ≠ -1) (hd : dst (pl o) w < dst (pl s) w) : rk pl n w o < rk pl n w s := by
  have h1 := cntI_lt (p := fun t => decide (pl t ≠ -1 ∧ dst (pl t) w < dst (pl o) w)) (q := fun t => decide (pl t ≠ -1 ∧ dst (pl t) w < dst (pl s) w)) (o := o) n.toNat ho.1 (by omega) (by simp [hp, hd]) (by simp) (fun t _ _ h => by
    simp only [decide_eq_true_eq] at h ⊢
    exact ⟨h.1, by omega⟩)
  rw [Int.toNat_of_nonneg hn] at h1
  exact h1
def VX (b : Int → Int) (x : RS) : Prop := (0 ≤ x.1 ∧ x.1 < b 0 ∧ x.2.2.2.1 x.1 ≠ -1) ∧ (0 ≤ x.2.1 ∧ x.2.1 < 4) ∧ (0 ≤ x.2.2.1 ∧ x.2.2.1 ≤ 9) ∧ PL (b 0) x.2.2.2.1
def mu (b : Int → Int) (x : RS) : Int := 6 * x.2.2.1 + rk x.2.2.2.1 (b 0) x.2.1 x.1
theorem PL_st {n s to : Int} {pl : Int → Int} (h : PL n pl) (ht : 0 ≤ to ∧ to < 144) (ho : ∀ t, 0 ≤ t → t < n → pl t ≠ to) : PL n (ufn pl s to) := by
  refine ⟨fun t a1 a2 => ?_, fun t u a1 a2 a3 a4 a5 a6 => ?_⟩
  · by_cases q : t = s
    · subst q; rw [ufn_s]; omega
    · rw [ufn_o q]; exact h.1 t a1 a2
  · by_cases q : t = s
    · subst q
      rw [ufn_s, ufn_o (Ne.symm a5)]
      exact fun q2 => ho u a3 a4 q2.symm
    · rw [ufn_o q] at a6 ⊢
      by_cases q2 : u = s
      · subst q2; rw [ufn_s]; exact ho t a1 a2
      · rw [ufn_o q2]; exact h.2 t u a1 a2 a3 a4 a5 a6
theorem rst_vx {b : Int → Int} {p nt : Int} {x : RS} (hb : 0 ≤ b 0 ∧ b 0 ≤ 6) (h : VX b x) : VX b (rst b p nt x) ∧ (0 < x.2.2.1 → mu b (rst b p nt x) < mu b x) ∧ (rst b p nt x).2.2.2.2.1.1 + (rst b p nt x).2.2.1 ≤ x.2.2.2.2.1.1 + x.2.2.1 ∧ x.2.2.2.2.1.1 ≤ (rst b p nt x).2.2.2.2.1.1 ∧ ∀ t, 0 ≤ t → t < b 0 → ((rst b p nt x).2.2.2.1 t = -1 ↔ x.2.2.2.1 t = -1) := by
  obtain ⟨s, w, l, pl, ⟨cnt, lf⟩, mt⟩ := x
  obtain ⟨hs, hw, hl, hP⟩ := h
  simp only at hs hw hl hP
  have hps : 0 ≤ pl s ∧ pl s < 144 := by
    rcases hP.1 s hs.1 hs.2.1 with q | q
    · exact absurd q hs.2.2
    · exact q
  have ht := nxc_rg (c := pl s) (w := w) hps.1 hps.2
  have r0 := rk_lt (pl := pl) (w := w) (s := s) hb.1 ⟨hs.1, hs.2.1⟩
  by_cases hl0 : l ≤ 0
  · rw [rst_0 (by exact hl0)]
    exact ⟨⟨hs, hw, hl, hP⟩, fun q => absurd hl0 (by simp only at q; omega), Int.le_refl _, Int.le_refl _, fun _ _ _ => Iff.rfl⟩
  by_cases h1 : nxc (pl s) w = -1 ∨ b (180 + nxc (pl s) w) = 1
  · have hr : rst b p nt (s, w, l, pl, (cnt, lf), mt) = (s, w, 0, pl, (cnt, lf), mt) := by
      simp only [rst]; rw [if_neg hl0, if_pos h1]
    rw [hr]
    exact ⟨⟨hs, hw, by simp, hP⟩, fun _ => by simp only [mu]; omega, by simp only; omega, Int.le_refl _, fun _ _ _ => Iff.rfl⟩
  have h2 : nxc (pl s) w ≠ -1 := fun q => h1 (Or.inl q)
  rcases sAt_cases pl (b 0) (nxc (pl s) w) with ⟨o1, o2⟩ | ⟨o1, o2, o3⟩
  · have hr : rst b p nt (s, w, l, pl, (cnt, lf), mt) = (s, trn w (b (32 + nxc (pl s) w)), if b (32 + nxc (pl s) w) = 3 then 0 else l - 1, ufn pl s (nxc (pl s) w), (cnt + 1, ufn lf cnt (s, pl s, w, nt)), mt) := by
      simp only [rst]; rw [if_neg hl0, if_neg h1, if_pos o1]
    rw [hr]
    have r1 := rk_lt (pl := ufn pl s (nxc (pl s) w)) (w := trn w (b (32 + nxc (pl s) w))) (s := s) hb.1 ⟨hs.1, hs.2.1⟩
    refine ⟨⟨⟨hs.1, hs.2.1, by simp only [ufn_s]; exact h2⟩, trn_rg hw.1 hw.2, ?_, PL_st hP (by omega) o2⟩, fun _ => ?_, ?_, ?_, fun t a1 a2 => ?_⟩
    · simp only; split <;> omega
    · simp only [mu]; split <;> omega
    · simp only; split <;> omega
    · simp only; omega
    · simp only
      by_cases q : t = s
      · subst q; rw [ufn_s]; exact ⟨fun q => absurd q h2, fun q => absurd q hs.2.2⟩
      · rw [ufn_o q]
  · have hon : sAt pl (b 0) (nxc (pl s) w) ≠ -1 := by omega
    by_cases hp2 : ndS b (sAt pl (b 0) (nxc (pl s) w)) w ≤ p
    · have hr : rst b p nt (s, w, l, pl, (cnt, lf), mt) = (sAt pl (b 0) (nxc (pl s) w), w, l, pl, (cnt, lf), or32 mt (shl32 1 (sAt pl (b 0) (nxc (pl s) w)))) := by
        simp only [rst]; rw [if_neg hl0, if_neg h1, if_neg hon, if_pos hp2]
      rw [hr]
      refine ⟨⟨⟨o1, o2, by simp only; rw [o3]; exact h2⟩, hw, hl, hP⟩, fun _ => ?_, Int.le_refl _, Int.le_refl _, fun _ _ _ => Iff.rfl⟩
      simp only [mu]
      have := rk_dn (pl := pl) (n := b 0) (w := w) (s := s) (o := sAt pl (b 0) (nxc (pl s) w)) hb.1 ⟨o1, o2⟩ (by rw [o3]; exact h2) (by rw [o3, dst_nx hps.1 hps.2 hw.1 hw.2 h2]; omega)
      omega
    · have hr : rst b p nt (s, w, l, pl, (cnt, lf), mt) = (s, w, 0, pl, (cnt, lf), mt) := by
        simp only [rst]; rw [if_neg hl0, if_neg h1, if_neg hon, if_neg hp2]
      rw [hr]
      exact ⟨⟨hs, hw, by simp, hP⟩, fun _ => by simp only [mu]; omega, by simp only; omega, Int.le_refl _, fun _ _ _ => Iff.rfl⟩
theorem rit_end {b : Int → Int} {p nt : Int} (hb : 0 ≤ b 0 ∧ b 0 ≤ 6) : ∀ (k : Nat) (x : RS), VX b x → mu b x < k → (rit b p nt k x).2.2.1 ≤ 0 := by
  intro k
  induction k with
  | zero =>
    intro x h hm
    have r0 := rk_lt (pl := x.2.2.2.1) (w := x.2.1) (s := x.1) hb.1 ⟨h.1.1, h.1.2.1⟩
    have := h.2.2.1
    simp only [mu] at hm
    exfalso; omega
  | succ k ih =>
    intro x h hm
    by_cases hl : x.2.2.1 ≤ 0
    · rw [rit_0 _ _ hl]; exact hl
    · obtain ⟨h1, h2, -⟩ := rst_vx (p := p) (nt := nt) hb h
      simp only [rit]
      exact ih _ h1 (by have := h2 (by omega); omega)
theorem rit_60 {b : Int → Int} {p nt : Int} {x : RS} (hb : 0 ≤ b 0 ∧ b 0 ≤ 6) (h : VX b x) : (rit b p nt 60 x).2.2.1 ≤ 0 := by
  refine rit_end hb 60 x h ?_
  have r0 := rk_lt (pl := x.2.2.2.1) (w := x.2.1) (s := x.1) hb.1 ⟨h.1.1, h.1.2.1⟩
  have := h.2.2.1
  simp only [mu]
  omega
theorem rit_vx {b : Int → Int} {p nt : Int} (hb : 0 ≤ b 0 ∧ b 0 ≤ 6) : ∀ (k : Nat) (x : RS), VX b x → VX b (rit b p nt k x) ∧ (rit b p nt k x).2.2.2.2.1.1 + (rit b p nt k x).2.2.1 ≤ x.2.2.2.2.1.1 + x.2.2.1 ∧ x.2.2.2.2.1.1 ≤ (rit b p nt k x).2.2.2.2.1.1 ∧ ∀ t, 0 ≤ t → t < b 0 → ((rit b p nt k x).2.2.2.1 t = -1 ↔ x.2.2.2.1 t = -1) := by
  intro k
  induction k with
  | zero => intro x h; exact ⟨h, Int.le_refl _, Int.le_refl _, fun _ _ _ => Iff.rfl⟩
  | succ k ih =>
    intro x h
    obtain ⟨h1, -, h3, h4, h5⟩ := rst_vx (p := p) (nt := nt) hb h
    obtain ⟨g1, g2, g3, g4⟩ := ih _ h1
    simp only [rit]
    exact ⟨g1, by omega, by omega, fun t a1 a2 => (g4 t a1 a2).trans (h5 t a1 a2)⟩
