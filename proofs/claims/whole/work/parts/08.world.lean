/-! The world of cells at addresses, read off the abstract machine's state; locals. -/
def rv (a : Nat → Nat) (v : AV) : Value := match v with
  | some (.inl x) => .int (Int32.ofInt x)
  | some (.inr (.inl x)) => .long (Int64.ofInt x)
  | some (.inr (.inr k)) => if k = 0 then .null else .ref (a k)
  | none => .null
def svl (a : Nat → Nat) (k : Nat) (f : Int → Int) (c j : Nat) : Value := match sT c j with
  | 0 => .int (Int32.ofInt (f j))
  | 1 => .long (Int64.ofInt (f j))
  | 2 => .ref (a (tp k j))
  | _ => if (f j).toNat = 0 then .null else .ref (a (f j).toNat)
def ent (a : Nat → Nat) (cy : Nat → ClassId) (k : Nat) (f : Int → Int) (e : Nat × Nat) : va_E := match e.1 with
  | 0 => .inr (e.2, (List.range (nS e.2)).map (svl a k f e.2))
  | 1 => .inl (cy 0, e.2, .inl (fun i => Int32.ofInt (f i)))
  | 2 => .inl (cy 1, e.2, .inr (.inl (fun i => Int64.ofInt (f i))))
  | 3 => .inl (cy 2, e.2, .inl (fun i => Int32.ofInt (f i)))
  | _ => .inl (cy 3, e.2, .inr (.inr (.inr (.inr (fun i => if (f i).toNat = 0 then none else some (a (f i).toNat))))))
def wld (a : Nat → Nat) (cy : Nat → ClassId) (σ : Sg) : va_W := (kl σ).map (fun e => (a e.1, ent a cy e.1 (σ e.1) e.2))
def tys (cy : Nat → ClassId) : List (ClassId × FieldType) := [(cy 0, .int), (cy 1, .long), (cy 2, .boolean), (cy 3, .object "RolledStones$Field")]
theorem lk_mem : ∀ (l : List (Nat × Nat × Nat)) (k c n : Nat), lk l k = (c, n) → c ≠ 9 → ∃ q0 : Nat, l[q0]? = some (k, c, n) := by
  intro l
  induction l with
  | nil => intro k c n h hc; simp only [lk] at h; cases h; exact absurd rfl hc
  | cons e r ih =>
    intro k c n h hc
    simp only [lk] at h
    split at h
    · rename_i hk
      exact ⟨0, by rw [List.getElem?_cons_zero, ← hk, ← h]⟩
    · obtain ⟨q0, hq⟩ := ih k c n h hc
      exact ⟨q0 + 1, by rw [List.getElem?_cons_succ]; exact hq⟩
theorem kn_at {σ : Sg} {k c n : Nat} (h : kn σ k = (c, n)) (hc : c ≠ 9) : ∃ q0 : Nat, (kl σ)[q0]? = some (k, c, n) := lk_mem _ _ _ _ h hc
theorem nd_inj {l : List Nat} (h : l.Nodup) {i j x : Nat} (hi : l[i]? = some x) (hj : l[j]? = some x) : i = j := by
  obtain ⟨h1, e1⟩ := List.getElem?_eq_some_iff.mp hi
  obtain ⟨h2, e2⟩ := List.getElem?_eq_some_iff.mp hj
  have hp := List.pairwise_iff_getElem.mp h
  rcases Nat.lt_trichotomy i j with q | q | q
  · exact absurd (e1.trans e2.symm) (hp i j h1 h2 q)
  · exact q
  · exact absurd (e2.trans e1.symm) (hp j i h2 h1 q)
theorem kl_nd (σ : Sg) : ((kl σ).map (fun e => e.1)).Nodup := by
  unfold kl
  split <;> split <;> decide +kernel
theorem kl_inj {σ : Sg} {i j : Nat} {e e' : Nat × Nat × Nat} (h1 : (kl σ)[i]? = some e) (h2 : (kl σ)[j]? = some e') (h : e.1 = e'.1) : i = j :=
  nd_inj (kl_nd σ) (x := e'.1) (by rw [List.getElem?_map, h1, ← h]; rfl) (by rw [List.getElem?_map, h2]; rfl)
theorem wld_at {a : Nat → Nat} {cy : Nat → ClassId} {σ : Sg} {q0 k c n : Nat} (h : (kl σ)[q0]? = some (k, c, n)) : (wld a cy σ)[q0]? = some (a k, ent a cy k (σ k) (c, n)) := by
  simp only [wld, List.getElem?_map, h]; rfl
theorem wld_set {a : Nat → Nat} {cy : Nat → ClassId} {σ σ' : Sg} {q0 k c n : Nat} (hkl : kl σ' = kl σ) (h : (kl σ)[q0]? = some (k, c, n)) (ho : ∀ k', k' ≠ k → σ' k' = σ k') : (wld a cy σ).set q0 (a k, ent a cy k (σ' k) (c, n)) = wld a cy σ' := by
  apply List.ext_getElem?
  intro i
  by_cases hi : i = q0
  · subst hi
    have hlt : i < (wld a cy σ).length := by simp only [wld, List.length_map]; exact (List.getElem?_eq_some_iff.mp h).1
    rw [List.getElem?_set_self hlt, wld_at (σ := σ') (by rw [hkl]; exact h)]
  · rw [List.getElem?_set_ne (Ne.symm hi)]
    simp only [wld, hkl, List.getElem?_map]
    cases hx : (kl σ)[i]? with
    | none => rfl
    | some e' =>
      have hne : e'.1 ≠ k := fun q => hi (kl_inj hx h q)
      simp only [Option.map_some, ho e'.1 hne]
theorem up_ne {σ : Sg} {k k' : Nat} {i v : Int} (h : k' ≠ k) : up σ k i v k' = σ k' := by
  funext j; simp [up, h]
theorem up_at {σ : Sg} {k : Nat} {i v j : Int} : up σ k i v k j = if j = i then v else σ k j := by simp [up]
theorem cpy_ne {σ : Sg} {x b k' : Nat} {sp dp n : Int} (h : k' ≠ b) : cpy σ x sp b dp n k' = σ k' := by
  funext j; simp [cpy, h]
theorem kl_up {σ : Sg} {k : Nat} {i v : Int} (h : k ≠ 16) : kl (up σ k i v) = kl σ := by
  unfold kl; rw [up_ne (Ne.symm h)]
theorem kl_cpy {σ : Sg} {x b : Nat} {sp dp n : Int} (h : b ≠ 16) : kl (cpy σ x sp b dp n) = kl σ := by
  unfold kl; rw [cpy_ne (Ne.symm h)]
theorem kn16 (σ : Sg) : kn σ 16 = (4, 2) := by
  unfold kn kl; rfl
theorem ne16 {σ : Sg} {k c n : Nat} (h : kn σ k = (c, n)) (hc : c ≠ 4) : k ≠ 16 := by
  intro e; subst e; rw [kn16] at h; cases h; exact hc rfl
theorem tp_all : ∀ e ∈ kBl ++ (kI0 ++ kI1), e.2.1 = 0 → e.2.2 < 7 ∧ ∀ j ∈ List.range (nS e.2.2), sT e.2.2 j = 2 → tp e.1 j ≠ 0 := by decide +kernel
theorem kl_mem {σ : Sg} {e : Nat × Nat × Nat} (h : e ∈ kl σ) : e ∈ kBl ++ (kI0 ++ kI1) := by
  unfold kl at h
  rcases List.mem_append.mp h with h | h
  · exact List.mem_append_left _ h
  · refine List.mem_append_right _ ?_
    rcases List.mem_append.mp h with h | h
    · split at h
      · exact List.mem_append_left _ h
      · cases h
    · split at h
      · exact List.mem_append_right _ h
      · cases h
theorem kn_obj {σ : Sg} {k c : Nat} (h : kn σ k = (0, c)) : c < 7 ∧ ∀ j, j < nS c → sT c j = 2 → tp k j ≠ 0 := by
  obtain ⟨q0, hq⟩ := kn_at h (by decide)
  obtain ⟨h1, h2⟩ := tp_all _ (kl_mem (List.mem_of_getElem? hq)) rfl
  exact ⟨h1, fun j hj => h2 j (List.mem_range.mpr hj)⟩
theorem kn0 : ∀ e ∈ kBl ++ (kI0 ++ kI1), e.1 ≠ 0 := by decide +kernel
theorem kn_ne0 {σ : Sg} {k c n : Nat} (h : kn σ k = (c, n)) (hc : c ≠ 9) : k ≠ 0 := by
  obtain ⟨q0, hq⟩ := kn_at h hc
  exact kn0 _ (kl_mem (List.mem_of_getElem? hq))
/-- the locals of a frame hold what the abstract machine says -/
def lvh (a : Nat → Nat) (n : Nat) (ls : List AV) (rl : Array Slot) : Prop := ls.length = n ∧ rl.size = n ∧ lv_wf rl ∧ ∀ (j : Nat) (v : Int ⊕ Int ⊕ Nat), ls[j]? = some (some v) → ((∃ x, v = .inr (.inl x)) → ls[j + 1]? = some none) → rl[j]? = some (.val (rv a (some v)))
def lvF (rl : Array Slot) : List (Nat × Value) := (List.range rl.size).filterMap (fun j => match (rl[j]? : Option Slot) with
  | some (Slot.val v) => some (j, v)
  | _ => none)
theorem lvF_mem {rl : Array Slot} {j : Nat} {v : Value} (h : rl[j]? = some (.val v)) : (j, v) ∈ lvF rl := by
  refine List.mem_filterMap.mpr ⟨j, List.mem_range.mpr (lv_lt h), ?_⟩
  rw [h]
theorem lvF_has {rl : Array Slot} {n : Nat} (h1 : rl.size = n) (h2 : lv_wf rl) : lv_has rl n (lvF rl) := by
  refine ⟨h1, h2, fun q hq => ?_⟩
  obtain ⟨j, -, hj⟩ := List.mem_filterMap.mp hq
  split at hj
  · rename_i v hv
    cases hj
    exact hv
  · cases hj
theorem rv_cat {a : Nat → Nat} {v : Int ⊕ Int ⊕ Nat} : (rv a (some v)).category = 2 → ∃ x, v = .inr (.inl x) := by
  rcases v with x | x | k
  · intro h; simp [rv, Value.category] at h
  · intro _; exact ⟨x, rfl⟩
  · intro h
    simp only [rv] at h
    split at h <;> simp [Value.category] at h
theorem rv_catL {a : Nat → Nat} {x : Int} : (rv a (vL x)).category = 2 := by simp [rv, Value.category]
theorem rv_cat1 {a : Nat → Nat} {v : Int ⊕ Int ⊕ Nat} (h : ∀ x, v ≠ .inr (.inl x)) : (rv a (some v)).category = 1 := by
  rcases lv_cat (rv a (some v)) with h1 | h1
  · exact h1
  · obtain ⟨x, e⟩ := rv_cat h1
    exact absurd e (h x)
/-- a store of one word -/
theorem lvh_set {a : Nat → Nat} {n i : Nat} {ls : List AV} {rl rl' : Array Slot} {v : Int ⊕ Int ⊕ Nat} (h : lvh a n ls rl) (hv : ∀ x, v ≠ .inr (.inl x)) (hi : i < n)
    (h' : lv_has rl' n ((i, rv a (some v)) :: (lvF rl).filter (fun q => !(q.1 == i) && !(q.1 + 1 == i && q.2.category == 2)))) : lvh a n (ls.set i (some v)) rl' := by
  obtain ⟨h1, h2, h3, h4⟩ := h
  obtain ⟨g1, g2, g3⟩ := h'
  refine ⟨by rw [List.length_set]; exact h1, g1, g2, fun j w hj hl => ?_⟩
  by_cases e : j = i
  · subst e
    rw [List.getElem?_set_self (by omega)] at hj
    cases hj
    exact g3 (j, _) List.mem_cons_self
  · rw [List.getElem?_set_ne (Ne.symm e)] at hj
    have hl2 : (∃ x, w = .inr (.inl x)) → ls[j + 1]? = some none := by
      intro hw
      have q := hl hw
      by_cases e2 : i = j + 1
      · subst e2
        rw [List.getElem?_set_self (by omega)] at q
        cases q
      · rwa [List.getElem?_set_ne e2] at q
    refine g3 (j, rv a (some w)) (List.mem_cons_of_mem _ (List.mem_filter.mpr ⟨lvF_mem (h4 j w hj hl2), ?_⟩))
    simp only [Bool.and_eq_true, Bool.not_eq_true', beq_eq_false_iff_ne, ne_eq, Bool.and_eq_false_iff]
    refine ⟨e, ?_⟩
    by_cases hc : (rv a (some w)).category = 2
    · left
      intro e2
      have q := hl (rv_cat hc)
      rw [← e2, List.getElem?_set_self (by omega)] at q
      · cases q
    · exact Or.inr hc
/-- a store of two words -/
theorem lvh_setL {a : Nat → Nat} {n i : Nat} {ls : List AV} {rl rl' : Array Slot} {x : Int} (h : lvh a n ls rl) (hi : i + 1 < n)
    (h' : lv_has rl' n ((i, rv a (vL x)) :: (lvF rl).filter (fun q => !(q.1 == i) && (!(q.1 == i + 1) && !(q.1 + 1 == i && q.2.category == 2))))) : lvh a n ((ls.set i (vL x)).set (i + 1) none) rl' := by
  obtain ⟨h1, h2, h3, h4⟩ := h
  obtain ⟨g1, g2, g3⟩ := h'
  refine ⟨by rw [List.length_set, List.length_set]; exact h1, g1, g2, fun j w hj hl => ?_⟩
  by_cases e : j = i
  · subst e
    rw [List.getElem?_set_ne (by omega), List.getElem?_set_self (by omega)] at hj
    cases hj
    exact g3 (j, _) List.mem_cons_self
  · by_cases e1 : j = i + 1
    · subst e1
      rw [List.getElem?_set_self (by rw [List.length_set]; omega)] at hj
      cases hj
    · rw [List.getElem?_set_ne (Ne.symm e1), List.getElem?_set_ne (Ne.symm e)] at hj
      have hji : (∃ x, w = .inr (.inl x)) → j + 1 ≠ i := by
        intro hw e2
        have q := hl hw
        rw [List.getElem?_set_ne (by omega), e2, List.getElem?_set_self (by omega)] at q
        cases q
      have hl2 : (∃ x, w = .inr (.inl x)) → ls[j + 1]? = some none := by
        intro hw
        have q := hl hw
        have q2 := hji hw
        rwa [List.getElem?_set_ne (by omega), List.getElem?_set_ne (Ne.symm q2)] at q
      refine g3 (j, rv a (some w)) (List.mem_cons_of_mem _ (List.mem_filter.mpr ⟨lvF_mem (h4 j w hj hl2), ?_⟩))
      simp only [Bool.and_eq_true, Bool.not_eq_true', beq_eq_false_iff_ne, ne_eq, Bool.and_eq_false_iff]
      refine ⟨e, e1, ?_⟩
      by_cases hc : (rv a (some w)).category = 2
      · exact Or.inl (hji (rv_cat hc))
      · exact Or.inr hc
theorem fnd_mem : ∀ (l : Pg) (pc : Nat) (e : Nat × In), fnd l pc = some e → (pc, e) ∈ l := by
  intro l
  induction l with
  | nil => intro pc e h; cases h
  | cons b r ih =>
    intro pc e h
    simp only [fnd] at h
    split at h
    · rename_i hb
      cases h
      rw [← hb]
      exact List.mem_cons_self
    · exact List.mem_cons_of_mem _ (ih pc e h)
theorem ok_at {y pc nx op : Nat} {v : Int} {k t : Nat} {tb : List (Int × Nat)} (hy : y < mLaw + 1) (hf : fnd (pgm y) pc = some (nx, op, v, k, t, tb)) : okD y pc nx op v k t tb = true ∧ sc y op v k t tb = true := by
  have h := List.all_eq_true.mp (ok_all y hy) _ (fnd_mem _ _ _ hf)
  simp only [okE, Bool.and_eq_true] at h
  exact h
theorem ok_dec {y pc nx op : Nat} {v : Int} {k t : Nat} {tb : List (Int × Nat)} (h24 : op ≠ 24) (h : okD y pc nx op v k t tb = true) : decode (mB y) pc = .ok (rI pc op v k t tb) ∧ nx = pc + (rI pc op v k t tb).2 := by
  simp only [okD, if_neg h24, Bool.and_eq_true, decide_eq_true_eq] at h
  exact h
