/-! What a run leaves alone; a run of the abstract machine is a run of the machine; Ev is met. -/
def kp (σ σ' : Sg) : Prop := kl σ' = kl σ ∧ ∀ k, (kn σ k).1 = 9 → σ' k = σ k
theorem kp_rf {σ : Sg} : kp σ σ := ⟨rfl, fun _ _ => rfl⟩
theorem kp_tr {σ σ1 σ2 : Sg} (h1 : kp σ σ1) (h2 : kp σ1 σ2) : kp σ σ2 := by
  refine ⟨h2.1.trans h1.1, fun k hk => ?_⟩
  rw [h2.2 k (by unfold kn at hk ⊢; rw [h1.1]; exact hk), h1.2 k hk]
theorem kp_up {σ : Sg} {k c n : Nat} {i v : Int} (h : kn σ k = (c, n)) (h4 : c ≠ 4) (h9 : c ≠ 9) : kp σ (up σ k i v) := by
  refine ⟨kl_up (ne16 h h4), fun k' hk => up_ne ?_⟩
  intro e; subst e; rw [h] at hk; exact h9 hk
theorem kp_al {σ : Sg} {k c : Nat} {i j v : Int} (h : 0 ≤ w32 i ∧ w32 i < al σ c k) (h4 : c ≠ 4) (h9 : c ≠ 9) : kp σ (up σ k j v) := by
  obtain ⟨n, hn, -⟩ := al_of h
  exact kp_up hn h4 h9
theorem exe_kp {d nx op : Nat} {v : Int} {k t : Nat} {tb : List (Int × Nat)} {ls st : List AV} {σ : Sg} {s' : St} (hs : exe d nx op v k t tb ls st σ = some (.inl s')) : kp σ s'.2.2.2 := by
  by_cases h29 : op = 29
  · subst h29
    simp only [exe] at hs
    split at hs
    · split at hs
      · rename_i h; cases hs; exact kp_al h (by decide) (by decide)
      · cases hs
    · cases hs
  by_cases h30 : op = 30
  · subst h30
    simp only [exe] at hs
    split at hs
    · split at hs
      · rename_i h; cases hs; exact kp_al h (by decide) (by decide)
      · cases hs
    · cases hs
  by_cases h31 : op = 31
  · subst h31
    simp only [exe] at hs
    split at hs
    · split at hs
      · rename_i h; cases hs; exact kp_al h.1 (by decide) (by decide)
      · cases hs
    · cases hs
  by_cases h34 : op = 34
  · subst h34
    simp only [exe] at hs
    split at hs
    · split at hs
      · rename_i h; cases hs; exact kp_up h.1 (by decide) (by decide)
      · cases hs
    · split at hs
      · rename_i h; cases hs; exact kp_up h.1 (by decide) (by decide)
      · cases hs
    · split at hs
      · rename_i h; cases hs; exact kp_up h.1 (by decide) (by decide)
      · cases hs
    · cases hs
  by_cases h36 : op = 36
  · subst h36
    simp only [exe] at hs
    split at hs
    · split at hs
      · rename_i h
        cases hs
        obtain ⟨hk, -, -, -, -, -, -, -, -, h9⟩ := h
        obtain ⟨N, hN, -⟩ := al_pos h9
        refine ⟨kl_cpy (ne16 hN (by omega)), fun k' hk' => cpy_ne ?_⟩
        intro e; subst e; rw [hN] at hk'; simp only at hk'; omega
      · cases hs
    · cases hs
  have hσ : s'.2.2.2 = σ := by
    unfold exe at hs
    split at hs <;> first
      | exact absurd rfl h29
      | exact absurd rfl h30
      | exact absurd rfl h31
      | exact absurd rfl h34
      | exact absurd rfl h36
      | (cases hs; done)
      | (cases hs; rfl)
      | (split at hs <;> first
          | (cases hs; done)
          | (cases hs; rfl)
          | (obtain ⟨z, -, e0⟩ := Option.map_eq_some_iff.mp hs; cases e0; rfl)
          | (split at hs <;> first
              | (cases hs; done)
              | (cases hs; rfl)
              | (split at hs <;> first
                  | (cases hs; done)
                  | (cases hs; rfl)))
          | (simp only [Option.some.injEq, Sum.inl.injEq] at hs; subst hs; split <;> rfl))
  rw [hσ]
  exact kp_rf
theorem exe_call {d nx op : Nat} {v : Int} {k t : Nat} {tb : List (Int × Nat)} {ls st : List AV} {σ : Sg} {c0 : Nat × List AV × (AV → Sg → St)} (hs : exe d nx op v k t tb ls st σ = some (.inr (.inl c0))) : op = 35 := by
  by_cases h : op = 35
  · exact h
  exfalso
  unfold exe at hs
  split at hs <;> first
    | exact h rfl
    | (cases hs; done)
    | (split at hs <;> first
        | (cases hs; done)
        | (obtain ⟨z, -, e0⟩ := Option.map_eq_some_iff.mp hs; cases e0; done)
        | (split at hs <;> first
            | (cases hs; done)
            | (split at hs <;> cases hs; done)))
theorem exe_ret {d nx op : Nat} {v : Int} {k t : Nat} {tb : List (Int × Nat)} {ls st : List AV} {σ : Sg} {q : AV × Sg} (hs : exe d nx op v k t tb ls st σ = some (.inr (.inr q))) : op = 37 := by
  by_cases h : op = 37
  · exact h
  exfalso
  unfold exe at hs
  split at hs <;> first
    | exact h rfl
    | (cases hs; done)
    | (split at hs <;> first
        | (cases hs; done)
        | (obtain ⟨z, -, e0⟩ := Option.map_eq_some_iff.mp hs; cases e0; done)
        | (split at hs <;> first
            | (cases hs; done)
            | (split at hs <;> cases hs; done)))
theorem stp_exe {d y : Nat} {s1 : St} {x : SR} (h : stp d y s1 = some x) : ∃ nx op v k t tb, fnd (pgm y) s1.1 = some (nx, op, v, k, t, tb) ∧ exe d nx op v k t tb s1.2.1 s1.2.2.1 s1.2.2.2 = some x := by
  unfold stp at h
  split at h
  · cases h
  · rename_i nx op v k t tb hf
    exact ⟨nx, op, v, k, t, tb, hf, h⟩
theorem call_σ {d y : Nat} {s1 : St} {c0 : Nat × List AV × (AV → Sg → St)} (h : stp d y s1 = some (.inr (.inl c0))) (r : AV) (σ1 : Sg) : (c0.2.2 r σ1).2.2.2 = σ1 := by
  obtain ⟨nx, op, v, k, t, tb, hf, he⟩ := stp_exe h
  have := exe_call he
  subst this
  simp only [exe] at he
  split at he
  · cases he; rfl
  · cases he
theorem ret_σ {d y : Nat} {s1 : St} {q : AV × Sg} (h : stp d y s1 = some (.inr (.inr q))) : q.2 = s1.2.2.2 := by
  obtain ⟨nx, op, v, k, t, tb, hf, he⟩ := stp_exe h
  have := exe_ret he
  subst this
  simp only [exe] at he
  split at he <;> first | (cases he; done) | (cases he; rfl) | (split at he <;> first | (cases he; done) | (cases he; rfl))
theorem sg_kp {d y : Nat} {E : ER} (hE : ∀ k as σ r σ1, E k as σ r σ1 → kp σ σ1) : ∀ (n : Nat) (s1 s2 : St), sg d E y n s1 s2 → kp s1.2.2.2 s2.2.2.2 := by
  intro n
  induction n with
  | zero => intro s1 s2 h; cases h; exact kp_rf
  | succ n ih =>
    intro s1 s2 h
    simp only [sg] at h
    split at h
    · rename_i s3 e3
      obtain ⟨nx, op, v, k, t, tb, hf, he⟩ := stp_exe e3
      exact kp_tr (exe_kp he) (ih s3 s2 h)
    · rename_i c0 e3
      obtain ⟨r, σ1, a1, a2⟩ := h
      have h3 := ih _ s2 a2
      rw [call_σ e3] at h3
      exact kp_tr (hE _ _ _ _ _ a1) h3
    · exact h.elim
theorem Ev_kp : ∀ (d k : Nat) (as : List AV) (σ : Sg) (r : AV) (σ1 : Sg), Ev d k as σ r σ1 → kp σ σ1 := by
  intro d
  induction d with
  | zero => intro k as σ r σ1 h; exact h.elim
  | succ d ih =>
    intro k as σ r σ1 h
    obtain ⟨-, n, s', h1, h2⟩ := h
    have h3 := sg_kp ih n _ s' h1
    have h4 := ret_σ h2
    simp only at h4
    rw [h4]
    exact h3
theorem kn999 (σ : Sg) : kn σ 999 = (9, 0) := by
  unfold kn kl
  split <;> split <;> decide +kernel
theorem Xs_kp {a : Nat → Nat} {A : Nat → Prop} {s : State} {σ σ' : Sg} (h : Xs a A s σ) (hk : kp σ σ') : Xs a A s σ' := by
  obtain ⟨L, xs, h1, h2, h3, h4, h5⟩ := h
  have e := hk.2 999 (by rw [kn999])
  exact ⟨L, xs, h1, h2, h3, by rw [e]; exact h4, fun j hj => by rw [e]; exact h5 j hj⟩
section RUN
variable {p : Program} {l : Launch} {e : Env} {R : Room} {s : State} {m : MethodId} {args : Array Value} {below : List Frame} {meth : Method} {c : Code} {cells slots : Nat} {Q : State → Prop}
variable {dC : Nat → ClassId} {dI : Nat → Nat → Nat} {cy : Nat → ClassId} {a : Nat → Nat} {A : Nat → Prop} {y d : Nat}
def MetAll (l : Launch) (d : Nat) : Prop := ∀ (d' : Nat), d = d' + 1 → ∀ (k : Nat) (as : List AV) (σ : Sg) (r : AV) (σ1 : Sg), k < mLaw → Ev d k as σ r σ1 → ∀ (dC : Nat → ClassId) (dI : Nat → Nat → Nat) (cy : Nat → ClassId) (a : Nat → Nat) (sz : Nat), Met l (mN k) (wsU k) (rmU d') (PcU dC dI cy a as σ sz) (QcU dC dI cy a r σ1 (va_A (wld a cy σ) sz)) 0 0 (va_A (wld a cy σ) sz)
theorem run_ok (hE : MetAll l d) (C : Cx p R s m args c dC dI cy a A y d cells slots) : ∀ (n : Nat) (s1 s2 : St), sg d (Ev d) y n s1 s2 → ∀ (H : Heap) (locs : List Loc) (rl : Array Slot), Rl dC dI cy a A s y s1.2.1 s1.2.2.2 H locs rl → (y = mLaw → Xs a A s s1.2.2.2) →
    (∀ H1 locs1 rl1, Rl dC dI cy a A s y s2.2.1 s2.2.2.2 H1 locs1 rl1 → W p l e R s m args below meth c H1 locs1 cells slots Q (F0 m s2.1 rl1 (s2.2.2.1.map (rv a)))) → W p l e R s m args below meth c H locs cells slots Q (F0 m s1.1 rl (s1.2.2.1.map (rv a))) := by
  intro n
  induction n with
  | zero => intro s1 s2 h H locs rl hr hX kk; cases h; exact kk H locs rl hr
  | succ n ih =>
    intro s1 s2 h H locs rl hr hX kk
    simp only [sg] at h
    split at h
    · rename_i s3 e3
      obtain ⟨nx, op, v, k, t, tb, hf, he⟩ := stp_exe e3
      refine st_ok C hr hX hf he (fun H1 locs1 rl1 hr1 => ?_)
      exact ih s3 s2 h H1 locs1 rl1 hr1 (fun q => Xs_kp (hX q) (exe_kp he)) kk
    · rename_i c0 e3
      obtain ⟨r, σ1, a1, a2⟩ := h
      obtain ⟨nx, op, v, k, t, tb, hf, he⟩ := stp_exe e3
      have h35 := exe_call he
      subst h35
      have hσ := call_σ e3 r σ1
      cases d with
      | zero => exact a1.elim
      | succ d' =>
        refine call_ok C hr hf he rfl (fun hk => hE d' rfl _ _ _ _ _ hk a1 dC dI cy a H.size) (fun H1 locs1 rl1 hr1 => ?_) hσ
        exact ih _ s2 a2 H1 locs1 rl1 hr1 (fun q => by rw [hσ]; exact Xs_kp (hX q) (Ev_kp _ _ _ _ _ _ a1)) kk
    · exact h.elim
theorem ret_ok {pc nx op k t : Nat} {v : Int} {tb : List (Int × Nat)} {ls st : List AV} {σ σ' : Sg} {r : AV} {H : Heap} {locs : List Loc} {rl : Array Slot} (C : Cx p R s m args c dC dI cy a A y d 0 0) (hret : meth.sig.returnType = rty (mR y)) (hlocks : meth.locks = false) (hr : Rl dC dI cy a A s y ls σ H locs rl) (hf : fnd (pgm y) pc = some (nx, op, v, k, t, tb)) (hs : exe d nx op v k t tb ls st σ = some (.inr (.inr (r, σ')))) :
    W p l e R s m args below meth c H locs 0 0 (MQ below (QcU dC dI cy a r σ' A) args s 0 0 A) (F0 m pc rl (st.map (rv a))) := by
  obtain ⟨hx, hb, hml, hown, hts, hK, hR, hcs, hSX, hA, hy⟩ := C
  have := exe_ret hs
  subst this
  obtain ⟨g1, g2⟩ := ok_at hy hf
  obtain ⟨hd, hn⟩ := ok_dec (by decide) g1
  simp only [sc, decide_eq_true_eq] at g2
  subst g2
  obtain ⟨hP, hD, hS, hL⟩ := hr
  simp only [exe] at hs
  split at hs
  · rename_i hk
    cases hs
    simp only [rI, hk] at hd
    rw [hk] at hret
    exact W.vret hx hb hret (fun t ht hW => ⟨⟨rfl, by rw [ht]; exact hP, hD⟩, hS.F ht⟩) hS.2.2 hd hlocks
  · rename_i x hk
    cases hs
    simp only [rI, hk] at hd
    rw [hk] at hret
    exact W.iret (v := Int32.ofInt x) hx hb hret (fun t ht hW => ⟨⟨rfl, by rw [ht]; exact hP, hD⟩, hS.F ht⟩) hS.2.2 hd hlocks
  · rename_i x hk
    split at hs
    rotate_left
    · cases hs
    rename_i h01
    cases hs
    simp only [rI, hk] at hd
    rw [hk] at hret
    exact W.zret (v := Int32.ofInt x) (ty := .boolean) hx hb hret (by rcases h01 with rfl | rfl <;> decide) (fun t ht hW => ⟨⟨rfl, by rw [ht]; exact hP, hD⟩, hS.F ht⟩) hS.2.2 hd hlocks
  · rename_i x hk
    cases hs
    simp only [rI, hk] at hd
    rw [hk] at hret
    exact W.lret (v := Int64.ofInt x) hx hb hret (fun t ht hW => ⟨⟨rfl, by rw [ht]; exact hP, hD⟩, hS.F ht⟩) hS.2.2 hd hlocks
  · rename_i o hk
    split at hs
    · cases hs
    rename_i ho
    cases hs
    simp only [rI, hk] at hd
    rw [hk] at hret
    have he : rv a (some (Sum.inr (Sum.inr o))) = .ref (a o) := by simp only [rv]; rw [if_neg ho]
    simp only [List.map_cons, List.map_nil]
    rw [he]
    exact W.aret (v := .ref (a o)) (rt := .array .boolean) hx hb hret (Or.inr ⟨_, rfl⟩) (Or.inr ⟨_, rfl⟩) (fun t ht hW => ⟨⟨by simp only [ro]; rw [he], by rw [ht]; exact hP, hD⟩, hS.F ht⟩) hS.2.2 hd hlocks
  · cases hs
end RUN
theorem flt_args {a : Nat → Nat} : ∀ (as : List AV) (i j : Nat) (v : Int ⊕ Int ⊕ Nat), (flt as)[j]? = some (some v) → (i + j, rv a (some v)) ∈ lv_args i (as.map (rv a)) := by
  intro as
  induction as with
  | nil => intro i j v h; simp [flt] at h
  | cons x r ih =>
    intro i j v h
    by_cases hL : ∃ z, x = vL z
    · obtain ⟨z, rfl⟩ := hL
      have e1 : flt (vL z :: r) = vL z :: none :: flt r := rfl
      rw [e1] at h
      simp only [List.map_cons, lv_args]
      rw [if_pos rv_catL]
      match j, h with
      | 0, h => cases h; exact List.mem_cons_self
      | 1, h => cases h
      | j + 2, h =>
        have := ih (i + 2) j v h
        rw [show i + 2 + j = i + (j + 2) by omega] at this
        exact List.mem_cons_of_mem _ this
    · have e1 : flt (x :: r) = x :: flt r := by
        rcases x with _ | x | x | x
        · rfl
        · rfl
        · exact absurd ⟨x, rfl⟩ hL
        · rfl
      rw [e1] at h
      have hc : (rv a x).category = 1 := by
        rcases x with _ | x
        · rfl
        · exact rv_cat1 (fun z q => hL ⟨z, by rw [q]⟩)
      simp only [List.map_cons, lv_args]
      rw [if_neg (by omega)]
      match j, h with
      | 0, h => cases h; exact List.mem_cons_self
      | j + 1, h =>
        have := ih (i + 1) j v h
        rw [show i + 1 + j = i + (j + 1) by omega] at this
        exact List.mem_cons_of_mem _ this
theorem flt_len {a : Nat → Nat} : ∀ (as : List AV), (lg_sl (as.map (rv a))).length = (flt as).length := by
  intro as
  induction as with
  | nil => rfl
  | cons x r ih =>
    by_cases hL : ∃ z, x = vL z
    · obtain ⟨z, rfl⟩ := hL
      have e1 : flt (vL z :: r) = vL z :: none :: flt r := rfl
      rw [e1]
      simp only [lg_sl, List.map_cons, List.flatMap_cons] at ih ⊢
      rw [if_pos rv_catL, List.length_append, ih]
      simp; omega
    · have e1 : flt (x :: r) = x :: flt r := by
        rcases x with _ | x | x | x
        · rfl
        · rfl
        · exact absurd ⟨x, rfl⟩ hL
        · rfl
      have hc : (rv a x).category = 1 := by
        rcases x with _ | x
        · rfl
        · exact rv_cat1 (fun z q => hL ⟨z, by rw [q]⟩)
      rw [e1]
      simp only [lg_sl, List.map_cons, List.flatMap_cons] at ih ⊢
      rw [if_neg (by omega), List.length_append, ih]
      simp; omega
theorem lvh_entry {a : Nat → Nat} {y : Nat} {as : List AV} {rl : Array Slot} (hl : (flt as).length ≤ mL y) (h : lv_has rl (mL y) (lv_args 0 (as.map (rv a)))) : lvh a (mL y) (lay y as) rl := by
  refine ⟨by simp only [lay, List.length_append, List.length_replicate]; omega, h.1, h.2.1, fun j v hj _ => ?_⟩
  have hj2 : (flt as)[j]? = some (some v) := by
    unfold lay at hj
    by_cases hlt : j < (flt as).length
    · rwa [List.getElem?_append_left hlt] at hj
    · rw [List.getElem?_append_right (by omega)] at hj
      have h2 := List.mem_of_getElem? hj
      rw [List.mem_replicate] at h2
      exact absurd h2.2 (by simp)
  have := flt_args (a := a) as 0 j v hj2
  rw [Nat.zero_add] at this
  exact h.2.2 _ this
theorem snd_all (l : Launch) : ∀ d, MetAll l d := by
  intro d
  induction d with
  | zero => intro d' h; omega
  | succ d ih =>
    intro d' hd' y as σ r σ1 hy hev dC dI cy a sz
    obtain rfl : d' = d := by omega
    obtain ⟨hl, n, s', hsg, hret⟩ := hev
    have hyr : y ∈ List.range mLaw := List.mem_range.mpr hy
    obtain ⟨cl1, cl2, cl3, cl4⟩ := mcls_all y hyr
    obtain ⟨cp1, -, -⟩ := cpl (mO y) cl2 cl3
    refine Met.ofW (cc := mB y) (maxL := mL y) (ret := rty (mR y)) (by rw [cl1]; exact cp1) rfl ?_
    intro p e s m args below meth c s₁ B hml hv
    obtain ⟨rfl, hsz, hP, hK, hD0, hSX⟩ := hv
    have hx := B.exec
    have hb := B.bytes
    have hr := B.returns
    have hts := atoms_spec (ws := wsU y) B.pre
    have hown : s.vm.findClass (mN y).cls = some m.cls := findClass_of_methodNamed B.named
    have hlocks := B.notSynchronized
    subst hsz
    have hD := hD0.self (sz := s.heap.size)
    have hA : ∀ q : Nat, s.heap.size ≤ q → va_A (wld a cy σ) s.heap.size q := fun q h => Or.inr h
    have hS : va_S (va_A (wld a cy σ) s.heap.size) s.heap s.heap [] := va_S.rf
    have hln := lv_entry (as.map (rv a)) (n := mL y) (by rw [flt_len]; exact hl)
    rw [lg_entry_eq]
    generalize (lg_sl (as.map (rv a)) ++ List.replicate (mL y - (lg_sl (as.map (rv a))).length) Slot.unset).toArray = rl at hln ⊢
    have C : Cx p (headSpec (wsU y) (rmU d')).room s m ((as.map (rv a)).toArray) c dC dI cy a (va_A (wld a cy σ) s.heap.size) y d' 0 0 :=
      ⟨hx, hb, hml, by rw [← cl1]; exact hown, fun w hw => hts w (List.mem_cons_of_mem _ hw), hK, ⟨Nat.le_refl _, Nat.le_refl _⟩, ⟨Nat.zero_le _, Nat.zero_le _⟩, hSX, hA, by omega⟩
    refine run_ok ih C n (0, lay y as, [], σ) s' hsg s.heap [] rl ⟨hP, hD, hS, lvh_entry hl hln⟩ (fun q => by omega) (fun H1 locs1 rl1 hr1 => ?_)
    obtain ⟨nx, op, v, k, t, tb, hf, he⟩ := stp_exe hret
    exact ret_ok C hr hlocks hr1 hf he
