/-! Calls, returns, and the soundness of Ev. -/
def ro (a : Nat → Nat) (r : AV) : Option Value := match r with
  | none => none
  | some v => some (rv a (some v))
def wsU (y : Nat) : List Cond := .code (mN y) (mB y) (mL y) (rty (mR y)) :: lwg
def rmU (d : Nat) : Room := { frames := d + 1, cells := 0, slots := 0, locals := 37 * (d + 1) }
def PcU (dC : Nat → ClassId) (dI : Nat → Nat → Nat) (cy : Nat → ClassId) (a : Nat → Nat) (as : List AV) (σ : Sg) (sz : Nat) : Array Value → State → Prop := va_Pc (as.map (rv a)) (fun U => U.heap.size = sz ∧ va_P (dC, dI) vwCl (wld a cy σ) U.heap ∧ va_K (dC, dI) vwCl (tys cy) U ∧ va_D (fun _ => True) (wld a cy σ) ∧ SX a (va_A (wld a cy σ) sz) U)
def QcU (dC : Nat → ClassId) (dI : Nat → Nat → Nat) (cy : Nat → ClassId) (a : Nat → Nat) (r : AV) (σ' : Sg) (A : Nat → Prop) : Array Value → State → Outcome → State → Prop := fun _ st oc t => (oc = .returned (ro a r) ∧ va_P (dC, dI) vwCl (wld a cy σ') t.heap ∧ va_D A (wld a cy σ')) ∧ va_F A st t
theorem SX_go {a : Nat → Nat} {A A' : Nat → Prop} {s U : State} {H : Heap} {locs : List Loc} (h : SX a A s) (hS : va_S A s.heap H locs) (hU : U.heap = H) (hW : s.WarmedH U.vm) (hA : ∀ q, A' q → A q) : SX a A' U := by
  obtain ⟨h1, h2, ⟨adV, h3⟩, h4, h5, h6⟩ := h
  subst hU
  exact ⟨h1.warm hW, h2.warm hW, ⟨adV, ((h3.kept hS.2.1).moved hW.alike).narrow hA⟩, ((h4.kept hS.2.1).moved hW.alike).narrow hA, ((h5.kept hS.2.1).moved hW.alike).narrow hA, va_Nw.warmM hW h6⟩
theorem SX_same {a : Nat → Nat} {A : Nat → Prop} {u U : State} (h : SX a A u) (hv : U.vm = u.vm) (hh : U.heap = u.heap) : SX a A U := by
  obtain ⟨h1, h2, ⟨adV, h3⟩, h4, h5, h6⟩ := h
  have hal : u.vm.Alike U.vm := by rw [hv]; exact Vm.Alike.refl u.vm
  refine ⟨h1.same hv, h2.same hv, ⟨adV, ?_⟩, ?_, ?_, va_Nw.same rfl hv.symm h6⟩
  · rw [hh]; exact h3.moved hal
  · rw [hh]; exact h4.moved hal
  · rw [hh]; exact h5.moved hal
theorem PcU_blind {dC : Nat → ClassId} {dI : Nat → Nat → Nat} {cy : Nat → ClassId} {a : Nat → Nat} {as : List AV} {σ : Sg} {sz : Nat} : FrameBlind (PcU dC dI cy a as σ sz) := by
  intro v U g mk q
  obtain ⟨q0, q1, qP, qK, qD, qS⟩ := q
  exact ⟨q0, q1, qP, va_K.moved (u := U) (U := U.calling g mk v) (Vm.Alike.refl U.vm) qK, qD, SX_same (u := U) (U := U.calling g mk v) qS rfl rfl⟩
theorem mem_lwg_M {k : Nat} (hk : k < mLaw) : wdM1 k ∈ lwg ∧ wdM2 k ∈ lwg ∧ wdM3 k ∈ lwg ∧ wdM4 k ∈ lwg := by
  have hr : k ∈ List.range mLaw := List.mem_range.mpr hk
  refine ⟨lwg_of (wdM1_in _ (List.mem_map.mpr ⟨k, hr, rfl⟩)) ?_, lwg_of (wdM2_in _ (List.mem_map.mpr ⟨k, hr, rfl⟩)) ?_, lwg_of (wdM3_in _ (List.mem_map.mpr ⟨k, hr, rfl⟩)) rfl, lwg_of (wdM4_in k hk) rfl⟩
  · unfold wdM1; split <;> rfl
  · unfold wdM2; split <;> rfl
theorem wsU_good {k : Nat} (hk : k < mLaw) : GoodIn lwg (wsU k) := by
  intro w hw
  rcases List.mem_cons.mp hw with rfl | h
  · have := (mem_lwg_M hk).2.2.2
    exact lwg_good _ this
  · exact lwg_good _ h
theorem good_cons {w : Cond} {ws : List Cond} (h : w ∈ lwg) (hs : GoodIn lwg ws) : GoodIn lwg (w :: ws) := by
  intro x hx
  rcases List.mem_cons.mp hx with rfl | q
  · exact lwg_good _ h
  · exact hs _ q
section CALLS
variable {p : Program} {l : Launch} {e : Env} {R : Room} {s : State} {m : MethodId} {args : Array Value} {below : List Frame} {meth : Method} {c : Code} {H : Heap} {locs : List Loc} {cells slots : Nat} {Q : State → Prop}
variable {dC : Nat → ClassId} {dI : Nat → Nat → Nat} {cy : Nat → ClassId} {a : Nat → Nat} {A : Nat → Prop} {y d : Nat}
variable {pc nx k t : Nat} {v : Int} {tb : List (Int × Nat)} {ls st : List AV} {σ : Sg} {s' : St} {rl : Array Slot}
theorem run_go {A1 free : Nat → Prop} {st0 rest : List Value} {r : AV} {σ1 : Sg} {aa : Array Value} (hr : va_Run p l e R s m args below meth c H locs cells slots 0 0 (F0 m pc rl st0) rest (QcU dC dI cy a r σ1 A1 aa) free) (hS : va_S A s.heap H locs) (hA : ∀ q, A1 q → A q) (hf : ∀ q, free q → A q)
    (kk : ∀ (H1 : Heap) (locs1 : List Loc), va_P (dC, dI) vwCl (wld a cy σ1) H1 → va_D A1 (wld a cy σ1) → va_S A s.heap H1 locs1 → W p l e R s m args below meth c H1 locs1 cells slots Q (F0 m (pc + 3) rl ((ro a r).toList ++ rest))) : W p l e R s m args below meth c H locs cells slots Q (F0 m pc rl st0) := by
  intro T hT X
  obtain ⟨w, st₀, t, T', L, h0, X', hL, e1, e2, ⟨⟨hv, hP1, hD1⟩, hz, hk⟩, stp⟩ := hr T hT X
  cases hv
  rw [h0] at hz hk
  obtain ⟨t2, a1, b1⟩ := kk T'.heap (locs ++ L) (by rw [e1]; exact hP1) hD1
    ⟨Nat.le_trans hS.1 (by rw [e1]; exact hz), fun q h1 h2 => by rw [e1, hk q (Nat.lt_of_lt_of_le h1 hS.1) (fun z => h2 (hA q z))]; exact hS.2.1 q h1 h2, fun q hq => by
      rcases List.mem_append.mp hq with h | h
      · exact hS.2.2 q h
      · exact hf _ (hL q h)⟩ T' rfl X'
  exact ⟨t2, stp t2 a1, b1⟩
theorem psh_map {r : AV} {q : List AV} : (psh r q).map (rv a) = (ro a r).toList ++ q.map (rv a) := by
  cases r <;> rfl
theorem call_ok {d' : Nat} {c0 : Nat × List AV × (AV → Sg → St)} {r : AV} {σ1 : Sg} (C : Cx p R s m args c dC dI cy a A y d cells slots) (hr : Rl dC dI cy a A s y ls σ H locs rl) (hf : fnd (pgm y) pc = some (nx, 35, v, k, t, tb)) (hs : exe d nx 35 v k t tb ls st σ = some (.inr (.inl c0))) (hdd : d = d' + 1)
    (hM : c0.1 < mLaw → Met l (mN c0.1) (wsU c0.1) (rmU d') (PcU dC dI cy a c0.2.1 σ H.size) (QcU dC dI cy a r σ1 (va_A (wld a cy σ) H.size)) 0 0 (va_A (wld a cy σ) H.size))
    (kk : ∀ H1 locs1 rl1, Rl dC dI cy a A s y (c0.2.2 r σ1).2.1 (c0.2.2 r σ1).2.2.2 H1 locs1 rl1 → W p l e R s m args below meth c H1 locs1 cells slots Q (F0 m (c0.2.2 r σ1).1 rl1 ((c0.2.2 r σ1).2.2.1.map (rv a)))) (hσ : (c0.2.2 r σ1).2.2.2 = σ1) : W p l e R s m args below meth c H locs cells slots Q (F0 m pc rl (st.map (rv a))) := by
  obtain ⟨hx, hb, hml, hown, hts, hK, hR, hcs, hSX, hA, hy⟩ := C
  obtain ⟨g1, g2⟩ := ok_at hy hf
  obtain ⟨hd, hn⟩ := ok_dec (by decide) g1
  simp only [exe] at hs
  split at hs
  rotate_left
  · cases hs
  rename_i hc
  simp only [Option.some.injEq, Sum.inr.injEq, Sum.inl.injEq] at hs
  subst hs hn
  obtain ⟨⟨ht, h4⟩, hrc⟩ := hc
  simp only [sc, Bool.and_eq_true, Bool.or_eq_true, decide_eq_true_eq] at g2
  obtain ⟨hm, hk, htn⟩ := g2
  have hM := hM hk
  have hwo : wdC (mO y, v.toNat, k) ∈ lwg ∨ (mO y = 4 ∧ v.toNat = 98 ∧ k = m_X5_within) := by
    rcases hm with hm | hm
    · have hcl : (mO y, v.toNat, k) ∈ cLl := by simpa using hm
      exact Or.inl (lwg_of (wdC_in _ (List.mem_map.mpr ⟨_, hcl, rfl⟩)) rfl)
    · exact Or.inr (by simpa [nsl] using hm)
  obtain ⟨w1, w2, w3, w4⟩ := mem_lwg_M hk
  have hkr : k ∈ List.range mLaw := List.mem_range.mpr hk
  obtain ⟨cl1, cl2, cl3, cl4⟩ := mcls_all k hkr
  obtain ⟨cp1, cp2, cp3⟩ := cpl (mO k) cl2 cl3
  have hpar := npar_all k hkr
  obtain ⟨hP, hD, hS, hL⟩ := id hr
  have hFc : ∀ q, va_A (wld a cy σ) H.size q → A q := by
    intro q hq
    rcases hq with ⟨k2, e2, h⟩ | h
    · exact hD.2 k2 _ h
    · exact hA q (Nat.le_trans hS.1 h)
  have hcat : (((st.drop t).map (rv a)).map fun v => v.category).sum ≤ 8 := by
    have := cats (a := a) (st.drop t); omega
  have hRR : (rmU d').frames + 1 ≤ R.frames ∧ 8 + (mL k + 11) + (rmU d').locals ≤ R.locals := by
    have h1 := hR.1; have h2 := hR.2
    simp only [rmU]; omega
  have hPre : ∀ U : State, U.heap = H → s.WarmedH U.vm → PcU dC dI cy a (st.take t).reverse σ H.size ((st.take t).reverse.map (rv a)).toArray U := by
    intro U hU hW
    exact ⟨rfl, by rw [hU], by rw [hU]; exact hP, va_K.moved hW.alike hK, hD.weaken (fun _ _ _ _ => trivial), SX_go hSX hS hU hW hFc⟩
  have hfin : ∀ (H1 : Heap) (locs1 : List Loc), va_P (dC, dI) vwCl (wld a cy σ1) H1 → va_D (va_A (wld a cy σ) H.size) (wld a cy σ1) → va_S A s.heap H1 locs1 → W p l e R s m args below meth c H1 locs1 cells slots Q (F0 m (pc + 3) rl ((ro a r).toList ++ (st.drop t).map (rv a))) := by
    intro H1 locs1 hP1 hD1 hS1
    have K := kk H1 locs1 rl ⟨hP1, hD1.weaken (fun _ _ _ h => hFc _ h), hS1, hL⟩
    rw [← psh_map]
    exact K
  by_cases hst : mS k = true
  · simp only [rI, hst, if_true] at hd
    have e1 : wdM1 k = .static (mN k) := by unfold wdM1; rw [if_pos hst]
    have htn2 : t = mP k := by rw [htn, if_pos hst]; rfl
    rcases hwo with hw | ⟨n1, n2, n3⟩
    rotate_left
    · have hcn : va_CN R s args (cN (mO y)) v.toNat (mN k) RX5 (mB k) (mL k) (rty (mR k)) (wsU k) (rmU d') 0 0 (mP k) := va_cnB (host := RX5) (mP k) hts (wsU_good hk) rfl rfl rfl (by rw [n1, n2, n3]; exact hSX.2.2.2.2.2) (hts _ (by rw [cl1]; exact w3)) ⟨by rw [cl1]; exact cp2, by rw [cl1]; exact cp3, hpar⟩ hRR
      refine run_go (rest := (st.drop t).map (rv a)) (va_runSN (As := (st.take t).reverse.map (rv a)) ⟨hx, hb, hml, hown, hts⟩ hM ⟨hcn, hts _ (by rw [← e1]; exact w1), trivial⟩ ⟨PcU_blind, hPre⟩ rfl ?_ hL.2.1 ?_ (lv_room hcat) hd ⟨by simpa using hcs.1, by simpa using hcs.2⟩) hS hFc hFc hfin
      · rw [List.length_map, List.length_reverse, List.length_take]; omega
      · rw [← List.map_reverse, List.reverse_reverse, ← List.map_append, List.take_append_drop]
    have hG : GoodIn lwg (va_wsS (cN (mO y)) v.toNat (mN k) (wsU k)) := by
      unfold va_wsS
      refine good_cons hw (good_cons (by rw [← e1]; exact w1) (good_cons (by rw [cl1]; exact w3) (wsU_good hk)))
    have hcw := va_cwS (R := R) (s := s) (args := args) (rm := rmU d') (mc := 0) (ms := 0) (mP k) hts hG rfl rfl rfl ⟨by rw [cl1]; exact cp2, by rw [cl1]; exact cp3, hpar⟩ hRR
    refine run_go (rest := (st.drop t).map (rv a)) (va_runS (As := (st.take t).reverse.map (rv a)) ⟨hx, hb, hml, hown, hts⟩ hM hcw ⟨PcU_blind, hPre⟩ rfl ?_ hL.2.1 ?_ (lv_room hcat) hd ⟨by simpa using hcs.1, by simpa using hcs.2⟩) hS hFc hFc hfin
    · rw [List.length_map, List.length_reverse, List.length_take]; omega
    · rw [← List.map_reverse, List.reverse_reverse, ← List.map_append, List.take_append_drop]
  · have hst : mS k = false := by simpa using hst
    have hw : wdC (mO y, v.toNat, k) ∈ lwg := hwo.resolve_right (fun h => by rw [h.2.2] at hst; exact absurd hst (by decide +kernel))
    simp only [rI, hst, Bool.false_eq_true, if_false] at hd
    have e1 : wdM1 k = .instanceMethod (mN k) := by unfold wdM1; rw [if_neg (by simp [hst])]
    have e2 : wdM2 k = .selects (cN (mO k)) (mN k) (mN k) := by unfold wdM2; rw [if_neg (by simp [hst])]
    have htn2 : t = mP k + 1 := by rw [htn, if_neg (by simp [hst])]
    simp only [rcv, hst, Bool.false_eq_true, if_false] at hrc
    split at hrc
    rotate_left
    · cases hrc
    rename_i o tl hlst
    simp only [decide_eq_true_eq] at hrc
    obtain ⟨q0, hq0⟩ := kn_at hrc (by decide)
    have ho := kn_ne0 hrc (by decide)
    have he : rv a (some (Sum.inr (Sum.inr o))) = .ref (a o) := by simp only [rv]; rw [if_neg ho]
    have h7 := (kn_obj hrc).1
    have hG : GoodIn lwg (wsV (cN (mO y)) v.toNat (cN (mO k)) (mN k) (wsU k)) := by
      unfold wsV
      refine good_cons hw (good_cons (by rw [← e1]; exact w1) (good_cons (by rw [← e2]; exact w2) (good_cons w3 (wsU_good hk))))
    have hcw := cwV (R := R) (s := s) (args := args) (rm := rmU d') (mc := 0) (ms := 0) (mP k) hts hG rfl rfl rfl ⟨cl1, by rw [cl1]; exact cp2, by rw [cl1]; exact cp3, hpar⟩ hRR
    have hAs : (st.take t).reverse.map (rv a) = .ref (a o) :: tl.map (rv a) := by rw [hlst, List.map_cons, he]
    have hlen : tl.length = mP k := by
      have := congrArg List.length hlst
      rw [List.length_reverse, List.length_take, List.length_cons] at this
      omega
    have hrcv := va_recv hK hP (vcl h7) (wld_at hq0)
    refine run_go (rest := (st.drop t).map (rv a)) (va_runV (b := a o) (As := tl.map (rv a)) ⟨hx, hb, hml, hown, hts⟩ hM hcw ⟨PcU_blind, hrcv, ?_⟩ rfl ?_ hL.2.1 ?_ (lv_room hcat) hd ⟨by simpa using hcs.1, by simpa using hcs.2⟩) hS hFc hFc hfin
    · intro U hU hW
      rw [← hAs]
      exact hPre U hU hW
    · rw [List.length_map]; exact hlen
    · have h5 : st.take t = tl.reverse ++ [vR o] := by
        have := congrArg List.reverse hlst
        rw [List.reverse_reverse, List.reverse_cons] at this
        exact this
      show st.map (rv a) = (tl.map (rv a)).reverse ++ .ref (a o) :: (st.drop t).map (rv a)
      conv => lhs; rw [← List.take_append_drop t st]
      rw [List.map_append, h5, List.map_append, List.map_reverse, List.append_assoc]
      simp only [List.map_cons, List.map_nil, he]
      rfl
end CALLS
