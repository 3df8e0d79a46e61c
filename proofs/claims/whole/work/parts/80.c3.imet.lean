/-! The call that makes an image, as a contract. -/
def rmI : Room := { frames := 13, cells := 14, slots := 632, locals := 481 }
def PcM (dC : Nat → ClassId) (dI : Nat → Nat → Nat) (cy : Nat → ClassId) (a : Nat → Nat) (x : Int) (σ : Sg) (sz : Nat) : Array Value → State → Prop := va_Pc ([vR 1, vI x].map (rv a)) (fun U => U.heap.size = sz ∧ va_P (dC, dI) vwCl (wld a cy σ) U.heap ∧ va_K (dC, dI) vwCl (tys cy) U ∧ va_D (fun _ => True) (wld a cy σ) ∧ SX a (va_A (wld a cy σ) sz) U ∧ NW U)
def IPo (a : Nat → Nat) (x : Int) (σ : Sg) (r : Int32) (u : (Nat → Nat) × Sg) : Prop := r = 1 ∧ ∃ q, (x = 0 ∧ u.1 = aN 60 q σ a ∧ CpF 60 2 (sgN 60 0 σ) u.2) ∨ (x = 1 ∧ u.1 = aN 80 q σ a ∧ CpF 80 2 (sgN 80 1 σ) u.2)
def QcM (dC : Nat → ClassId) (dI : Nat → Nat → Nat) (cy : Nat → ClassId) (a : Nat → Nat) (x : Int) (σ : Sg) (A : Nat → Prop) : Array Value → State → Outcome → State → Prop := va_Qi (IPo a x σ) (fun u t => va_P (dC, dI) vwCl (wld u.1 cy u.2) t.heap ∧ va_D A (wld u.1 cy u.2)) A
theorem PcM_blind {dC : Nat → ClassId} {dI : Nat → Nat → Nat} {cy : Nat → ClassId} {a : Nat → Nat} {x : Int} {σ : Sg} {sz : Nat} : FrameBlind (PcM dC dI cy a x σ sz) := by
  intro v U g mk q
  obtain ⟨q0, q1, qP, qK, qD, qS, qN⟩ := q
  exact ⟨q0, q1, qP, va_K.moved (u := U) (U := U.calling g mk v) (Vm.Alike.refl U.vm) qK, qD, SX_same (u := U) (U := U.calling g mk v) qS rfl rfl, qN.same rfl⟩
theorem lvh_a {a a' : Nat → Nat} {n : Nat} {ls : List AV} {rl : Array Slot} (h : lvh a n ls rl) (he : ∀ v ∈ ls, rv a' v = rv a v) : lvh a' n ls rl :=
  ⟨h.1, h.2.1, h.2.2.1, fun j v hj hn => by rw [he _ (List.mem_of_getElem? hj)]; exact h.2.2.2 j v hj hn⟩
theorem dI_31 : decode (mB m_X5_image) 31 = .ok (.new 9, 3) := by decide +kernel
theorem dI_34 : decode (mB m_X5_image) 34 = .ok (.dup, 1) := by decide +kernel
theorem dI_35 : decode (mB m_X5_image) 35 = .ok (.invokespecial 11, 3) := by decide +kernel
theorem dI_38 : decode (mB m_X5_image) 38 = .ok (.aastore, 1) := by decide +kernel
section IMET
variable {p : Program} {l : Launch} {e : Env} {R : Room} {s : State} {m : MethodId} {args : Array Value} {below : List Frame} {meth : Method} {c : Code} {cells slots : Nat}
variable {dC : Nat → ClassId} {dI : Nat → Nat → Nat} {cy : Nat → ClassId} {a : Nat → Nat} {A : Nat → Prop} {y d : Nat}
theorem ret_i {Qc : Array Value → State → Outcome → State → Prop} {pc nx op k t : Nat} {v z : Int} {tb : List (Int × Nat)} {ls st : List AV} {σ σ' : Sg} {H : Heap} {locs : List Loc} {rl : Array Slot} (C : Cx p R s m args c dC dI cy a A y d cells slots) (hret : meth.sig.returnType = rty (mR y)) (hlocks : meth.locks = false) (hr : Rl dC dI cy a A s y ls σ H locs rl) (hf : fnd (pgm y) pc = some (nx, op, v, k, t, tb)) (hs : exe d nx op v k t tb ls st σ = some (.inr (.inr (vI z, σ')))) (hq : ∀ t : State, t.heap = H → Qc args s (.returned (some (.int (Int32.ofInt z)))) t) :
    W p l e R s m args below meth c H locs cells slots (MQ below Qc args s cells slots A) (F0 m pc rl (st.map (rv a))) := by
  obtain ⟨hx, hb, hml, hown, hts, hK, hR, hcs, hSX, hA, hy⟩ := C
  have := exe_ret hs
  subst this
  obtain ⟨g1, g2⟩ := ok_at hy hf
  obtain ⟨hd, hn⟩ := ok_dec (by decide) g1
  simp only [sc, decide_eq_true_eq] at g2
  subst g2
  obtain ⟨hP, hD, hS, hL⟩ := hr
  simp only [exe] at hs
  split at hs
  · cases hs
  · rename_i x hk
    cases hs
    simp only [rI, hk] at hd
    rw [hk] at hret
    exact W.iret (v := Int32.ofInt z) hx hb hret (fun t ht hW => hq t ht) hS.2.2 hd hlocks
  · rename_i x hk
    split at hs
    rotate_left
    · cases hs
    rename_i h01
    cases hs
    simp only [rI, hk] at hd
    rw [hk] at hret
    exact W.zret (v := Int32.ofInt z) (ty := .boolean) hx hb hret (by rcases h01 with rfl | rfl <;> decide) (fun t ht hW => hq t ht) hS.2.2 hd hlocks
  · cases hs
  · split at hs <;> cases hs
  · cases hs
end IMET
set_option maxRecDepth 100000 in
theorem img_met (l : Launch) {dC : Nat → ClassId} {dI : Nat → Nat → Nat} {cy : Nat → ClassId} {a : Nat → Nat} {x : Int} {σ : Sg} {sz : Nat} (h16 : σ 16 x = 0) (ho : (x = 0 ∧ (σ 16 1 = 0 ∨ σ 16 1 = 80)) ∨ (x = 1 ∧ (σ 16 0 = 0 ∨ σ 16 0 = 60))) : Met l (mN m_X5_image) (wsU m_X5_image) rmI (PcM dC dI cy a x σ sz) (QcM dC dI cy a x σ (va_A (wld a cy σ) sz)) 14 632 (va_A (wld a cy σ) sz) := by
  have hx2 : 0 ≤ x ∧ x < 2 := by omega
  have hyl : m_X5_image < mLaw := by decide
  have hyr : m_X5_image ∈ List.range mLaw := List.mem_range.mpr hyl
  obtain ⟨cl1, cl2, cl3, cl4⟩ := mcls_all m_X5_image hyr
  obtain ⟨cp1, -, -⟩ := cpl (mO m_X5_image) cl2 cl3
  refine Met.ofW (cc := mB m_X5_image) (maxL := mL m_X5_image) (ret := rty (mR m_X5_image)) (by rw [cl1]; exact cp1) rfl ?_
  intro p e s m args below meth c s₁ B hml hv
  obtain ⟨rfl, hsz, hP, hK, hD0, hSX, hNW⟩ := hv
  have hx := B.exec
  have hb := B.bytes
  have hr := B.returns
  have hts0 := atoms_spec (ws := wsU m_X5_image) B.pre
  have hts : ∀ w ∈ lwg, w.before ([vR 1, vI x].map (rv a)).toArray s = true := fun w hw => hts0 w (List.mem_cons_of_mem _ hw)
  have hown : s.vm.findClass (mN m_X5_image).cls = some m.cls := findClass_of_methodNamed B.named
  have hlocks := B.notSynchronized
  subst hsz
  have hD := hD0.self (sz := s.heap.size)
  have hA : ∀ q : Nat, s.heap.size ≤ q → va_A (wld a cy σ) s.heap.size q := fun q h => Or.inr h
  have hS : va_S (va_A (wld a cy σ) s.heap.size) s.heap s.heap [] := va_S.rf
  have hln := lv_entry ([vR 1, vI x].map (rv a)) (n := mL m_X5_image) (by rw [flt_len]; exact Nat.le_of_ble_eq_true rfl)
  rw [lg_entry_eq]
  generalize (lg_sl ([vR 1, vI x].map (rv a)) ++ List.replicate (mL m_X5_image - (lg_sl ([vR 1, vI x].map (rv a))).length) Slot.unset).toArray = rl at hln ⊢
  rw [cl1] at hown
  have C : Cx p (headSpec (wsU m_X5_image) rmI).room s m (([vR 1, vI x].map (rv a)).toArray) c dC dI cy a (va_A (wld a cy σ) s.heap.size) m_X5_image 12 0 0 :=
    ⟨hx, hb, hml, hown, hts, hK, ⟨Nat.le_refl _, Nat.le_refl _⟩, ⟨Nat.zero_le _, Nat.zero_le _⟩, hSX, hA, by decide⟩
  obtain ⟨n, ls', st', σ', hsg, rfl, rfl, rfl⟩ := img_pre hx2 h16
  refine run_ok (snd_all l 12) C n (0, [vR 1, vI x], [], σ') _ hsg s.heap [] rl ⟨hP, hD, hS, lvh_entry (as := [vR 1, vI x]) (y := m_X5_image) (Nat.le_of_ble_eq_true rfl) hln⟩ (fun q => absurd q (by decide)) (fun H1 locs1 rl1 hr1 => ?_)
  obtain ⟨hP1, hD1, hS1, hL1⟩ := hr1
  show W p l e (headSpec (wsU m_X5_image) rmI).room s m _ below meth c H1 locs1 0 0 _ (F0 m 31 rl1 [.int (Int32.ofInt x), .ref (a 16)])
  refine czC0 (k := 5) (k2 := 0) (rest := [.int (Int32.ofInt x), .ref (a 16)]) ⟨hx, hb, hml, hown, hts, hK, hNW, hA⟩ hL1.2.1 hP1 hD1 hS1 (by decide) zk_5_9 zi_0 zt_0 zfs_0 (ct_0 l) ⟨Nat.le_of_ble_eq_true rfl, Nat.le_of_ble_eq_true rfl⟩ dI_31 dI_34 dI_35 (Nat.le_of_ble_eq_true rfl) (Or.inl (cwI 0 hts (wsI_good zc_0) rfl rfl rfl (hts _ (lwg_of zt_0 rfl)) (hts _ (lwg_of zn_5_11 rfl)) (hts _ (lwg_of zm_0 rfl)) rfl (by decide +kernel) ⟨Nat.le_of_ble_eq_true rfl, Nat.le_of_ble_eq_true rfl⟩)) (fun q H2 locs2 hP2 hD2 hS2 => ?_)
  have hk15 : (kl σ')[15]? = some (16, 4, 2) := by
    unfold kl
    rw [List.getElem?_append_left (by decide)]
    rfl
  have ha15 : (wld a cy σ' ++ wB_0 cy q)[15]? = some (a 16, .inl (cy 3, 2, .inr (.inr (.inr (.inr (fun i : Nat => if (σ' 16 i).toNat = 0 then none else some (a (σ' 16 i).toNat))))))) := by
    have h1 := wld_at (a := a) (cy := cy) hk15
    rw [List.getElem?_append_left (List.getElem?_eq_some_iff.mp h1).1, h1]
    rfl
  have hq0 : (wld a cy σ' ++ wB_0 cy q)[(wld a cy σ').length]? = (wB_0 cy q)[0]? := by
    rw [List.getElem?_append_right (Nat.le_refl _), Nat.sub_self]
  have hcln : (Int32.ofInt x).toNatClampNeg = x.toNat := by rw [w32_cl, w32_id (by omega) (by omega)]
  refine va_astq hx hb hK hP2 hD2 hS2 15 3 (wld a cy σ').length 0 ha15 rfl (hq0.trans rfl) (vcl (k := 0) (by decide)) (w32_in (by rw [w32_id (by omega) (by omega)]; exact hx2)) dI_38 (fun H3 locs3 hP3 hD3 hS3 => ?_)
  rw [hcln] at hP3 hD3
  refine W.widen (k := 14) (n := 632) (Nat.le_of_ble_eq_true rfl) (Nat.le_of_ble_eq_true rfl) ?_
  rcases ho with ⟨rfl, ho⟩ | ⟨rfl, ho⟩
  · obtain ⟨hP4, hD4⟩ := w_new (F := 60) (X := 0) (Or.inl ⟨rfl, rfl, ho⟩) h16 hP3 hD3
    have C' : Cx p (headSpec (wsU m_X5_image) rmI).room s m (([vR 1, vI 0].map (rv a)).toArray) c dC dI cy (aN 60 q σ' a) (va_A (wld a cy σ') s.heap.size) m_X5_image 12 14 632 :=
      ⟨hx, hb, hml, hown, hts, hK, ⟨Nat.le_refl _, Nat.le_refl _⟩, ⟨Nat.le_refl _, Nat.le_refl _⟩, SX_a hSX (fun k hk => aN_o (by omega) (by omega)), hA, by decide⟩
    obtain ⟨n2, s2, r2, σ2, hsg2, hret2, rfl, hcp⟩ := img_c0 (d := 10) (σ := sgN 60 0 σ') (Q := fun r σ1 => r = vI 1 ∧ CpF 60 2 (sgN 60 0 σ') σ1) (sgN_16 (Or.inl rfl)) (fun σ1 h => ⟨rfl, h⟩)
    refine run_ok (snd_all l 12) C' n2 _ s2 hsg2 H3 locs3 rl1 ⟨hP4, hD4, hS3, lvh_a hL1 (fun v hv => ?_)⟩ (fun q => absurd q (by decide)) (fun H4 locs4 rl4 hr4 => ?_)
    · rcases List.mem_cons.mp hv with rfl | hv
      · show Value.ref (aN 60 q σ' a 1) = Value.ref (a 1)
        rw [aN_o (by omega) (by omega)]
      · rw [List.mem_singleton] at hv
        subst hv; rfl
    · obtain ⟨nx, op, v, k, t, tb, hf, he⟩ := stp_exe hret2
      have hσ2 := ret_σ hret2
      simp only at hσ2
      refine ret_i C' hr hlocks hr4 hf he (fun t ht => ⟨⟨1, (aN 60 q σ' a, σ2), rfl, ⟨rfl, q, Or.inl ⟨rfl, rfl, hcp⟩⟩, by rw [ht, hσ2]; exact hr4.1, by rw [hσ2]; exact hr4.2.1⟩, hr4.2.2.1.F ht⟩)
  · obtain ⟨hP4, hD4⟩ := w_new (F := 80) (X := 1) (Or.inr ⟨rfl, rfl, ho⟩) h16 hP3 hD3
    have C' : Cx p (headSpec (wsU m_X5_image) rmI).room s m (([vR 1, vI 1].map (rv a)).toArray) c dC dI cy (aN 80 q σ' a) (va_A (wld a cy σ') s.heap.size) m_X5_image 12 14 632 :=
      ⟨hx, hb, hml, hown, hts, hK, ⟨Nat.le_refl _, Nat.le_refl _⟩, ⟨Nat.le_refl _, Nat.le_refl _⟩, SX_a hSX (fun k hk => aN_o (by omega) (by omega)), hA, by decide⟩
    obtain ⟨n2, s2, r2, σ2, hsg2, hret2, rfl, hcp⟩ := img_c1 (d := 10) (σ := sgN 80 1 σ') (Q := fun r σ1 => r = vI 1 ∧ CpF 80 2 (sgN 80 1 σ') σ1) (sgN_16 (Or.inr rfl)) (fun σ1 h => ⟨rfl, h⟩)
    refine run_ok (snd_all l 12) C' n2 _ s2 hsg2 H3 locs3 rl1 ⟨hP4, hD4, hS3, lvh_a hL1 (fun v hv => ?_)⟩ (fun q => absurd q (by decide)) (fun H4 locs4 rl4 hr4 => ?_)
    · rcases List.mem_cons.mp hv with rfl | hv
      · show Value.ref (aN 80 q σ' a 1) = Value.ref (a 1)
        rw [aN_o (by omega) (by omega)]
      · rw [List.mem_singleton] at hv
        subst hv; rfl
    · obtain ⟨nx, op, v, k, t, tb, hf, he⟩ := stp_exe hret2
      have hσ2 := ret_σ hret2
      simp only at hσ2
      refine ret_i C' hr hlocks hr4 hf he (fun t ht => ⟨⟨1, (aN 80 q σ' a, σ2), rfl, ⟨rfl, q, Or.inr ⟨rfl, rfl, hcp⟩⟩, by rw [ht, hσ2]; exact hr4.1, by rw [hσ2]; exact hr4.2.1⟩, hr4.2.2.1.F ht⟩)
