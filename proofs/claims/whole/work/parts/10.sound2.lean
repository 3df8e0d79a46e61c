section OPS2
variable {p : Program} {l : Launch} {e : Env} {R : Room} {s : State} {m : MethodId} {args : Array Value} {below : List Frame} {meth : Method} {c : Code} {H : Heap} {locs : List Loc} {cells slots : Nat} {Q : State → Prop}
variable {dC : Nat → ClassId} {dI : Nat → Nat → Nat} {cy : Nat → ClassId} {a : Nat → Nat} {A : Nat → Prop} {y d : Nat}
variable {pc nx k t : Nat} {v : Int} {tb : List (Int × Nat)} {ls st : List AV} {σ : Sg} {s' : St} {rl : Array Slot}
theorem al_pos {σ : Sg} {k q : Nat} (h : 0 < al σ k q) : ∃ N, kn σ q = (k, N) ∧ al σ k q = (N : Int) := by
  unfold al at h ⊢
  split at h
  · rename_i hc
    exact ⟨(kn σ q).2, by rw [← hc], by rw [if_pos hc]⟩
  · omega
theorem o36 (C : Cx p R s m args c dC dI cy a A y d cells slots) (hr : Rl dC dI cy a A s y ls σ H locs rl) (hd : decode (mB y) pc = .ok (rI pc 36 v k t tb)) (hn : nx = pc + (rI pc 36 v k t tb).2) (hsc : sc y 36 v k t tb = true) (hs : exe d nx 36 v k t tb ls st σ = some (.inl s'))
    (kk : ∀ H1 locs1 rl1, Rl dC dI cy a A s y s'.2.1 s'.2.2.2 H1 locs1 rl1 → W p l e R s m args below meth c H1 locs1 cells slots Q (F0 m s'.1 rl1 (s'.2.2.1.map (rv a)))) : W p l e R s m args below meth c H locs cells slots Q (F0 m pc rl (st.map (rv a))) := by
  obtain ⟨hx, hb, hml, hown, hts, hK, hR, hcs, hSX, hA, hy⟩ := C
  simp only [exe] at hs
  obtain ⟨hP, hD, hS, hL⟩ := id hr
  split at hs
  · rename_i n dp b sp a0 r
    split at hs
    rotate_left
    · cases hs
    rename_i hc
    obtain ⟨hk, h1, h2, h3, h4, h5, h6, h7, h8, h9⟩ := hc
    simp only [Option.some.injEq, Sum.inl.injEq] at hs
    subst hs hn
    have hm : (mO y, v.toNat) ∈ sLl := by simpa [sc] using hsc
    have hw := wdS_in _ (List.mem_map.mpr ⟨_, hm, rfl⟩)
    have g1 : ¬ Int32.ofInt sp < 0 := by rw [Int32.lt_iff_toInt_lt, Int32.toInt_zero]; exact Int.not_lt.mpr h1
    have g2 : ¬ Int32.ofInt dp < 0 := by rw [Int32.lt_iff_toInt_lt, Int32.toInt_zero]; exact Int.not_lt.mpr h2
    have g3 : ¬ Int32.ofInt n < 0 := by rw [Int32.lt_iff_toInt_lt, Int32.toInt_zero]; exact Int.not_lt.mpr h3
    have c1 : (((Int32.ofInt sp).toNatClampNeg : Nat) : Int) = w32 sp := by rw [w32_cl]; omega
    have c2 : (((Int32.ofInt dp).toNatClampNeg : Nat) : Int) = w32 dp := by rw [w32_cl]; omega
    have c3 : (((Int32.ofInt n).toNatClampNeg : Nat) : Int) = w32 n := by rw [w32_cl]; omega
    have hcat := cats (a := a) r
    have hnf : nativeFrameWords "java/lang/System" "arraycopy" 5 ≤ 18 := by decide +kernel
    have hloc : ((r.map (rv a)).map fun v => v.category).sum + (nativeFrameWords "java/lang/System" "arraycopy" 5 + 11) ≤ R.locals := by have := hR.2; omega
    obtain ⟨N0, k0, l0⟩ := al_pos h8
    obtain ⟨N1, k1, l1⟩ := al_pos h9
    have hk9 : k ≠ 9 := by omega
    obtain ⟨q0, hq0⟩ := kn_at k0 hk9
    obtain ⟨q1, hq1⟩ := kn_at k1 hk9
    have ho0 := kn_ne0 k0 hk9
    have ho1 := kn_ne0 k1 hk9
    have h16 := ne16 k1 (by omega)
    have he0 : rv a (some (Sum.inr (Sum.inr a0))) = .ref (a a0) := by simp only [rv]; rw [if_neg ho0]
    have he1 : rv a (some (Sum.inr (Sum.inr b))) = .ref (a b) := by simp only [rv]; rw [if_neg ho1]
    simp only [List.map_cons]
    rw [he0, he1]
    have e2 : ∀ j : Nat, cpy σ a0 (w32 sp) b (w32 dp) (w32 n) b j = if (Int32.ofInt dp).toNatClampNeg ≤ j ∧ j < (Int32.ofInt dp).toNatClampNeg + (Int32.ofInt n).toNatClampNeg then σ a0 (((Int32.ofInt sp).toNatClampNeg + (j - (Int32.ofInt dp).toNatClampNeg) : Nat) : Int) else σ b j := by
      intro j
      simp only [cpy, true_and]
      by_cases hj : (Int32.ofInt dp).toNatClampNeg ≤ j ∧ j < (Int32.ofInt dp).toNatClampNeg + (Int32.ofInt n).toNatClampNeg
      · rw [if_pos hj, if_pos (by omega)]
        congr 1
        omega
      · rw [if_neg hj, if_neg (by omega)]
    rcases hk with rfl | rfl
    · have e3 : (.inl (cy 0, N1, .inl (va_cpy (fun i => Int32.ofInt (σ a0 i)) (fun i => Int32.ofInt (σ b i)) (Int32.ofInt sp).toNatClampNeg (Int32.ofInt dp).toNatClampNeg (Int32.ofInt n).toNatClampNeg)) : va_E) = ent a cy b (cpy σ a0 (w32 sp) b (w32 dp) (w32 n) b) (1, N1) := by
        simp only [ent]
        congr 4
        funext j
        rw [e2]
        unfold va_cpy
        split <;> rfl
      refine va_copyi (ty := .int) hx hb (by rw [hml]; exact hL.2.1.symm) hown (hts _ (lwg_of hw rfl)) (hts _ (lwg_of (wMx _ (by simp)) rfl)) (hts _ (lwg_of (wMx _ (by simp)) rfl)) (hts _ (lwg_of (wMx _ (by simp)) rfl)) hK hP hD hS q0 q1 0 0 (wld_at hq0) (wld_at hq1) ty_int ty_int rfl g1 g2 g3 (by omega) (by omega) (fun _ _ => rfl) (by have := hR.1; omega) hloc hd (fun H1 locs1 hP1 hD1 hS1 => ?_)
      rw [e3, wld_set (kl_cpy h16) hq1 (fun k' hk => cpy_ne hk)] at hP1 hD1
      exact kk H1 locs1 rl ⟨hP1, hD1, hS1, hL⟩
    · have e3 : (.inl (cy 1, N1, .inr (.inl (va_cpy (fun i => Int64.ofInt (σ a0 i)) (fun i => Int64.ofInt (σ b i)) (Int32.ofInt sp).toNatClampNeg (Int32.ofInt dp).toNatClampNeg (Int32.ofInt n).toNatClampNeg))) : va_E) = ent a cy b (cpy σ a0 (w32 sp) b (w32 dp) (w32 n) b) (2, N1) := by
        simp only [ent]
        congr 5
        funext j
        rw [e2]
        unfold va_cpy
        split <;> rfl
      refine va_copyl (ty := .long) hx hb (by rw [hml]; exact hL.2.1.symm) hown (hts _ (lwg_of hw rfl)) (hts _ (lwg_of (wMx _ (by simp)) rfl)) (hts _ (lwg_of (wMx _ (by simp)) rfl)) (hts _ (lwg_of (wMx _ (by simp)) rfl)) hK hP hD hS q0 q1 1 1 (wld_at hq0) (wld_at hq1) ty_long ty_long rfl g1 g2 g3 (by omega) (by omega) (fun _ _ => rfl) (by have := hR.1; omega) hloc hd (fun H1 locs1 hP1 hD1 hS1 => ?_)
      rw [e3, wld_set (kl_cpy h16) hq1 (fun k' hk => cpy_ne hk)] at hP1 hD1
      exact kk H1 locs1 rl ⟨hP1, hD1, hS1, hL⟩
  · cases hs
theorem conse_at : ∀ (tb : List (Int × Nat)) (v : Int) (t : Nat) (x : Int), conse v tb = true → v ≤ x → x ≤ v + tb.length - 1 → ∃ e, tb[(x - v).toNat]? = some e ∧ swt tb t x = e.2 := by
  intro tb
  induction tb with
  | nil => intro v t x _ h1 h2; simp at h2; omega
  | cons b r ih =>
    intro v t x hc h1 h2
    simp only [conse, Bool.and_eq_true, decide_eq_true_eq] at hc
    simp only [List.length_cons] at h2
    by_cases hx : x = v
    · exact ⟨b, by rw [show (x - v).toNat = 0 by omega]; rfl, by simp only [swt]; rw [if_pos (by rw [hc.1]; exact hx)]⟩
    · obtain ⟨e, g1, g2⟩ := ih (v + 1) t x hc.2 (by omega) (by omega)
      refine ⟨e, ?_, ?_⟩
      · rw [show (x - v).toNat = (x - (v + 1)).toNat + 1 by omega, List.getElem?_cons_succ]; exact g1
      · simp only [swt]; rw [if_neg (by rw [hc.1]; exact hx)]; exact g2
theorem swt_out : ∀ (tb : List (Int × Nat)) (v : Int) (t : Nat) (x : Int), conse v tb = true → (x < v ∨ v + tb.length - 1 < x) → swt tb t x = t := by
  intro tb
  induction tb with
  | nil => intro v t x _ _; rfl
  | cons b r ih =>
    intro v t x hc h
    simp only [conse, Bool.and_eq_true, decide_eq_true_eq] at hc
    simp only [List.length_cons] at h
    simp only [swt]
    rw [if_neg (by rw [hc.1]; omega)]
    exact ih (v + 1) t x hc.2 (by omega)
theorem swt_off : ∀ (tb : List (Int × Nat)) (t pc : Nat) (x : Int), Op.lookupswitch.offset (tb.map (fun e => (e.1, (e.2 : Int) - pc))) ((t : Int) - pc) x = (swt tb t x : Int) - pc := by
  intro tb
  induction tb with
  | nil => intro t pc x; rfl
  | cons b r ih =>
    intro t pc x
    simp only [List.map_cons, swt]
    rw [Op.lookupswitch.offset_cons]
    by_cases h : b.1 = x
    · rw [if_pos (by first | exact h | exact h.symm), if_pos h.symm]
    · rw [if_neg (by first | exact h | exact fun q => h q.symm), if_neg (fun q => h q.symm)]
      exact ih t pc x
theorem o24 (C : Cx p R s m args c dC dI cy a A y d cells slots) (hr : Rl dC dI cy a A s y ls σ H locs rl) (hd : okD y pc nx 24 v k t tb = true) (hs : exe d nx 24 v k t tb ls st σ = some (.inl s'))
    (kk : ∀ H1 locs1 rl1, Rl dC dI cy a A s y s'.2.1 s'.2.2.2 H1 locs1 rl1 → W p l e R s m args below meth c H1 locs1 cells slots Q (F0 m s'.1 rl1 (s'.2.2.1.map (rv a)))) : W p l e R s m args below meth c H locs cells slots Q (F0 m pc rl (st.map (rv a))) := by
  obtain ⟨hx, hb, hml, hown, hts, hK, hR, hcs, hSX, hA, hy⟩ := C
  simp only [exe] at hs
  split at hs
  · rename_i x0 r
    simp only [Option.some.injEq, Sum.inl.injEq] at hs
    subst hs
    have K := kk H locs rl hr
    by_cases hk : k = 0
    · subst hk
      simp only [okD, if_true, Bool.and_eq_true, decide_eq_true_eq] at hd
      obtain ⟨hd, hcs2⟩ := hd
      by_cases hin : w32 x0 < v ∨ v + tb.length - 1 < w32 x0
      · refine lv_tableOut hx hb hd hin (tgt := t) (by omega) ?_
        have e1 := swt_out tb v t (w32 x0) hcs2 hin
        simp only [e1] at K
        exact K
      · obtain ⟨e1, g1, g2⟩ := conse_at tb v t (w32 x0) hcs2 (by omega) (by omega)
        refine lv_tableIn hx hb hd (fun q => hin (Or.inl q)) (fun q => hin (Or.inr q)) (off := (e1.2 : Int) - pc) ?_ (tgt := e1.2) (by omega) ?_
        · show (tb.map (fun e => (e.2 : Int) - pc)).toArray[(w32 x0 - v).toNat]? = _
          rw [List.getElem?_toArray, List.getElem?_map, g1]
          rfl
        · simp only [g2] at K
          exact K
    · simp only [okD, if_true, if_neg hk, Bool.and_eq_true, decide_eq_true_eq] at hd
      obtain ⟨hd, hsrt⟩ := hd
      refine lv_lookup hx hb hd ?_ (swt_off tb t pc (w32 x0)) (tgt := swt tb t (w32 x0)) (by omega) K
      rw [List.all_eq_true] at hsrt ⊢
      intro q hq
      obtain ⟨i, hi⟩ := List.getElem?_of_mem hq
      simp only [List.drop_one] at hi hsrt
      have hz : (tb.zip tb.tail)[i]? = ((tb.zip tb.tail))[i]? := rfl
      rw [List.getElem?_zip_eq_some] at hi
      obtain ⟨i1, i2⟩ := hi
      simp only [← List.map_tail, List.getElem?_map, Option.map_eq_some_iff] at i1 i2
      obtain ⟨b1, j1, e1⟩ := i1
      obtain ⟨b2, j2, e2⟩ := i2
      have := hsrt (b1, b2) (List.mem_of_getElem? (i := i) (List.getElem?_zip_eq_some.mpr ⟨j1, j2⟩))
      show decide (q.1.1 < q.2.1) = true
      rw [← e1, ← e2]
      exact this
  · cases hs
set_option maxRecDepth 100000 in
theorem o39 (C : Cx p R s m args c dC dI cy a A y d cells slots) (hr : Rl dC dI cy a A s y ls σ H locs rl) (hd : decode (mB y) pc = .ok (rI pc 39 v k t tb)) (hn : nx = pc + (rI pc 39 v k t tb).2) (hsc : sc y 39 v k t tb = true) (hs : exe d nx 39 v k t tb ls st σ = some (.inl s'))
    (kk : ∀ H1 locs1 rl1, Rl dC dI cy a A s y s'.2.1 s'.2.2.2 H1 locs1 rl1 → W p l e R s m args below meth c H1 locs1 cells slots Q (F0 m s'.1 rl1 (s'.2.2.1.map (rv a)))) : W p l e R s m args below meth c H locs cells slots Q (F0 m pc rl (st.map (rv a))) := by
  obtain ⟨hx, hb, hml, hown, hts, hK, hR, hcs, ⟨-, -, ⟨adV, hV⟩, hZ, hQ, -⟩, hA, hy⟩ := C
  simp only [exe] at hs
  split at hs
  rotate_left
  · cases hs
  rename_i o r
  split at hs
  rotate_left
  · cases hs
  rename_i hc
  obtain ⟨ho, hlen, hd6⟩ := hc
  cases hs
  simp only [sc, decide_eq_true_eq] at hsc
  obtain ⟨hmo, rfl⟩ := hsc
  simp only [rI] at hd hn
  rw [hmo] at hown
  obtain ⟨i, hi, rfl⟩ : ∃ i, i < 2 ∧ o = 900 + i := ⟨o - 900, by omega, by omega⟩
  have hG : GoodIn lwg (wsV (cN 3) 86 RJ0 yJ0_length_8abf5 (wsT yJ0_length_8abf5 cJ0_length_8abf5 1 (some .int))) := by
    unfold wsV
    exact gc_T (lwg_of xs_672 rfl) (gc_T (lwg_of xs_673 rfl) (gc_T (lwg_of xs_674 rfl) (gc_T (lwg_of xs_69 rfl) (wsT_good xs_675))))
  have hcat : ((r.map (rv a)).map fun v => v.category).sum ≤ 8 := by
    have := cats (a := a) r; omega
  have hRR : (rmZ 1 20).frames + 1 ≤ R.frames ∧ 8 + (1 + 11) + (rmZ 1 20).locals ≤ R.locals := by
    have h1 := hR.1; have h2 := hR.2
    simp only [rmZ]; omega
  have hcw := cwV (R := R) (s := s) (args := args) (rm := rmZ 1 20) (mc := 0) (ms := 0) 0 hts hG rfl rfl rfl ⟨rfl, by decide +kernel⟩ hRR
  have hS := hr.2.2.1
  have hrc := vk_recv hV hi hS
  have hst : (some (Sum.inr (Sum.inr (900 + i))) :: r).map (rv a) = ([] : List Value).reverse ++ .ref (a (900 + i)) :: r.map (rv a) := by
    simp only [List.map_cons, rv]; rw [if_neg (by omega)]; rfl
  refine va_calli (rest := r.map (rv a)) (va_runV (b := a (900 + i)) (As := []) ⟨hx, hb, hml, hown, hts⟩ (length_ok l hi) hcw ⟨PcS_blind, hrc, fun U hU hW => ⟨rfl, SF_of hi hV hZ hQ hS U hU hW⟩⟩ rfl rfl hr.2.2.2.2.1 hst (lv_room hcat) hd ⟨hcs.1, hcs.2⟩) hS (fun q _ h => h.elim) (fun q h => h.elim) (fun r0 u t H1 locs1 ht hal hpost hB hz hk1 hS1 => ?_)
  obtain rfl : r0 = Int32.ofNat (sfl i) := hpost
  have K := kk H1 locs1 rl (P_keep hr hk1 hS1)
  have e0 : Int32.ofNat (sfl i) = Int32.ofInt (sln (900 + i)) := by rcases (show i = 0 ∨ i = 1 by omega) with rfl | rfl <;> decide
  rw [e0, ← hn]
  exact K
set_option maxRecDepth 100000 in
theorem o40 (C : Cx p R s m args c dC dI cy a A y d cells slots) (hr : Rl dC dI cy a A s y ls σ H locs rl) (hd : decode (mB y) pc = .ok (rI pc 40 v k t tb)) (hn : nx = pc + (rI pc 40 v k t tb).2) (hsc : sc y 40 v k t tb = true) (hs : exe d nx 40 v k t tb ls st σ = some (.inl s'))
    (kk : ∀ H1 locs1 rl1, Rl dC dI cy a A s y s'.2.1 s'.2.2.2 H1 locs1 rl1 → W p l e R s m args below meth c H1 locs1 cells slots Q (F0 m s'.1 rl1 (s'.2.2.1.map (rv a)))) : W p l e R s m args below meth c H locs cells slots Q (F0 m pc rl (st.map (rv a))) := by
  obtain ⟨hx, hb, hml, hown, hts, hK, hR, hcs, ⟨-, -, ⟨adV, hV⟩, hZ, hQ, -⟩, hA, hy⟩ := C
  simp only [exe] at hs
  split at hs
  rotate_left
  · cases hs
  rename_i j o r
  split at hs
  rotate_left
  · cases hs
  rename_i hc
  obtain ⟨ho, hj0, hj1, hlen, hd6⟩ := hc
  cases hs
  simp only [sc, decide_eq_true_eq] at hsc
  obtain ⟨hmo, rfl⟩ := hsc
  simp only [rI] at hd hn
  rw [hmo] at hown
  obtain ⟨i, hi, rfl⟩ : ∃ i, i < 2 ∧ o = 900 + i := ⟨o - 900, by omega, by omega⟩
  have hsl : sln (900 + i) = (sfl i : Int) := by rcases (show i = 0 ∨ i = 1 by omega) with rfl | rfl <;> decide
  have hjin : vp_in (Int32.ofInt j) (sfl i) := w32_in ⟨hj0, by rw [← hsl]; exact hj1⟩
  have hG : GoodIn lwg (wsV (cN 3) 91 RJ0 yJ0_charAt_5068e (wsT yJ0_charAt_5068e cJ0_charAt_5068e 2 (some .char))) := by
    unfold wsV
    exact gc_T (lwg_of xs_682 rfl) (gc_T (lwg_of xs_683 rfl) (gc_T (lwg_of xs_684 rfl) (gc_T (lwg_of xs_69 rfl) (wsT_good xs_685))))
  have hcat : ((r.map (rv a)).map fun v => v.category).sum ≤ 8 := by
    have := cats (a := a) r; omega
  have hRR : (rmZ 3 64).frames + 1 ≤ R.frames ∧ 8 + (2 + 11) + (rmZ 3 64).locals ≤ R.locals := by
    have h1 := hR.1; have h2 := hR.2
    simp only [rmZ]; omega
  have hcw := cwV (R := R) (s := s) (args := args) (rm := rmZ 3 64) (mc := 0) (ms := 0) 1 hts hG rfl rfl rfl ⟨rfl, by decide +kernel⟩ hRR
  have hS := hr.2.2.1
  have hrc := vk_recv hV hi hS
  have hst : (some (Sum.inl j) :: some (Sum.inr (Sum.inr (900 + i))) :: r).map (rv a) = ([.int (Int32.ofInt j)] : List Value).reverse ++ .ref (a (900 + i)) :: r.map (rv a) := by
    simp only [List.map_cons, rv]; rw [if_neg (by omega)]; rfl
  refine va_calli (rest := r.map (rv a)) (va_runV (b := a (900 + i)) (As := [.int (Int32.ofInt j)]) ⟨hx, hb, hml, hown, hts⟩ (char_ok l hi hjin) hcw ⟨PcS_blind, hrc, fun U hU hW => ⟨rfl, SF_of hi hV hZ hQ hS U hU hW⟩⟩ rfl rfl hr.2.2.2.2.1 hst (lv_room hcat) hd ⟨hcs.1, hcs.2⟩) hS (fun q _ h => h.elim) (fun q h => h.elim) (fun r0 u t H1 locs1 ht hal hpost hB hz hk1 hS1 => ?_)
  obtain rfl : r0 = sfc i (Int32.ofInt j).toNatClampNeg &&& 255 := hpost
  have K := kk H1 locs1 rl (P_keep hr hk1 hS1)
  have e0 : sfc i (Int32.ofInt j).toNatClampNeg &&& 255 = Int32.ofInt (sch (900 + i) (w32 j)) := by
    rw [w32_cl]
    rw [hsl] at hj1
    obtain ⟨n, hn2, hn3⟩ : ∃ n : Nat, w32 j = n ∧ n < sfl i := ⟨(w32 j).toNat, by omega, by omega⟩
    rw [hn2]
    have key : ∀ i ∈ List.range 2, ∀ n ∈ List.range (sfl i), sfc i ((n : Int).toNat) &&& 255 = Int32.ofInt (sch (900 + i) (n : Int)) := by decide +kernel
    exact key i (List.mem_range.mpr hi) n (List.mem_range.mpr hn3)
  rw [e0, ← hn]
  exact K
def Xs (a : Nat → Nat) (A : Nat → Prop) (s : State) (σ : Sg) : Prop := ∃ (L : Nat) (xs : Nat → Int32), va_X (a 999) L xs s s.heap ∧ a 999 < s.heap.size ∧ ¬ A (a 999) ∧ σ 999 (-1) = L ∧ ∀ j : Nat, j < L → σ 999 j = (xs j).toInt
theorem o41 (C : Cx p R s m args c dC dI cy a A y d cells slots) (hr : Rl dC dI cy a A s y ls σ H locs rl) (hd : decode (mB y) pc = .ok (rI pc 41 v k t tb)) (hn : nx = pc + (rI pc 41 v k t tb).2) (hsc : sc y 41 v k t tb = true) (hXs : y = mLaw → Xs a A s σ) (hs : exe d nx 41 v k t tb ls st σ = some (.inl s'))
    (kk : ∀ H1 locs1 rl1, Rl dC dI cy a A s y s'.2.1 s'.2.2.2 H1 locs1 rl1 → W p l e R s m args below meth c H1 locs1 cells slots Q (F0 m s'.1 rl1 (s'.2.2.1.map (rv a)))) : W p l e R s m args below meth c H locs cells slots Q (F0 m pc rl (st.map (rv a))) := by
  obtain ⟨hx, hb, hml, hown, hts, hK, hR, hcs, hSX, hA, hy⟩ := C
  simp only [exe] at hs
  obtain ⟨hP, hD, hS, hL⟩ := id hr
  obtain ⟨L, xs, hX, hbl, hbA, e1, e2⟩ := hXs (by simpa [sc] using hsc)
  split at hs
  · rename_i i o r
    split at hs
    rotate_left
    · cases hs
    rename_i hi
    obtain ⟨rfl, h1, h2⟩ := hi
    simp only [Option.some.injEq, Sum.inl.injEq] at hs
    subst hs hn
    have K := kk H locs rl hr
    have c1 : (((Int32.ofInt i).toNatClampNeg : Nat) : Int) = w32 i := by rw [w32_cl]; omega
    rw [e1] at h2
    have he : rv a (some (Sum.inr (Sum.inr 999))) = .ref (a 999) := by simp [rv]
    simp only [List.map_cons]
    rw [he]
    refine va_sld hx hb hX hbl hbA hS (w32_in ⟨h1, h2⟩) hd ?_
    have e3 := e2 (Int32.ofInt i).toNatClampNeg (by omega)
    rw [c1] at e3
    have K2 := K
    simp only [List.map_cons, rv, e3, ofI] at K2
    exact K2
  · cases hs
theorem o42 (C : Cx p R s m args c dC dI cy a A y d cells slots) (hr : Rl dC dI cy a A s y ls σ H locs rl) (hd : decode (mB y) pc = .ok (rI pc 42 v k t tb)) (hn : nx = pc + (rI pc 42 v k t tb).2) (hsc : sc y 42 v k t tb = true) (hXs : y = mLaw → Xs a A s σ) (hs : exe d nx 42 v k t tb ls st σ = some (.inl s'))
    (kk : ∀ H1 locs1 rl1, Rl dC dI cy a A s y s'.2.1 s'.2.2.2 H1 locs1 rl1 → W p l e R s m args below meth c H1 locs1 cells slots Q (F0 m s'.1 rl1 (s'.2.2.1.map (rv a)))) : W p l e R s m args below meth c H locs cells slots Q (F0 m pc rl (st.map (rv a))) := by
  obtain ⟨hx, hb, hml, hown, hts, hK, hR, hcs, hSX, hA, hy⟩ := C
  simp only [exe] at hs
  obtain ⟨hP, hD, hS, hL⟩ := id hr
  obtain ⟨L, xs, hX, hbl, hbA, e1, e2⟩ := hXs (by simpa [sc] using hsc)
  split at hs
  · rename_i o r
    split at hs
    rotate_left
    · cases hs
    rename_i hi
    subst hi
    simp only [Option.some.injEq, Sum.inl.injEq] at hs
    subst hs hn
    have K := kk H locs rl hr
    have he : rv a (some (Sum.inr (Sum.inr 999))) = .ref (a 999) := by simp [rv]
    simp only [List.map_cons]
    rw [he]
    refine va_slen hx hb hX hbl hbA hS hd ?_
    have K2 := K
    simp only [List.map_cons, rv, e1] at K2
    rw [show Int32.ofInt (L : Int) = Int32.ofNat L by simp [Int32.ofInt_eq_ofNat]] at K2
    exact K2
  · cases hs
theorem st_ok {op : Nat} (C : Cx p R s m args c dC dI cy a A y d cells slots) (hr : Rl dC dI cy a A s y ls σ H locs rl) (hXs : y = mLaw → Xs a A s σ) (hf : fnd (pgm y) pc = some (nx, op, v, k, t, tb)) (hs : exe d nx op v k t tb ls st σ = some (.inl s'))
    (kk : ∀ H1 locs1 rl1, Rl dC dI cy a A s y s'.2.1 s'.2.2.2 H1 locs1 rl1 → W p l e R s m args below meth c H1 locs1 cells slots Q (F0 m s'.1 rl1 (s'.2.2.1.map (rv a)))) : W p l e R s m args below meth c H locs cells slots Q (F0 m pc rl (st.map (rv a))) := by
  have hy : y < mLaw + 1 := C.2.2.2.2.2.2.2.2.2.2
  obtain ⟨g1, g2⟩ := ok_at hy hf
  by_cases h24 : op = 24
  · subst h24
    exact o24 C hr g1 hs kk
  obtain ⟨hd, hn⟩ := ok_dec h24 g1
  rcases (show op = 0 ∨ op = 1 ∨ op = 2 ∨ op = 3 ∨ op = 4 ∨ op = 5 ∨ op = 6 ∨ op = 7 ∨ op = 8 ∨ op = 9 ∨ op = 10 ∨ op = 11 ∨ op = 12 ∨ op = 13 ∨ op = 14 ∨ op = 15 ∨ op = 16 ∨ op = 17 ∨ op = 18 ∨ op = 19 ∨ op = 20 ∨ op = 21 ∨ op = 22 ∨ op = 23 ∨ op = 24 ∨ op = 25 ∨ op = 26 ∨ op = 27 ∨ op = 28 ∨ op = 29 ∨ op = 30 ∨ op = 31 ∨ op = 32 ∨ op = 33 ∨ op = 34 ∨ op = 35 ∨ op = 36 ∨ op = 37 ∨ op = 38 ∨ op = 39 ∨ op = 40 ∨ op = 41 ∨ op = 42 ∨ op = 43 ∨ op = 44 ∨ 44 < op by omega) with rfl | rfl | rfl | rfl | rfl | rfl | rfl | rfl | rfl | rfl | rfl | rfl | rfl | rfl | rfl | rfl | rfl | rfl | rfl | rfl | rfl | rfl | rfl | rfl | rfl | rfl | rfl | rfl | rfl | rfl | rfl | rfl | rfl | rfl | rfl | rfl | rfl | rfl | rfl | rfl | rfl | rfl | rfl | rfl | rfl | h
  · exact o0 C hr hd hn g2 hs kk
  · exact o1 C hr hd hn g2 hs kk
  · exact o2 C hr hd hn g2 hs kk
  · exact o3 C hr hd hn g2 hs kk
  · exact o4 C hr hd hn g2 hs kk
  · exact o5 C hr hd hn g2 hs kk
  · exact o6 C hr hd hn g2 hs kk
  · exact o7 C hr hd hn g2 hs kk
  · exact o8 C hr hd hn g2 hs kk
  · exact o9 C hr hd hn g2 hs kk
  · exact o10 C hr hd hn g2 hs kk
  · exact o11 C hr hd hn g2 hs kk
  · exact o12 C hr hd hn g2 hs kk
  · exact o13 C hr hd hn g2 hs kk
  · exact o14 C hr hd hn g2 hs kk
  · exact o15 C hr hd hn g2 hs kk
  · exact o16 C hr hd hn g2 hs kk
  · exact o17 C hr hd hn g2 hs kk
  · exact o18 C hr hd hn g2 hs kk
  · exact o19 C hr hd hn g2 hs kk
  · exact o20 C hr hd hn g2 hs kk
  · exact o21 C hr hd hn g2 hs kk
  · exact o22 C hr hd hn g2 hs kk
  · exact o23 C hr hd hn g2 hs kk
  · exact absurd rfl h24
  · exact o25 C hr hd hn g2 hs kk
  · exact o26 C hr hd hn g2 hs kk
  · exact o27 C hr hd hn g2 hs kk
  · exact o28 C hr hd hn g2 hs kk
  · exact o29 C hr hd hn g2 hs kk
  · exact o30 C hr hd hn g2 hs kk
  · exact o31 C hr hd hn g2 hs kk
  · exact o32 C hr hd hn g2 hs kk
  · exact o33 C hr hd hn g2 hs kk
  · exact o34 C hr hd hn g2 hs kk
  · simp only [exe] at hs; split at hs <;> cases hs
  · exact o36 C hr hd hn g2 hs kk
  · simp only [exe] at hs; split at hs <;> first | cases hs | (split at hs <;> cases hs)
  · exact o38 C hr hd hn g2 hs kk
  · exact o39 C hr hd hn g2 hs kk
  · exact o40 C hr hd hn g2 hs kk
  · exact o41 C hr hd hn g2 hXs hs kk
  · exact o42 C hr hd hn g2 hXs hs kk
  · exact o43 C hr hd hn g2 hs kk
  · exact o44 C hr hd hn g2 hs kk
  · exfalso
    unfold exe at hs
    split at hs <;> first | omega | cases hs
end OPS2
