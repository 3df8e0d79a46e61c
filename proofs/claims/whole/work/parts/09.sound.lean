/-! Soundness of the abstract machine's steps that are no calls. -/
def sby : List (List Int32) := [[99, 108, 97, 105, 109], [98, 97, 99, 107]]
def SX (a : Nat → Nat) (A : Nat → Prop) (U : State) : Prop :=
  vk_R RX3 78 "claim" (a 900) U ∧ vk_R RX3 84 "back" (a 901) U ∧ (∃ adV : Nat → Nat, vk_S 2 [5, 4] sby (fun i => a (900 + i)) adV A U U.heap) ∧ va_Z "java/lang/String" "COMPACT_STRINGS" "Z" (.int 1) A U U.heap ∧ va_Zq "jdk/internal/util/Preconditions" "SIOOBE_FORMATTER" "Ljava/util/function/BiFunction;" A U U.heap ∧ va_Nw (.methodLinkNest (cN 4) 98 (mN m_X5_within) RX5) U
def Cx (p : Program) (R : Room) (s : State) (m : MethodId) (args : Array Value) (c : Code) (dC : Nat → ClassId) (dI : Nat → Nat → Nat) (cy : Nat → ClassId) (a : Nat → Nat) (A : Nat → Prop) (y d cells slots : Nat) : Prop :=
  p.tables.exec = Jvm.exec ∧ c.code = mB y ∧ c.maxLocals = mL y ∧ s.vm.findClass (cN (mO y)) = some m.cls ∧ (∀ w ∈ lwg, w.before args s = true) ∧ va_K (dC, dI) vwCl (tys cy) s ∧ (d + 1 ≤ R.frames ∧ 37 * (d + 1) ≤ R.locals) ∧ (cells ≤ R.cells ∧ slots ≤ R.slots) ∧ SX a A s ∧ (∀ q, s.heap.size ≤ q → A q) ∧ y < mLaw + 1
def Rl (dC : Nat → ClassId) (dI : Nat → Nat → Nat) (cy : Nat → ClassId) (a : Nat → Nat) (A : Nat → Prop) (s : State) (y : Nat) (ls : List AV) (σ : Sg) (H : Heap) (locs : List Loc) (rl : Array Slot) : Prop :=
  va_P (dC, dI) vwCl (wld a cy σ) H ∧ va_D A (wld a cy σ) ∧ va_S A s.heap H locs ∧ lvh a (mL y) ls rl
theorem w32_in {i : Int} {n : Nat} (h : 0 ≤ w32 i ∧ w32 i < (n : Int)) : vp_in (Int32.ofInt i) n := vp_in_iff.mpr h
theorem w32_cl {i : Int} : (Int32.ofInt i).toNatClampNeg = (w32 i).toNat := rfl
theorem al_of {σ : Sg} {c o : Nat} {i : Int} (h : 0 ≤ w32 i ∧ w32 i < al σ c o) : ∃ n, kn σ o = (c, n) ∧ 0 ≤ w32 i ∧ w32 i < (n : Int) := by
  unfold al at h
  split at h
  · rename_i hc
    exact ⟨(kn σ o).2, by rw [← hc], h⟩
  · omega
theorem ofI (x : Int32) : Int32.ofInt x.toInt = x := Int32.ofInt_toInt x
theorem ofL (x : Int64) : Int64.ofInt x.toInt = x := Int64.ofInt_toInt x
theorem ty_int {cy : Nat → ClassId} : (tys cy)[0]? = some (cy 0, .int) := rfl
theorem ty_long {cy : Nat → ClassId} : (tys cy)[1]? = some (cy 1, .long) := rfl
theorem ty_bool {cy : Nat → ClassId} : (tys cy)[2]? = some (cy 2, .boolean) := rfl
theorem ty_ref {cy : Nat → ClassId} : (tys cy)[3]? = some (cy 3, .object "RolledStones$Field") := rfl
section OPS
variable {p : Program} {l : Launch} {e : Env} {R : Room} {s : State} {m : MethodId} {args : Array Value} {below : List Frame} {meth : Method} {c : Code} {H : Heap} {locs : List Loc} {cells slots : Nat} {Q : State → Prop}
variable {dC : Nat → ClassId} {dI : Nat → Nat → Nat} {cy : Nat → ClassId} {a : Nat → Nat} {A : Nat → Prop} {y d : Nat}
variable {pc nx k t : Nat} {v : Int} {tb : List (Int × Nat)} {ls st : List AV} {σ : Sg} {s' : St} {rl : Array Slot}
theorem o0 (C : Cx p R s m args c dC dI cy a A y d cells slots) (hr : Rl dC dI cy a A s y ls σ H locs rl) (hd : decode (mB y) pc = .ok (rI pc 0 v k t tb)) (hn : nx = pc + (rI pc 0 v k t tb).2) (hsc : sc y 0 v k t tb = true) (hs : exe d nx 0 v k t tb ls st σ = some (.inl s'))
    (kk : ∀ H1 locs1 rl1, Rl dC dI cy a A s y s'.2.1 s'.2.2.2 H1 locs1 rl1 → W p l e R s m args below meth c H1 locs1 cells slots Q (F0 m s'.1 rl1 (s'.2.2.1.map (rv a)))) : W p l e R s m args below meth c H locs cells slots Q (F0 m pc rl (st.map (rv a))) := by
  obtain ⟨hx, hb, hml, hown, hts, -⟩ := C
  simp only [exe, Option.some.injEq, Sum.inl.injEq] at hs
  subst hs
  have K := kk H locs rl hr
  rcases (show k = 0 ∨ k = 1 ∨ k = 2 ∨ k = 3 ∨ 3 < k by omega) with rfl | rfl | rfl | rfl | h
  · subst hn
    exact lv_iconst hx hb hd rfl K
  · subst hn
    simp only [sc, decide_eq_true_eq] at hsc
    refine lv_bipush hx hb hd ?_ K
    apply Int32.toInt_inj.mp
    rw [Int8.toInt_toInt32, Int8.toInt_ofInt_of_le (by omega) (by omega), Int32.toInt_ofInt_of_le (by omega) (by omega)]
  · subst hn
    simp only [sc, decide_eq_true_eq] at hsc
    refine lv_sipush hx hb hd ?_ K
    apply Int32.toInt_inj.mp
    rw [Int16.toInt_toInt32, Int16.toInt_ofInt_of_le (by omega) (by omega), Int32.toInt_ofInt_of_le (by omega) (by omega)]
  · subst hn
    have hk : (mO y, t, v, 0) ∈ kLl := by simpa [sc] using hsc
    have hw := wdK_in _ (List.mem_map.mpr ⟨_, hk, rfl⟩)
    exact lv_ldc hx hb hown (hts _ (lwg_of hw rfl)) hd K
  · have hsc2 : kLl.contains (mO y, t, v, 0) = true := by
      simp only [sc] at hsc; split at hsc <;> first | omega | exact hsc
    have hr2 : rI pc 0 v k t tb = (.ldc_w t, 3) := by
      simp only [rI]; split <;> first | omega | rfl
    rw [hr2] at hd hn
    subst hn
    have hk : (mO y, t, v, 0) ∈ kLl := by simpa using hsc2
    have hw := wdK_in _ (List.mem_map.mpr ⟨_, hk, rfl⟩)
    exact lv_ldcw hx hb hown (hts _ (lwg_of hw rfl)) hd K
theorem o1 (C : Cx p R s m args c dC dI cy a A y d cells slots) (hr : Rl dC dI cy a A s y ls σ H locs rl) (hd : decode (mB y) pc = .ok (rI pc 1 v k t tb)) (hn : nx = pc + (rI pc 1 v k t tb).2) (hsc : sc y 1 v k t tb = true) (hs : exe d nx 1 v k t tb ls st σ = some (.inl s'))
    (kk : ∀ H1 locs1 rl1, Rl dC dI cy a A s y s'.2.1 s'.2.2.2 H1 locs1 rl1 → W p l e R s m args below meth c H1 locs1 cells slots Q (F0 m s'.1 rl1 (s'.2.2.1.map (rv a)))) : W p l e R s m args below meth c H locs cells slots Q (F0 m pc rl (st.map (rv a))) := by
  obtain ⟨hx, hb, hml, hown, hts, -⟩ := C
  simp only [exe, Option.some.injEq, Sum.inl.injEq] at hs
  subst hs
  have K := kk H locs rl hr
  rcases (show k = 0 ∨ 0 < k by omega) with rfl | h
  · subst hn
    simp only [sc, decide_eq_true_eq] at hsc
    refine lv_lconst hx hb hd ?_ K
    rcases hsc with rfl | rfl <;> rfl
  · have hsc2 : kLl.contains (mO y, t, v, 1) = true := by
      simp only [sc] at hsc; split at hsc <;> first | omega | exact hsc
    have hr2 : rI pc 1 v k t tb = (.ldc2_w t, 3) := by
      simp only [rI]; split <;> first | omega | rfl
    rw [hr2] at hd hn
    subst hn
    have hk : (mO y, t, v, 1) ∈ kLl := by simpa using hsc2
    have hw := wdK_in _ (List.mem_map.mpr ⟨_, hk, rfl⟩)
    exact lv_ldc2 hx hb hown (hts _ (lwg_of hw rfl)) hd K
theorem o2 (C : Cx p R s m args c dC dI cy a A y d cells slots) (hr : Rl dC dI cy a A s y ls σ H locs rl) (hd : decode (mB y) pc = .ok (rI pc 2 v k t tb)) (hn : nx = pc + (rI pc 2 v k t tb).2) (hsc : sc y 2 v k t tb = true) (hs : exe d nx 2 v k t tb ls st σ = some (.inl s'))
    (kk : ∀ H1 locs1 rl1, Rl dC dI cy a A s y s'.2.1 s'.2.2.2 H1 locs1 rl1 → W p l e R s m args below meth c H1 locs1 cells slots Q (F0 m s'.1 rl1 (s'.2.2.1.map (rv a)))) : W p l e R s m args below meth c H locs cells slots Q (F0 m pc rl (st.map (rv a))) := by
  obtain ⟨hx, hb, hml, hown, hts, hK, hR, hcs, hSX, hA, hy⟩ := C
  simp only [exe] at hs
  simp only [Option.some.injEq, Sum.inl.injEq] at hs
  subst hs hn
  exact lv_null hx hb hd (kk H locs rl hr)
theorem o3 (C : Cx p R s m args c dC dI cy a A y d cells slots) (hr : Rl dC dI cy a A s y ls σ H locs rl) (hd : decode (mB y) pc = .ok (rI pc 3 v k t tb)) (hn : nx = pc + (rI pc 3 v k t tb).2) (hsc : sc y 3 v k t tb = true) (hs : exe d nx 3 v k t tb ls st σ = some (.inl s'))
    (kk : ∀ H1 locs1 rl1, Rl dC dI cy a A s y s'.2.1 s'.2.2.2 H1 locs1 rl1 → W p l e R s m args below meth c H1 locs1 cells slots Q (F0 m s'.1 rl1 (s'.2.2.1.map (rv a)))) : W p l e R s m args below meth c H locs cells slots Q (F0 m pc rl (st.map (rv a))) := by
  obtain ⟨hx, hb, hml, hown, hts, hK, hR, hcs, hSX, hA, hy⟩ := C
  simp only [exe] at hs
  obtain ⟨hP, hD, hS, hL⟩ := id hr
  split at hs
  · rename_i x hl
    simp only [Option.some.injEq, Sum.inl.injEq] at hs
    subst hs
    have hv := hL.2.2.2 _ _ hl (fun ⟨_, q⟩ => by cases q)
    by_cases h : t = 0 ∧ k < 4
    · have hr2 : rI pc 3 v k t tb = (.iload_n ⟨k, h.2⟩, 1) := by simp only [rI]; rw [dif_pos h]
      rw [hr2] at hd hn
      subst hn
      exact lv_iload_n hx hb hd rfl hv (kk H locs rl hr)
    · have hr2 : rI pc 3 v k t tb = (.iload k, 2) := by simp only [rI]; rw [dif_neg h]
      rw [hr2] at hd hn
      subst hn
      exact lv_iload hx hb hd hv (kk H locs rl hr)
  · cases hs
theorem o4 (C : Cx p R s m args c dC dI cy a A y d cells slots) (hr : Rl dC dI cy a A s y ls σ H locs rl) (hd : decode (mB y) pc = .ok (rI pc 4 v k t tb)) (hn : nx = pc + (rI pc 4 v k t tb).2) (hsc : sc y 4 v k t tb = true) (hs : exe d nx 4 v k t tb ls st σ = some (.inl s'))
    (kk : ∀ H1 locs1 rl1, Rl dC dI cy a A s y s'.2.1 s'.2.2.2 H1 locs1 rl1 → W p l e R s m args below meth c H1 locs1 cells slots Q (F0 m s'.1 rl1 (s'.2.2.1.map (rv a)))) : W p l e R s m args below meth c H locs cells slots Q (F0 m pc rl (st.map (rv a))) := by
  obtain ⟨hx, hb, hml, hown, hts, hK, hR, hcs, hSX, hA, hy⟩ := C
  simp only [exe] at hs
  obtain ⟨hP, hD, hS, hL⟩ := id hr
  split at hs
  · rename_i x hl hl2
    simp only [Option.some.injEq, Sum.inl.injEq] at hs
    subst hs
    have hv := hL.2.2.2 _ _ hl (fun _ => hl2)
    by_cases h : t = 0 ∧ k < 4
    · have hr2 : rI pc 4 v k t tb = (.lload_n ⟨k, h.2⟩, 1) := by simp only [rI]; rw [dif_pos h]
      rw [hr2] at hd hn
      subst hn
      exact lv_lload_n hx hb hd rfl hv (kk H locs rl hr)
    · have hr2 : rI pc 4 v k t tb = (.lload k, 2) := by simp only [rI]; rw [dif_neg h]
      rw [hr2] at hd hn
      subst hn
      exact lv_lload hx hb hd hv (kk H locs rl hr)
  · cases hs
theorem o5 (C : Cx p R s m args c dC dI cy a A y d cells slots) (hr : Rl dC dI cy a A s y ls σ H locs rl) (hd : decode (mB y) pc = .ok (rI pc 5 v k t tb)) (hn : nx = pc + (rI pc 5 v k t tb).2) (hsc : sc y 5 v k t tb = true) (hs : exe d nx 5 v k t tb ls st σ = some (.inl s'))
    (kk : ∀ H1 locs1 rl1, Rl dC dI cy a A s y s'.2.1 s'.2.2.2 H1 locs1 rl1 → W p l e R s m args below meth c H1 locs1 cells slots Q (F0 m s'.1 rl1 (s'.2.2.1.map (rv a)))) : W p l e R s m args below meth c H locs cells slots Q (F0 m pc rl (st.map (rv a))) := by
  obtain ⟨hx, hb, hml, hown, hts, hK, hR, hcs, hSX, hA, hy⟩ := C
  simp only [exe] at hs
  obtain ⟨hP, hD, hS, hL⟩ := id hr
  split at hs
  · rename_i o hl
    split at hs
    · cases hs
    rename_i ho
    simp only [Option.some.injEq, Sum.inl.injEq] at hs
    subst hs
    have hv := hL.2.2.2 _ _ hl (fun ⟨_, q⟩ => by cases q)
    have he : rv a (some (Sum.inr (Sum.inr o))) = .ref (a o) := by simp only [rv]; rw [if_neg ho]
    rw [he] at hv
    have K := kk H locs rl hr
    simp only [List.map_cons] at K
    rw [show rv a (vR o) = .ref (a o) from he] at K
    by_cases h : t = 0 ∧ k < 4
    · have hr2 : rI pc 5 v k t tb = (.aload_n ⟨k, h.2⟩, 1) := by simp only [rI]; rw [dif_pos h]
      rw [hr2] at hd hn
      subst hn
      exact lv_aload_n hx hb hd rfl hv K
    · have hr2 : rI pc 5 v k t tb = (.aload k, 2) := by simp only [rI]; rw [dif_neg h]
      rw [hr2] at hd hn
      subst hn
      exact lv_aload hx hb hd hv K
  · cases hs
theorem o6 (C : Cx p R s m args c dC dI cy a A y d cells slots) (hr : Rl dC dI cy a A s y ls σ H locs rl) (hd : decode (mB y) pc = .ok (rI pc 6 v k t tb)) (hn : nx = pc + (rI pc 6 v k t tb).2) (hsc : sc y 6 v k t tb = true) (hs : exe d nx 6 v k t tb ls st σ = some (.inl s'))
    (kk : ∀ H1 locs1 rl1, Rl dC dI cy a A s y s'.2.1 s'.2.2.2 H1 locs1 rl1 → W p l e R s m args below meth c H1 locs1 cells slots Q (F0 m s'.1 rl1 (s'.2.2.1.map (rv a)))) : W p l e R s m args below meth c H locs cells slots Q (F0 m pc rl (st.map (rv a))) := by
  obtain ⟨hx, hb, hml, hown, hts, hK, hR, hcs, hSX, hA, hy⟩ := C
  simp only [exe] at hs
  obtain ⟨hP, hD, hS, hL⟩ := id hr
  split at hs
  · rename_i x r
    split at hs
    rotate_left
    · cases hs
    rename_i hk
    simp only [Option.some.injEq, Sum.inl.injEq] at hs
    subst hs
    have hkn : k < mL y := by have := hL.1; omega
    by_cases h : t = 0 ∧ k < 4
    · have hr2 : rI pc 6 v k t tb = (.istore_n ⟨k, h.2⟩, 1) := by simp only [rI]; rw [dif_pos h]
      rw [hr2] at hd hn
      subst hn
      refine lv_istore_n hx hb hd rfl (lvF_has hL.2.1 hL.2.2.1) hkn rfl (fun rl1 h1 => ?_)
      exact kk H locs rl1 ⟨hP, hD, hS, lvh_set hL (fun _ q => by cases q) hkn (by simpa [rv] using h1)⟩
    · have hr2 : rI pc 6 v k t tb = (.istore k, 2) := by simp only [rI]; rw [dif_neg h]
      rw [hr2] at hd hn
      subst hn
      refine lv_istore hx hb hd (lvF_has hL.2.1 hL.2.2.1) hkn rfl (fun rl1 h1 => ?_)
      exact kk H locs rl1 ⟨hP, hD, hS, lvh_set hL (fun _ q => by cases q) hkn (by simpa [rv] using h1)⟩
  · cases hs
theorem o7 (C : Cx p R s m args c dC dI cy a A y d cells slots) (hr : Rl dC dI cy a A s y ls σ H locs rl) (hd : decode (mB y) pc = .ok (rI pc 7 v k t tb)) (hn : nx = pc + (rI pc 7 v k t tb).2) (hsc : sc y 7 v k t tb = true) (hs : exe d nx 7 v k t tb ls st σ = some (.inl s'))
    (kk : ∀ H1 locs1 rl1, Rl dC dI cy a A s y s'.2.1 s'.2.2.2 H1 locs1 rl1 → W p l e R s m args below meth c H1 locs1 cells slots Q (F0 m s'.1 rl1 (s'.2.2.1.map (rv a)))) : W p l e R s m args below meth c H locs cells slots Q (F0 m pc rl (st.map (rv a))) := by
  obtain ⟨hx, hb, hml, hown, hts, hK, hR, hcs, hSX, hA, hy⟩ := C
  simp only [exe] at hs
  obtain ⟨hP, hD, hS, hL⟩ := id hr
  split at hs
  · rename_i x r
    split at hs
    rotate_left
    · cases hs
    rename_i hk
    simp only [Option.some.injEq, Sum.inl.injEq] at hs
    subst hs
    have hkn : k + 1 < mL y := by have := hL.1; omega
    by_cases h : t = 0 ∧ k < 4
    · have hr2 : rI pc 7 v k t tb = (.lstore_n ⟨k, h.2⟩, 1) := by simp only [rI]; rw [dif_pos h]
      rw [hr2] at hd hn
      subst hn
      refine lv_lstore_n hx hb hd rfl (lvF_has hL.2.1 hL.2.2.1) hkn rfl (fun rl1 h1 => ?_)
      exact kk H locs rl1 ⟨hP, hD, hS, lvh_setL hL hkn h1⟩
    · have hr2 : rI pc 7 v k t tb = (.lstore k, 2) := by simp only [rI]; rw [dif_neg h]
      rw [hr2] at hd hn
      subst hn
      refine lv_lstore hx hb hd (lvF_has hL.2.1 hL.2.2.1) hkn rfl (fun rl1 h1 => ?_)
      exact kk H locs rl1 ⟨hP, hD, hS, lvh_setL hL hkn h1⟩
  · cases hs
theorem o8 (C : Cx p R s m args c dC dI cy a A y d cells slots) (hr : Rl dC dI cy a A s y ls σ H locs rl) (hd : decode (mB y) pc = .ok (rI pc 8 v k t tb)) (hn : nx = pc + (rI pc 8 v k t tb).2) (hsc : sc y 8 v k t tb = true) (hs : exe d nx 8 v k t tb ls st σ = some (.inl s'))
    (kk : ∀ H1 locs1 rl1, Rl dC dI cy a A s y s'.2.1 s'.2.2.2 H1 locs1 rl1 → W p l e R s m args below meth c H1 locs1 cells slots Q (F0 m s'.1 rl1 (s'.2.2.1.map (rv a)))) : W p l e R s m args below meth c H locs cells slots Q (F0 m pc rl (st.map (rv a))) := by
  obtain ⟨hx, hb, hml, hown, hts, hK, hR, hcs, hSX, hA, hy⟩ := C
  simp only [exe] at hs
  obtain ⟨hP, hD, hS, hL⟩ := id hr
  split at hs
  · rename_i o r
    split at hs
    · cases hs
    rename_i ho
    split at hs
    rotate_left
    · cases hs
    rename_i hk
    simp only [Option.some.injEq, Sum.inl.injEq] at hs
    subst hs
    have hkn : k < mL y := by have := hL.1; omega
    have he : rv a (some (Sum.inr (Sum.inr o))) = .ref (a o) := by simp only [rv]; rw [if_neg ho]
    simp only [List.map_cons]
    rw [he]
    by_cases h : t = 0 ∧ k < 4
    · have hr2 : rI pc 8 v k t tb = (.astore_n ⟨k, h.2⟩, 1) := by simp only [rI]; rw [dif_pos h]
      rw [hr2] at hd hn
      subst hn
      refine lv_astore_n hx hb hd rfl (lvF_has hL.2.1 hL.2.2.1) hkn rfl (fun rl1 h1 => ?_)
      exact kk H locs rl1 ⟨hP, hD, hS, lvh_set hL (fun _ q => by cases q) hkn (by rw [he]; exact h1)⟩
    · have hr2 : rI pc 8 v k t tb = (.astore k, 2) := by simp only [rI]; rw [dif_neg h]
      rw [hr2] at hd hn
      subst hn
      refine lv_astore hx hb hd (lvF_has hL.2.1 hL.2.2.1) hkn rfl (fun rl1 h1 => ?_)
      exact kk H locs rl1 ⟨hP, hD, hS, lvh_set hL (fun _ q => by cases q) hkn (by rw [he]; exact h1)⟩
  · cases hs
theorem o9 (C : Cx p R s m args c dC dI cy a A y d cells slots) (hr : Rl dC dI cy a A s y ls σ H locs rl) (hd : decode (mB y) pc = .ok (rI pc 9 v k t tb)) (hn : nx = pc + (rI pc 9 v k t tb).2) (hsc : sc y 9 v k t tb = true) (hs : exe d nx 9 v k t tb ls st σ = some (.inl s'))
    (kk : ∀ H1 locs1 rl1, Rl dC dI cy a A s y s'.2.1 s'.2.2.2 H1 locs1 rl1 → W p l e R s m args below meth c H1 locs1 cells slots Q (F0 m s'.1 rl1 (s'.2.2.1.map (rv a)))) : W p l e R s m args below meth c H locs cells slots Q (F0 m pc rl (st.map (rv a))) := by
  obtain ⟨hx, hb, hml, hown, hts, hK, hR, hcs, hSX, hA, hy⟩ := C
  simp only [exe] at hs
  obtain ⟨hP, hD, hS, hL⟩ := id hr
  split at hs
  · rename_i x hl
    simp only [Option.some.injEq, Sum.inl.injEq] at hs
    subst hs hn
    have hkn : k < mL y := by have := hL.1; have := (List.getElem?_eq_some_iff.mp hl).1; omega
    have hv := hL.2.2.2 _ _ hl (fun ⟨_, q⟩ => by cases q)
    obtain ⟨kq, hkq⟩ := List.getElem?_of_mem (lvF_mem hv)
    refine lv_iinc (v := Int32.ofInt (x + v)) hx hb hd (lvF_has hL.2.1 hL.2.2.1) hkq (by rw [Int32.ofInt_add]) hkn rfl (fun rl1 h1 => ?_)
    exact kk H locs rl1 ⟨hP, hD, hS, lvh_set hL (fun _ q => by cases q) hkn h1⟩
  · cases hs
theorem o10 (C : Cx p R s m args c dC dI cy a A y d cells slots) (hr : Rl dC dI cy a A s y ls σ H locs rl) (hd : decode (mB y) pc = .ok (rI pc 10 v k t tb)) (hn : nx = pc + (rI pc 10 v k t tb).2) (hsc : sc y 10 v k t tb = true) (hs : exe d nx 10 v k t tb ls st σ = some (.inl s'))
    (kk : ∀ H1 locs1 rl1, Rl dC dI cy a A s y s'.2.1 s'.2.2.2 H1 locs1 rl1 → W p l e R s m args below meth c H1 locs1 cells slots Q (F0 m s'.1 rl1 (s'.2.2.1.map (rv a)))) : W p l e R s m args below meth c H locs cells slots Q (F0 m pc rl (st.map (rv a))) := by
  obtain ⟨hx, hb, hml, hown, hts, hK, hR, hcs, hSX, hA, hy⟩ := C
  simp only [exe] at hs
  split at hs
  · rename_i y0 x0 r
    obtain ⟨z, hz, e0⟩ := Option.map_eq_some_iff.mp hs
    simp only [Sum.inl.injEq] at e0
    subst e0 hn
    have K := kk H locs rl hr
    simp only [rI] at hd
    rcases (show k = 0 ∨ k = 1 ∨ k = 2 ∨ k = 3 ∨ k = 4 ∨ k = 5 ∨ k = 6 ∨ k = 7 ∨ k = 8 ∨ k = 9 ∨ k = 10 ∨ 10 < k by omega) with rfl | rfl | rfl | rfl | rfl | rfl | rfl | rfl | rfl | rfl | rfl | h
    · simp only [ib, Option.some.injEq] at hz
      subst hz
      refine lv_iadd hx hb hd ?_
      rw [← Int32.ofInt_add]
      exact K
    · simp only [ib, Option.some.injEq] at hz
      subst hz
      refine lv_isub hx hb hd ?_
      rw [← Int32.ofInt_sub]
      exact K
    · simp only [ib, Option.some.injEq] at hz
      subst hz
      refine lv_imul hx hb hd ?_
      rw [← Int32.ofInt_mul]
      exact K
    · simp only [ib] at hz
      split at hz
      · cases hz
      rename_i h0
      simp only [Option.some.injEq] at hz
      subst hz
      refine lv_idiv hx hb hd (fun q => h0 (by unfold w32; rw [q]; rfl)) ?_
      have K2 := K
      simp only [List.map_cons, rv, div32, ofI] at K2
      exact K2
    · simp only [ib] at hz
      split at hz
      · cases hz
      rename_i h0
      simp only [Option.some.injEq] at hz
      subst hz
      refine lv_irem hx hb hd (fun q => h0 (by unfold w32; rw [q]; rfl)) ?_
      have K2 := K
      simp only [List.map_cons, rv, rem32, ofI] at K2
      exact K2
    · simp only [ib, Option.some.injEq] at hz
      subst hz
      refine lv_iand hx hb hd ?_
      have K2 := K
      simp only [List.map_cons, rv, and32, ofI] at K2
      exact K2
    · simp only [ib, Option.some.injEq] at hz
      subst hz
      refine lv_ior hx hb hd ?_
      have K2 := K
      simp only [List.map_cons, rv, or32, ofI] at K2
      exact K2
    · simp only [ib, Option.some.injEq] at hz
      subst hz
      refine lv_ixor hx hb hd ?_
      have K2 := K
      simp only [List.map_cons, rv, xor32, ofI] at K2
      exact K2
    · simp only [ib, Option.some.injEq] at hz
      subst hz
      refine lv_ishl hx hb hd ?_
      have K2 := K
      simp only [List.map_cons, rv, shl32, ofI] at K2
      exact K2
    · simp only [ib, Option.some.injEq] at hz
      subst hz
      refine lv_ishr hx hb hd ?_
      have K2 := K
      simp only [List.map_cons, rv, shr32, ofI] at K2
      exact K2
    · simp only [ib, Option.some.injEq] at hz
      subst hz
      refine lv_iushr hx hb hd rfl ?_
      have K2 := K
      simp only [List.map_cons, rv, ushr32, ofI] at K2
      exact K2
    · exfalso
      unfold ib at hz
      split at hz <;> first | omega | cases hz
  · cases hs
theorem o11 (C : Cx p R s m args c dC dI cy a A y d cells slots) (hr : Rl dC dI cy a A s y ls σ H locs rl) (hd : decode (mB y) pc = .ok (rI pc 11 v k t tb)) (hn : nx = pc + (rI pc 11 v k t tb).2) (hsc : sc y 11 v k t tb = true) (hs : exe d nx 11 v k t tb ls st σ = some (.inl s'))
    (kk : ∀ H1 locs1 rl1, Rl dC dI cy a A s y s'.2.1 s'.2.2.2 H1 locs1 rl1 → W p l e R s m args below meth c H1 locs1 cells slots Q (F0 m s'.1 rl1 (s'.2.2.1.map (rv a)))) : W p l e R s m args below meth c H locs cells slots Q (F0 m pc rl (st.map (rv a))) := by
  obtain ⟨hx, hb, hml, hown, hts, hK, hR, hcs, hSX, hA, hy⟩ := C
  simp only [exe] at hs
  split at hs
  · rename_i y0 x0 r
    obtain ⟨z, hz, e0⟩ := Option.map_eq_some_iff.mp hs
    simp only [Sum.inl.injEq] at e0
    subst e0 hn
    have K := kk H locs rl hr
    simp only [rI] at hd
    rcases (show k = 0 ∨ k = 1 ∨ k = 2 ∨ k = 3 ∨ k = 4 ∨ k = 5 ∨ k = 6 ∨ 6 < k by omega) with rfl | rfl | rfl | rfl | rfl | rfl | rfl | h
    · simp only [lb, Option.some.injEq] at hz
      subst hz
      refine lv_ladd hx hb hd ?_
      rw [← Int64.ofInt_add]
      exact K
    · simp only [lb, Option.some.injEq] at hz
      subst hz
      refine lv_lsub hx hb hd ?_
      rw [← Int64.ofInt_sub]
      exact K
    · simp only [lb, Option.some.injEq] at hz
      subst hz
      refine lv_lmul hx hb hd ?_
      rw [← Int64.ofInt_mul]
      exact K
    · simp only [lb] at hz
      split at hz
      · cases hz
      rename_i h0
      simp only [Option.some.injEq] at hz
      subst hz
      refine lv_ldiv hx hb hd (fun q => h0 (by unfold w64; rw [q]; rfl)) ?_
      have K2 := K
      simp only [List.map_cons, rv, div64, ofL] at K2
      exact K2
    · simp only [lb] at hz
      split at hz
      · cases hz
      rename_i h0
      simp only [Option.some.injEq] at hz
      subst hz
      refine lv_lrem hx hb hd (fun q => h0 (by unfold w64; rw [q]; rfl)) ?_
      have K2 := K
      simp only [List.map_cons, rv, rem64, ofL] at K2
      exact K2
    · simp only [lb, Option.some.injEq] at hz
      subst hz
      refine lv_land hx hb hd ?_
      have K2 := K
      simp only [List.map_cons, rv, and64, ofL] at K2
      exact K2
    · simp only [lb, Option.some.injEq] at hz
      subst hz
      refine lv_lor hx hb hd ?_
      have K2 := K
      simp only [List.map_cons, rv, or64, ofL] at K2
      exact K2
    · exfalso
      unfold lb at hz
      split at hz <;> first | omega | cases hz
  · cases hs
theorem o12 (C : Cx p R s m args c dC dI cy a A y d cells slots) (hr : Rl dC dI cy a A s y ls σ H locs rl) (hd : decode (mB y) pc = .ok (rI pc 12 v k t tb)) (hn : nx = pc + (rI pc 12 v k t tb).2) (hsc : sc y 12 v k t tb = true) (hs : exe d nx 12 v k t tb ls st σ = some (.inl s'))
    (kk : ∀ H1 locs1 rl1, Rl dC dI cy a A s y s'.2.1 s'.2.2.2 H1 locs1 rl1 → W p l e R s m args below meth c H1 locs1 cells slots Q (F0 m s'.1 rl1 (s'.2.2.1.map (rv a)))) : W p l e R s m args below meth c H locs cells slots Q (F0 m pc rl (st.map (rv a))) := by
  obtain ⟨hx, hb, hml, hown, hts, hK, hR, hcs, hSX, hA, hy⟩ := C
  simp only [exe] at hs
  split at hs
  · rename_i y0 x0 r
    obtain ⟨z, hz, e0⟩ := Option.map_eq_some_iff.mp hs
    simp only [Sum.inl.injEq] at e0
    subst e0 hn
    have K := kk H locs rl hr
    simp only [rI] at hd
    rcases (show k = 0 ∨ k = 1 ∨ 1 < k by omega) with rfl | rfl | h
    · simp only [lsf, Option.some.injEq] at hz
      subst hz
      refine lv_lshl hx hb hd rfl ?_
      have K2 := K
      simp only [List.map_cons, rv, shl64, ofL] at K2
      exact K2
    · simp only [lsf, Option.some.injEq] at hz
      subst hz
      refine lv_lshr hx hb hd rfl ?_
      have K2 := K
      simp only [List.map_cons, rv, shr64, ofL] at K2
      exact K2
    · exfalso
      unfold lsf at hz
      split at hz <;> first | omega | cases hz
  · cases hs
theorem o13 (C : Cx p R s m args c dC dI cy a A y d cells slots) (hr : Rl dC dI cy a A s y ls σ H locs rl) (hd : decode (mB y) pc = .ok (rI pc 13 v k t tb)) (hn : nx = pc + (rI pc 13 v k t tb).2) (hsc : sc y 13 v k t tb = true) (hs : exe d nx 13 v k t tb ls st σ = some (.inl s'))
    (kk : ∀ H1 locs1 rl1, Rl dC dI cy a A s y s'.2.1 s'.2.2.2 H1 locs1 rl1 → W p l e R s m args below meth c H1 locs1 cells slots Q (F0 m s'.1 rl1 (s'.2.2.1.map (rv a)))) : W p l e R s m args below meth c H locs cells slots Q (F0 m pc rl (st.map (rv a))) := by
  obtain ⟨hx, hb, hml, hown, hts, hK, hR, hcs, hSX, hA, hy⟩ := C
  simp only [exe] at hs
  split at hs
  · rename_i x0 r
    simp only [Option.some.injEq, Sum.inl.injEq] at hs
    subst hs hn
    have K := kk H locs rl hr
    refine lv_ineg hx hb hd ?_
    rw [← Int32.ofInt_neg]
    exact K
  · cases hs
theorem o14 (C : Cx p R s m args c dC dI cy a A y d cells slots) (hr : Rl dC dI cy a A s y ls σ H locs rl) (hd : decode (mB y) pc = .ok (rI pc 14 v k t tb)) (hn : nx = pc + (rI pc 14 v k t tb).2) (hsc : sc y 14 v k t tb = true) (hs : exe d nx 14 v k t tb ls st σ = some (.inl s'))
    (kk : ∀ H1 locs1 rl1, Rl dC dI cy a A s y s'.2.1 s'.2.2.2 H1 locs1 rl1 → W p l e R s m args below meth c H1 locs1 cells slots Q (F0 m s'.1 rl1 (s'.2.2.1.map (rv a)))) : W p l e R s m args below meth c H locs cells slots Q (F0 m pc rl (st.map (rv a))) := by
  obtain ⟨hx, hb, hml, hown, hts, hK, hR, hcs, hSX, hA, hy⟩ := C
  simp only [exe] at hs
  split at hs
  · rename_i x0 r
    simp only [Option.some.injEq, Sum.inl.injEq] at hs
    subst hs hn
    have K := kk H locs rl hr
    refine lv_i2l hx hb hd ?_ K
    apply Int64.toInt_inj.mp
    rw [Int32.toInt_toInt64]
    have h1 := Int32.le_toInt (Int32.ofInt x0)
    have h2 := Int32.toInt_lt (Int32.ofInt x0)
    rw [Int64.toInt_ofInt_of_le (by unfold w32; omega) (by unfold w32; omega)]
    rfl
  · cases hs
theorem o15 (C : Cx p R s m args c dC dI cy a A y d cells slots) (hr : Rl dC dI cy a A s y ls σ H locs rl) (hd : decode (mB y) pc = .ok (rI pc 15 v k t tb)) (hn : nx = pc + (rI pc 15 v k t tb).2) (hsc : sc y 15 v k t tb = true) (hs : exe d nx 15 v k t tb ls st σ = some (.inl s'))
    (kk : ∀ H1 locs1 rl1, Rl dC dI cy a A s y s'.2.1 s'.2.2.2 H1 locs1 rl1 → W p l e R s m args below meth c H1 locs1 cells slots Q (F0 m s'.1 rl1 (s'.2.2.1.map (rv a)))) : W p l e R s m args below meth c H locs cells slots Q (F0 m pc rl (st.map (rv a))) := by
  obtain ⟨hx, hb, hml, hown, hts, hK, hR, hcs, hSX, hA, hy⟩ := C
  simp only [exe] at hs
  split at hs
  · rename_i x0 r
    simp only [Option.some.injEq, Sum.inl.injEq] at hs
    subst hs hn
    have K := kk H locs rl hr
    refine lv_l2i hx hb hd ?_ K
    exact Int64.toInt32_ofInt
  · cases hs
theorem o16 (C : Cx p R s m args c dC dI cy a A y d cells slots) (hr : Rl dC dI cy a A s y ls σ H locs rl) (hd : decode (mB y) pc = .ok (rI pc 16 v k t tb)) (hn : nx = pc + (rI pc 16 v k t tb).2) (hsc : sc y 16 v k t tb = true) (hs : exe d nx 16 v k t tb ls st σ = some (.inl s'))
    (kk : ∀ H1 locs1 rl1, Rl dC dI cy a A s y s'.2.1 s'.2.2.2 H1 locs1 rl1 → W p l e R s m args below meth c H1 locs1 cells slots Q (F0 m s'.1 rl1 (s'.2.2.1.map (rv a)))) : W p l e R s m args below meth c H locs cells slots Q (F0 m pc rl (st.map (rv a))) := by
  obtain ⟨hx, hb, hml, hown, hts, hK, hR, hcs, hSX, hA, hy⟩ := C
  simp only [exe] at hs
  split at hs
  · rename_i y0 x0 r
    simp only [Option.some.injEq, Sum.inl.injEq] at hs
    subst hs hn
    have K := kk H locs rl hr
    refine W.lcmp hx hb hd ?_
    have e1 : lg_cmp (Int64.ofInt x0) (Int64.ofInt y0) = Int32.ofInt (cmpL x0 y0) := by
      unfold lg_cmp cmpL w64
      simp only [gt_iff_lt, Int64.lt_iff_toInt_lt, ← Int64.toInt_inj]
      split
      · rfl
      · split <;> rfl
    rw [e1]
    exact K
  · cases hs
theorem o17 (C : Cx p R s m args c dC dI cy a A y d cells slots) (hr : Rl dC dI cy a A s y ls σ H locs rl) (hd : decode (mB y) pc = .ok (rI pc 17 v k t tb)) (hn : nx = pc + (rI pc 17 v k t tb).2) (hsc : sc y 17 v k t tb = true) (hs : exe d nx 17 v k t tb ls st σ = some (.inl s'))
    (kk : ∀ H1 locs1 rl1, Rl dC dI cy a A s y s'.2.1 s'.2.2.2 H1 locs1 rl1 → W p l e R s m args below meth c H1 locs1 cells slots Q (F0 m s'.1 rl1 (s'.2.2.1.map (rv a)))) : W p l e R s m args below meth c H locs cells slots Q (F0 m pc rl (st.map (rv a))) := by
  obtain ⟨hx, hb, hml, hown, hts, hK, hR, hcs, hSX, hA, hy⟩ := C
  simp only [exe] at hs
  split at hs
  · rename_i x0 r
    simp only [Option.some.injEq, Sum.inl.injEq] at hs
    subst hs hn
    exact lv_dup hx hb hd rfl (kk H locs rl hr)
  · rename_i x0 r
    simp only [Option.some.injEq, Sum.inl.injEq] at hs
    subst hs hn
    exact lv_dup hx hb hd (rv_cat1 (fun _ q => by cases q)) (kk H locs rl hr)
  · cases hs
theorem o18 (C : Cx p R s m args c dC dI cy a A y d cells slots) (hr : Rl dC dI cy a A s y ls σ H locs rl) (hd : decode (mB y) pc = .ok (rI pc 18 v k t tb)) (hn : nx = pc + (rI pc 18 v k t tb).2) (hsc : sc y 18 v k t tb = true) (hs : exe d nx 18 v k t tb ls st σ = some (.inl s'))
    (kk : ∀ H1 locs1 rl1, Rl dC dI cy a A s y s'.2.1 s'.2.2.2 H1 locs1 rl1 → W p l e R s m args below meth c H1 locs1 cells slots Q (F0 m s'.1 rl1 (s'.2.2.1.map (rv a)))) : W p l e R s m args below meth c H locs cells slots Q (F0 m pc rl (st.map (rv a))) := by
  obtain ⟨hx, hb, hml, hown, hts, hK, hR, hcs, hSX, hA, hy⟩ := C
  simp only [exe] at hs
  split at hs
  · rename_i y0 x0 r
    simp only [Option.some.injEq, Sum.inl.injEq] at hs
    subst hs hn
    have K := kk H locs rl hr
    exact lv_dup2_11 hx hb hd rfl (rv_cat1 (fun _ q => by cases q)) K
  · cases hs
theorem o19 (C : Cx p R s m args c dC dI cy a A y d cells slots) (hr : Rl dC dI cy a A s y ls σ H locs rl) (hd : decode (mB y) pc = .ok (rI pc 19 v k t tb)) (hn : nx = pc + (rI pc 19 v k t tb).2) (hsc : sc y 19 v k t tb = true) (hs : exe d nx 19 v k t tb ls st σ = some (.inl s'))
    (kk : ∀ H1 locs1 rl1, Rl dC dI cy a A s y s'.2.1 s'.2.2.2 H1 locs1 rl1 → W p l e R s m args below meth c H1 locs1 cells slots Q (F0 m s'.1 rl1 (s'.2.2.1.map (rv a)))) : W p l e R s m args below meth c H locs cells slots Q (F0 m pc rl (st.map (rv a))) := by
  obtain ⟨hx, hb, hml, hown, hts, hK, hR, hcs, hSX, hA, hy⟩ := C
  simp only [exe] at hs
  split at hs
  · rename_i x0 r
    simp only [Option.some.injEq, Sum.inl.injEq] at hs
    subst hn
    simp only [rI] at hd
    have ht : (pc : Int) + ((t : Int) - pc) = (t : Int) := by omega
    have KT : cnd k (w32 x0) 0 = true → W p l e R s m args below meth c H locs cells slots Q (F0 m t rl (r.map (rv a))) := by
      intro h
      rw [if_pos h] at hs
      subst hs
      exact kk H locs rl hr
    have KF : ¬ cnd k (w32 x0) 0 = true → W p l e R s m args below meth c H locs cells slots Q (F0 m (pc + 3) rl (r.map (rv a))) := by
      intro h
      rw [if_neg h] at hs
      subst hs
      exact kk H locs rl hr
    rcases (show k = 0 ∨ k = 1 ∨ k = 2 ∨ k = 3 ∨ k = 4 ∨ 4 < k by omega) with rfl | rfl | rfl | rfl | rfl | h
    · exact lv_if_eq hx hb hd ht (fun q => KT (by simp only [cnd, decide_eq_true_eq, ne_eq, w32, ← Int32.toInt_zero, Int32.toInt_inj]; exact q)) (fun q => KF (by simp only [cnd, decide_eq_true_eq, ne_eq, w32, ← Int32.toInt_zero, Int32.toInt_inj]; exact q))
    · exact lv_if_ne hx hb hd ht (fun q => KT (by simp only [cnd, decide_eq_true_eq, ne_eq, w32, ← Int32.toInt_zero, Int32.toInt_inj]; exact q)) (fun q => KF (by simp only [cnd, decide_eq_true_eq, ne_eq, w32, ← Int32.toInt_zero, Int32.toInt_inj]; exact fun q2 => q2 q))
    · exact lv_if_lt hx hb hd ht (fun q => KT (by simp only [cnd, decide_eq_true_eq, w32, ← Int32.toInt_zero, ← Int32.lt_iff_toInt_lt]; exact q)) (fun q => KF (by simp only [cnd, decide_eq_true_eq, w32, ← Int32.toInt_zero, ← Int32.lt_iff_toInt_lt]; exact q))
    · exact lv_if_ge hx hb hd ht (fun q => KT (by simp only [cnd, decide_eq_true_eq, w32, ← Int32.toInt_zero, ← Int32.le_iff_toInt_le]; exact q)) (fun q => KF (by simp only [cnd, decide_eq_true_eq, w32, ← Int32.toInt_zero, ← Int32.le_iff_toInt_le]; exact q))
    · exact lv_if_gt hx hb hd ht (fun q => KT (by simp only [cnd, decide_eq_true_eq, w32, ← Int32.toInt_zero, ← Int32.lt_iff_toInt_lt]; exact q)) (fun q => KF (by simp only [cnd, decide_eq_true_eq, w32, ← Int32.toInt_zero, ← Int32.lt_iff_toInt_lt]; exact q))
    · have hc : ∀ x y : Int, cnd k x y = decide (x ≤ y) := by
        intro x y; unfold cnd; split <;> first | omega | rfl
      rw [show rcd k = .le by unfold rcd; split <;> first | omega | rfl] at hd
      exact lv_if_le hx hb hd ht (fun q => KT (by simp only [hc, decide_eq_true_eq, w32, ← Int32.toInt_zero, ← Int32.le_iff_toInt_le]; exact q)) (fun q => KF (by simp only [hc, decide_eq_true_eq, w32, ← Int32.toInt_zero, ← Int32.le_iff_toInt_le]; exact q))
  · cases hs
theorem o20 (C : Cx p R s m args c dC dI cy a A y d cells slots) (hr : Rl dC dI cy a A s y ls σ H locs rl) (hd : decode (mB y) pc = .ok (rI pc 20 v k t tb)) (hn : nx = pc + (rI pc 20 v k t tb).2) (hsc : sc y 20 v k t tb = true) (hs : exe d nx 20 v k t tb ls st σ = some (.inl s'))
    (kk : ∀ H1 locs1 rl1, Rl dC dI cy a A s y s'.2.1 s'.2.2.2 H1 locs1 rl1 → W p l e R s m args below meth c H1 locs1 cells slots Q (F0 m s'.1 rl1 (s'.2.2.1.map (rv a)))) : W p l e R s m args below meth c H locs cells slots Q (F0 m pc rl (st.map (rv a))) := by
  obtain ⟨hx, hb, hml, hown, hts, hK, hR, hcs, hSX, hA, hy⟩ := C
  simp only [exe] at hs
  split at hs
  · rename_i y0 x0 r
    simp only [Option.some.injEq, Sum.inl.injEq] at hs
    subst hn
    simp only [rI] at hd
    have ht : (pc : Int) + ((t : Int) - pc) = (t : Int) := by omega
    have KT : cnd k (w32 x0) (w32 y0) = true → W p l e R s m args below meth c H locs cells slots Q (F0 m t rl (r.map (rv a))) := by
      intro h
      rw [if_pos h] at hs
      subst hs
      exact kk H locs rl hr
    have KF : ¬ cnd k (w32 x0) (w32 y0) = true → W p l e R s m args below meth c H locs cells slots Q (F0 m (pc + 3) rl (r.map (rv a))) := by
      intro h
      rw [if_neg h] at hs
      subst hs
      exact kk H locs rl hr
    rcases (show k = 0 ∨ k = 1 ∨ k = 2 ∨ k = 3 ∨ k = 4 ∨ 4 < k by omega) with rfl | rfl | rfl | rfl | rfl | h
    · exact lv_icmp_eq hx hb hd ht (fun q => KT (by simp only [cnd, decide_eq_true_eq, ne_eq, w32, Int32.toInt_inj]; exact q)) (fun q => KF (by simp only [cnd, decide_eq_true_eq, ne_eq, w32, Int32.toInt_inj]; exact q))
    · exact lv_icmp_ne hx hb hd ht (fun q => KT (by simp only [cnd, decide_eq_true_eq, ne_eq, w32, Int32.toInt_inj]; exact q)) (fun q => KF (by simp only [cnd, decide_eq_true_eq, ne_eq, w32, Int32.toInt_inj]; exact fun q2 => q2 q))
    · exact lv_icmp_lt hx hb hd ht (fun q => KT (by simp only [cnd, decide_eq_true_eq, w32, ← Int32.lt_iff_toInt_lt]; exact q)) (fun q => KF (by simp only [cnd, decide_eq_true_eq, w32, ← Int32.lt_iff_toInt_lt]; exact q))
    · exact lv_icmp_ge hx hb hd ht (fun q => KT (by simp only [cnd, decide_eq_true_eq, w32, ← Int32.le_iff_toInt_le]; exact q)) (fun q => KF (by simp only [cnd, decide_eq_true_eq, w32, ← Int32.le_iff_toInt_le]; exact q))
    · exact lv_icmp_gt hx hb hd ht (fun q => KT (by simp only [cnd, decide_eq_true_eq, w32, ← Int32.lt_iff_toInt_lt]; exact q)) (fun q => KF (by simp only [cnd, decide_eq_true_eq, w32, ← Int32.lt_iff_toInt_lt]; exact q))
    · have hc : ∀ x y : Int, cnd k x y = decide (x ≤ y) := by
        intro x y; unfold cnd; split <;> first | omega | rfl
      rw [show rcd k = .le by unfold rcd; split <;> first | omega | rfl] at hd
      exact lv_icmp_le hx hb hd ht (fun q => KT (by simp only [hc, decide_eq_true_eq, w32, ← Int32.le_iff_toInt_le]; exact q)) (fun q => KF (by simp only [hc, decide_eq_true_eq, w32, ← Int32.le_iff_toInt_le]; exact q))
  · cases hs
theorem o21 (C : Cx p R s m args c dC dI cy a A y d cells slots) (hr : Rl dC dI cy a A s y ls σ H locs rl) (hd : decode (mB y) pc = .ok (rI pc 21 v k t tb)) (hn : nx = pc + (rI pc 21 v k t tb).2) (hsc : sc y 21 v k t tb = true) (hs : exe d nx 21 v k t tb ls st σ = some (.inl s'))
    (kk : ∀ H1 locs1 rl1, Rl dC dI cy a A s y s'.2.1 s'.2.2.2 H1 locs1 rl1 → W p l e R s m args below meth c H1 locs1 cells slots Q (F0 m s'.1 rl1 (s'.2.2.1.map (rv a)))) : W p l e R s m args below meth c H locs cells slots Q (F0 m pc rl (st.map (rv a))) := by
  obtain ⟨hx, hb, hml, hown, hts, hK, hR, hcs, hSX, hA, hy⟩ := C
  simp only [exe] at hs
  simp only [Option.some.injEq, Sum.inl.injEq] at hs
  subst hs hn
  exact lv_goto hx hb hd (by omega) (kk H locs rl hr)
theorem o22 (C : Cx p R s m args c dC dI cy a A y d cells slots) (hr : Rl dC dI cy a A s y ls σ H locs rl) (hd : decode (mB y) pc = .ok (rI pc 22 v k t tb)) (hn : nx = pc + (rI pc 22 v k t tb).2) (hsc : sc y 22 v k t tb = true) (hs : exe d nx 22 v k t tb ls st σ = some (.inl s'))
    (kk : ∀ H1 locs1 rl1, Rl dC dI cy a A s y s'.2.1 s'.2.2.2 H1 locs1 rl1 → W p l e R s m args below meth c H1 locs1 cells slots Q (F0 m s'.1 rl1 (s'.2.2.1.map (rv a)))) : W p l e R s m args below meth c H locs cells slots Q (F0 m pc rl (st.map (rv a))) := by
  obtain ⟨hx, hb, hml, hown, hts, hK, hR, hcs, hSX, hA, hy⟩ := C
  simp only [exe] at hs
  split at hs
  · rename_i o r
    simp only [Option.some.injEq, Sum.inl.injEq] at hs
    subst hn
    have ht : (pc : Int) + ((t : Int) - pc) = (t : Int) := by omega
    by_cases ho : o = 0
    · rw [if_pos ho] at hs
      subst hs ho
      exact lv_ifnullN hx hb hd ht (kk H locs rl hr)
    · rw [if_neg ho] at hs
      subst hs
      have he : rv a (some (Sum.inr (Sum.inr o))) = .ref (a o) := by simp only [rv]; rw [if_neg ho]
      simp only [List.map_cons]
      rw [he]
      exact lv_ifnull hx hb hd (kk H locs rl hr)
  · cases hs
theorem o23 (C : Cx p R s m args c dC dI cy a A y d cells slots) (hr : Rl dC dI cy a A s y ls σ H locs rl) (hd : decode (mB y) pc = .ok (rI pc 23 v k t tb)) (hn : nx = pc + (rI pc 23 v k t tb).2) (hsc : sc y 23 v k t tb = true) (hs : exe d nx 23 v k t tb ls st σ = some (.inl s'))
    (kk : ∀ H1 locs1 rl1, Rl dC dI cy a A s y s'.2.1 s'.2.2.2 H1 locs1 rl1 → W p l e R s m args below meth c H1 locs1 cells slots Q (F0 m s'.1 rl1 (s'.2.2.1.map (rv a)))) : W p l e R s m args below meth c H locs cells slots Q (F0 m pc rl (st.map (rv a))) := by
  obtain ⟨hx, hb, hml, hown, hts, hK, hR, hcs, hSX, hA, hy⟩ := C
  simp only [exe] at hs
  split at hs
  · rename_i o r
    simp only [Option.some.injEq, Sum.inl.injEq] at hs
    subst hn
    have ht : (pc : Int) + ((t : Int) - pc) = (t : Int) := by omega
    by_cases ho : o = 0
    · rw [if_pos ho] at hs
      subst hs ho
      exact lv_ifnonnullN hx hb hd (kk H locs rl hr)
    · rw [if_neg ho] at hs
      subst hs
      have he : rv a (some (Sum.inr (Sum.inr o))) = .ref (a o) := by simp only [rv]; rw [if_neg ho]
      simp only [List.map_cons]
      rw [he]
      exact lv_ifnonnull hx hb hd ht (kk H locs rl hr)
  · cases hs
theorem o25 (C : Cx p R s m args c dC dI cy a A y d cells slots) (hr : Rl dC dI cy a A s y ls σ H locs rl) (hd : decode (mB y) pc = .ok (rI pc 25 v k t tb)) (hn : nx = pc + (rI pc 25 v k t tb).2) (hsc : sc y 25 v k t tb = true) (hs : exe d nx 25 v k t tb ls st σ = some (.inl s'))
    (kk : ∀ H1 locs1 rl1, Rl dC dI cy a A s y s'.2.1 s'.2.2.2 H1 locs1 rl1 → W p l e R s m args below meth c H1 locs1 cells slots Q (F0 m s'.1 rl1 (s'.2.2.1.map (rv a)))) : W p l e R s m args below meth c H locs cells slots Q (F0 m pc rl (st.map (rv a))) := by
  obtain ⟨hx, hb, hml, hown, hts, hK, hR, hcs, hSX, hA, hy⟩ := C
  simp only [exe] at hs
  obtain ⟨hP, hD, hS, hL⟩ := id hr
  split at hs
  · rename_i i o r
    split at hs
    rotate_left
    · cases hs
    rename_i hi
    simp only [Option.some.injEq, Sum.inl.injEq] at hs
    subst hs hn
    have K := kk H locs rl hr
    obtain ⟨N, hN, hi2⟩ := al_of hi
    obtain ⟨q0, hq0⟩ := kn_at hN (by decide)
    have ho := kn_ne0 hN (by decide)
    have he : rv a (some (Sum.inr (Sum.inr o))) = .ref (a o) := by simp only [rv]; rw [if_neg ho]
    simp only [List.map_cons]
    rw [he]
    refine va_iald hx hb hK hP q0 0 (wld_at hq0) ty_int (w32_in hi2) hd ?_
    have e1 : (((Int32.ofInt i).toNatClampNeg : Nat) : Int) = w32 i := by rw [w32_cl]; omega
    rw [e1]
    exact K
  · cases hs
theorem o26 (C : Cx p R s m args c dC dI cy a A y d cells slots) (hr : Rl dC dI cy a A s y ls σ H locs rl) (hd : decode (mB y) pc = .ok (rI pc 26 v k t tb)) (hn : nx = pc + (rI pc 26 v k t tb).2) (hsc : sc y 26 v k t tb = true) (hs : exe d nx 26 v k t tb ls st σ = some (.inl s'))
    (kk : ∀ H1 locs1 rl1, Rl dC dI cy a A s y s'.2.1 s'.2.2.2 H1 locs1 rl1 → W p l e R s m args below meth c H1 locs1 cells slots Q (F0 m s'.1 rl1 (s'.2.2.1.map (rv a)))) : W p l e R s m args below meth c H locs cells slots Q (F0 m pc rl (st.map (rv a))) := by
  obtain ⟨hx, hb, hml, hown, hts, hK, hR, hcs, hSX, hA, hy⟩ := C
  simp only [exe] at hs
  obtain ⟨hP, hD, hS, hL⟩ := id hr
  split at hs
  · rename_i i o r
    split at hs
    rotate_left
    · cases hs
    rename_i hi
    simp only [Option.some.injEq, Sum.inl.injEq] at hs
    subst hs hn
    have K := kk H locs rl hr
    obtain ⟨N, hN, hi2⟩ := al_of hi
    obtain ⟨q0, hq0⟩ := kn_at hN (by decide)
    have ho := kn_ne0 hN (by decide)
    have he : rv a (some (Sum.inr (Sum.inr o))) = .ref (a o) := by simp only [rv]; rw [if_neg ho]
    simp only [List.map_cons]
    rw [he]
    refine va_lald hx hb hK hP q0 1 (wld_at hq0) ty_long (w32_in hi2) hd ?_
    have e1 : (((Int32.ofInt i).toNatClampNeg : Nat) : Int) = w32 i := by rw [w32_cl]; omega
    rw [e1]
    exact K
  · cases hs
theorem o27 (C : Cx p R s m args c dC dI cy a A y d cells slots) (hr : Rl dC dI cy a A s y ls σ H locs rl) (hd : decode (mB y) pc = .ok (rI pc 27 v k t tb)) (hn : nx = pc + (rI pc 27 v k t tb).2) (hsc : sc y 27 v k t tb = true) (hs : exe d nx 27 v k t tb ls st σ = some (.inl s'))
    (kk : ∀ H1 locs1 rl1, Rl dC dI cy a A s y s'.2.1 s'.2.2.2 H1 locs1 rl1 → W p l e R s m args below meth c H1 locs1 cells slots Q (F0 m s'.1 rl1 (s'.2.2.1.map (rv a)))) : W p l e R s m args below meth c H locs cells slots Q (F0 m pc rl (st.map (rv a))) := by
  obtain ⟨hx, hb, hml, hown, hts, hK, hR, hcs, hSX, hA, hy⟩ := C
  simp only [exe] at hs
  obtain ⟨hP, hD, hS, hL⟩ := id hr
  split at hs
  · rename_i i o r
    split at hs
    rotate_left
    · cases hs
    rename_i hi
    simp only [Option.some.injEq, Sum.inl.injEq] at hs
    subst hs hn
    have K := kk H locs rl hr
    obtain ⟨N, hN, hi2⟩ := al_of hi
    obtain ⟨q0, hq0⟩ := kn_at hN (by decide)
    have ho := kn_ne0 hN (by decide)
    have he : rv a (some (Sum.inr (Sum.inr o))) = .ref (a o) := by simp only [rv]; rw [if_neg ho]
    simp only [List.map_cons]
    rw [he]
    refine va_zald hx hb hK hP q0 2 (wld_at hq0) ty_bool (w32_in hi2) hd ?_
    have e1 : (((Int32.ofInt i).toNatClampNeg : Nat) : Int) = w32 i := by rw [w32_cl]; omega
    rw [e1]
    exact K
  · cases hs
theorem o28 (C : Cx p R s m args c dC dI cy a A y d cells slots) (hr : Rl dC dI cy a A s y ls σ H locs rl) (hd : decode (mB y) pc = .ok (rI pc 28 v k t tb)) (hn : nx = pc + (rI pc 28 v k t tb).2) (hsc : sc y 28 v k t tb = true) (hs : exe d nx 28 v k t tb ls st σ = some (.inl s'))
    (kk : ∀ H1 locs1 rl1, Rl dC dI cy a A s y s'.2.1 s'.2.2.2 H1 locs1 rl1 → W p l e R s m args below meth c H1 locs1 cells slots Q (F0 m s'.1 rl1 (s'.2.2.1.map (rv a)))) : W p l e R s m args below meth c H locs cells slots Q (F0 m pc rl (st.map (rv a))) := by
  obtain ⟨hx, hb, hml, hown, hts, hK, hR, hcs, hSX, hA, hy⟩ := C
  simp only [exe] at hs
  obtain ⟨hP, hD, hS, hL⟩ := id hr
  split at hs
  · rename_i i o r
    split at hs
    rotate_left
    · cases hs
    rename_i hi
    simp only [Option.some.injEq, Sum.inl.injEq] at hs
    subst hs hn
    have K := kk H locs rl hr
    obtain ⟨N, hN, hi2⟩ := al_of hi
    obtain ⟨q0, hq0⟩ := kn_at hN (by decide)
    have ho := kn_ne0 hN (by decide)
    have he : rv a (some (Sum.inr (Sum.inr o))) = .ref (a o) := by simp only [rv]; rw [if_neg ho]
    simp only [List.map_cons]
    rw [he]
    refine va_aldq hx hb hK hP q0 3 (wld_at hq0) ty_ref (w32_in hi2) hd ?_
    have e1 : (((Int32.ofInt i).toNatClampNeg : Nat) : Int) = w32 i := by rw [w32_cl]; omega
    rw [e1]
    have K2 := K
    simp only [List.map_cons, rv] at K2
    by_cases h0 : (σ o (w32 i)).toNat = 0
    · rw [if_pos h0]
      rw [if_pos h0] at K2
      exact K2
    · rw [if_neg h0]
      rw [if_neg h0] at K2
      exact K2
  · cases hs
theorem o29 (C : Cx p R s m args c dC dI cy a A y d cells slots) (hr : Rl dC dI cy a A s y ls σ H locs rl) (hd : decode (mB y) pc = .ok (rI pc 29 v k t tb)) (hn : nx = pc + (rI pc 29 v k t tb).2) (hsc : sc y 29 v k t tb = true) (hs : exe d nx 29 v k t tb ls st σ = some (.inl s'))
    (kk : ∀ H1 locs1 rl1, Rl dC dI cy a A s y s'.2.1 s'.2.2.2 H1 locs1 rl1 → W p l e R s m args below meth c H1 locs1 cells slots Q (F0 m s'.1 rl1 (s'.2.2.1.map (rv a)))) : W p l e R s m args below meth c H locs cells slots Q (F0 m pc rl (st.map (rv a))) := by
  obtain ⟨hx, hb, hml, hown, hts, hK, hR, hcs, hSX, hA, hy⟩ := C
  simp only [exe] at hs
  obtain ⟨hP, hD, hS, hL⟩ := id hr
  split at hs
  · rename_i x i o r
    split at hs
    rotate_left
    · cases hs
    rename_i hi0
    have hi : 0 ≤ w32 i ∧ w32 i < al σ 1 o := hi0
    simp only [Option.some.injEq, Sum.inl.injEq] at hs
    subst hs hn
    obtain ⟨N, hN, hi2⟩ := al_of hi
    obtain ⟨q0, hq0⟩ := kn_at hN (by decide)
    have ho := kn_ne0 hN (by decide)
    have h16 := ne16 hN (by decide)
    have he : rv a (some (Sum.inr (Sum.inr o))) = .ref (a o) := by simp only [rv]; rw [if_neg ho]
    simp only [List.map_cons]
    rw [he]
    have e1 : (((Int32.ofInt i).toNatClampNeg : Nat) : Int) = w32 i := by rw [w32_cl]; omega
    have e2 : (.inl (cy 0, N, .inl (upd (fun i => Int32.ofInt (σ o i)) (Int32.ofInt i).toNatClampNeg (Int32.ofInt x))) : va_E) = ent a cy o (up σ o (w32 i) x o) (1, N) := by
      simp only [ent]
      congr 4
      funext j
      rw [up_at]
      by_cases hj : j = (Int32.ofInt i).toNatClampNeg
      · subst hj
        rw [e1]
        simp [upd]
      · rw [if_neg (fun q => hj (by omega))]
        simp [upd, hj]
    refine va_iast hx hb hK hP hD hS q0 0 (wld_at hq0) ty_int (w32_in hi2) hd (fun H1 locs1 hP1 hD1 hS1 => ?_)
    rw [e2, wld_set (kl_up h16) hq0 (fun k' hk => up_ne hk)] at hP1 hD1
    exact kk H1 locs1 rl ⟨hP1, hD1, hS1, hL⟩
  · cases hs
theorem o30 (C : Cx p R s m args c dC dI cy a A y d cells slots) (hr : Rl dC dI cy a A s y ls σ H locs rl) (hd : decode (mB y) pc = .ok (rI pc 30 v k t tb)) (hn : nx = pc + (rI pc 30 v k t tb).2) (hsc : sc y 30 v k t tb = true) (hs : exe d nx 30 v k t tb ls st σ = some (.inl s'))
    (kk : ∀ H1 locs1 rl1, Rl dC dI cy a A s y s'.2.1 s'.2.2.2 H1 locs1 rl1 → W p l e R s m args below meth c H1 locs1 cells slots Q (F0 m s'.1 rl1 (s'.2.2.1.map (rv a)))) : W p l e R s m args below meth c H locs cells slots Q (F0 m pc rl (st.map (rv a))) := by
  obtain ⟨hx, hb, hml, hown, hts, hK, hR, hcs, hSX, hA, hy⟩ := C
  simp only [exe] at hs
  obtain ⟨hP, hD, hS, hL⟩ := id hr
  split at hs
  · rename_i x i o r
    split at hs
    rotate_left
    · cases hs
    rename_i hi0
    have hi : 0 ≤ w32 i ∧ w32 i < al σ 2 o := hi0
    simp only [Option.some.injEq, Sum.inl.injEq] at hs
    subst hs hn
    obtain ⟨N, hN, hi2⟩ := al_of hi
    obtain ⟨q0, hq0⟩ := kn_at hN (by decide)
    have ho := kn_ne0 hN (by decide)
    have h16 := ne16 hN (by decide)
    have he : rv a (some (Sum.inr (Sum.inr o))) = .ref (a o) := by simp only [rv]; rw [if_neg ho]
    simp only [List.map_cons]
    rw [he]
    have e1 : (((Int32.ofInt i).toNatClampNeg : Nat) : Int) = w32 i := by rw [w32_cl]; omega
    have e2 : (.inl (cy 1, N, .inr (.inl (vp_updL (fun i => Int64.ofInt (σ o i)) (Int32.ofInt i).toNatClampNeg (Int64.ofInt x)))) : va_E) = ent a cy o (up σ o (w32 i) x o) (2, N) := by
      simp only [ent]
      congr 5
      funext j
      rw [up_at]
      by_cases hj : j = (Int32.ofInt i).toNatClampNeg
      · subst hj
        rw [e1]
        simp [vp_updL]
      · rw [if_neg (fun q => hj (by omega))]
        simp [vp_updL, hj]
    refine va_last hx hb hK hP hD hS q0 1 (wld_at hq0) ty_long (w32_in hi2) hd (fun H1 locs1 hP1 hD1 hS1 => ?_)
    rw [e2, wld_set (kl_up h16) hq0 (fun k' hk => up_ne hk)] at hP1 hD1
    exact kk H1 locs1 rl ⟨hP1, hD1, hS1, hL⟩
  · cases hs
theorem o31 (C : Cx p R s m args c dC dI cy a A y d cells slots) (hr : Rl dC dI cy a A s y ls σ H locs rl) (hd : decode (mB y) pc = .ok (rI pc 31 v k t tb)) (hn : nx = pc + (rI pc 31 v k t tb).2) (hsc : sc y 31 v k t tb = true) (hs : exe d nx 31 v k t tb ls st σ = some (.inl s'))
    (kk : ∀ H1 locs1 rl1, Rl dC dI cy a A s y s'.2.1 s'.2.2.2 H1 locs1 rl1 → W p l e R s m args below meth c H1 locs1 cells slots Q (F0 m s'.1 rl1 (s'.2.2.1.map (rv a)))) : W p l e R s m args below meth c H locs cells slots Q (F0 m pc rl (st.map (rv a))) := by
  obtain ⟨hx, hb, hml, hown, hts, hK, hR, hcs, hSX, hA, hy⟩ := C
  simp only [exe] at hs
  obtain ⟨hP, hD, hS, hL⟩ := id hr
  split at hs
  · rename_i x i o r
    split at hs
    rotate_left
    · cases hs
    rename_i hi0
    have hi : 0 ≤ w32 i ∧ w32 i < al σ 3 o := hi0.1
    simp only [Option.some.injEq, Sum.inl.injEq] at hs
    subst hs hn
    obtain ⟨N, hN, hi2⟩ := al_of hi
    obtain ⟨q0, hq0⟩ := kn_at hN (by decide)
    have ho := kn_ne0 hN (by decide)
    have h16 := ne16 hN (by decide)
    have he : rv a (some (Sum.inr (Sum.inr o))) = .ref (a o) := by simp only [rv]; rw [if_neg ho]
    simp only [List.map_cons]
    rw [he]
    have e1 : (((Int32.ofInt i).toNatClampNeg : Nat) : Int) = w32 i := by rw [w32_cl]; omega
    have e2 : (.inl (cy 2, N, .inl (upd (fun i => Int32.ofInt (σ o i)) (Int32.ofInt i).toNatClampNeg (Int32.ofInt x))) : va_E) = ent a cy o (up σ o (w32 i) x o) (3, N) := by
      simp only [ent]
      congr 4
      funext j
      rw [up_at]
      by_cases hj : j = (Int32.ofInt i).toNatClampNeg
      · subst hj
        rw [e1]
        simp [upd]
      · rw [if_neg (fun q => hj (by omega))]
        simp [upd, hj]
    refine va_zast hx hb hK hP hD hS q0 2 (wld_at hq0) ty_bool (w32_in hi2) hd (fun H1 locs1 hP1 hD1 hS1 => ?_)
    rw [show vp_nar .boolean (Int32.ofInt x) = Int32.ofInt x by rcases hi0.2 with rfl | rfl <;> decide] at hP1 hD1
    rw [e2, wld_set (kl_up h16) hq0 (fun k' hk => up_ne hk)] at hP1 hD1
    exact kk H1 locs1 rl ⟨hP1, hD1, hS1, hL⟩
  · cases hs
theorem o32 (C : Cx p R s m args c dC dI cy a A y d cells slots) (hr : Rl dC dI cy a A s y ls σ H locs rl) (hd : decode (mB y) pc = .ok (rI pc 32 v k t tb)) (hn : nx = pc + (rI pc 32 v k t tb).2) (hsc : sc y 32 v k t tb = true) (hs : exe d nx 32 v k t tb ls st σ = some (.inl s'))
    (kk : ∀ H1 locs1 rl1, Rl dC dI cy a A s y s'.2.1 s'.2.2.2 H1 locs1 rl1 → W p l e R s m args below meth c H1 locs1 cells slots Q (F0 m s'.1 rl1 (s'.2.2.1.map (rv a)))) : W p l e R s m args below meth c H locs cells slots Q (F0 m pc rl (st.map (rv a))) := by
  obtain ⟨hx, hb, hml, hown, hts, hK, hR, hcs, hSX, hA, hy⟩ := C
  simp only [exe] at hs
  obtain ⟨hP, hD, hS, hL⟩ := id hr
  split at hs
  · rename_i o r
    split at hs
    rotate_left
    · cases hs
    rename_i hi
    simp only [Option.some.injEq, Sum.inl.injEq] at hs
    subst hs hn
    have K := kk H locs rl hr
    rcases hi with hi | hi
    · have hN : kn σ o = (1, (kn σ o).2) := by rw [← hi]
      obtain ⟨q0, hq0⟩ := kn_at hN (by decide)
      have ho := kn_ne0 hN (by decide)
      have he : rv a (some (Sum.inr (Sum.inr o))) = .ref (a o) := by simp only [rv]; rw [if_neg ho]
      simp only [List.map_cons]
      rw [he]
      exact va_alen hx hb hK hP q0 0 (wld_at hq0) ty_int (v := Int32.ofInt ((kn σ o).2 : Int)) (by simp [Int32.ofInt_eq_ofNat]) hd K
    · have hN : kn σ o = (2, (kn σ o).2) := by rw [← hi]
      obtain ⟨q0, hq0⟩ := kn_at hN (by decide)
      have ho := kn_ne0 hN (by decide)
      have he : rv a (some (Sum.inr (Sum.inr o))) = .ref (a o) := by simp only [rv]; rw [if_neg ho]
      simp only [List.map_cons]
      rw [he]
      exact va_alen hx hb hK hP q0 1 (wld_at hq0) ty_long (v := Int32.ofInt ((kn σ o).2 : Int)) (by simp [Int32.ofInt_eq_ofNat]) hd K
  · cases hs
theorem vcl {k : Nat} (h : k < 7) : vwCl[k]? = some (cN k, Tc k, nS k) := by
  rcases (show k = 0 ∨ k = 1 ∨ k = 2 ∨ k = 3 ∨ k = 4 ∨ k = 5 ∨ k = 6 by omega) with rfl | rfl | rfl | rfl | rfl | rfl | rfl <;> rfl
theorem uw0 : ∀ w ∈ u_ws RX0 TX0 12, w ∈ lw_tbl ∧ goodWord w = true := by decide +kernel
theorem uw1 : ∀ w ∈ u_ws RX1 TX1 11, w ∈ lw_tbl ∧ goodWord w = true := by decide +kernel
theorem uw2 : ∀ w ∈ u_ws RX2 TX2 4, w ∈ lw_tbl ∧ goodWord w = true := by decide +kernel
theorem uw3 : ∀ w ∈ u_ws RX3 TX3 5, w ∈ lw_tbl ∧ goodWord w = true := by decide +kernel
theorem uw4 : ∀ w ∈ u_ws RX4 TX4 13, w ∈ lw_tbl ∧ goodWord w = true := by decide +kernel
theorem uw5 : ∀ w ∈ u_ws RX5 TX5 15, w ∈ lw_tbl ∧ goodWord w = true := by decide +kernel
theorem uw6 : ∀ w ∈ u_ws RX6 TX6 29, w ∈ lw_tbl ∧ goodWord w = true := by decide +kernel
theorem uws_in {k : Nat} (h : k < 7) : ∀ w ∈ u_ws (cN k) (Tc k) (nS k), w ∈ lwg := by
  intro w hw
  have h2 : w ∈ lw_tbl ∧ goodWord w = true := by
    rcases (show k = 0 ∨ k = 1 ∨ k = 2 ∨ k = 3 ∨ k = 4 ∨ k = 5 ∨ k = 6 by omega) with rfl | rfl | rfl | rfl | rfl | rfl | rfl
    · exact uw0 w hw
    · exact uw1 w hw
    · exact uw2 w hw
    · exact uw3 w hw
    · exact uw4 w hw
    · exact uw5 w hw
    · exact uw6 w hw
  exact lwg_of h2.1 h2.2
theorem tyc_ok {k : Nat} (h : k < 7) : ∀ j, j < nS k → parseFieldDescriptor (Tc k j).2.2.1 = some (tyc k j) := by
  rcases (show k = 0 ∨ k = 1 ∨ k = 2 ∨ k = 3 ∨ k = 4 ∨ k = 5 ∨ k = 6 by omega) with rfl | rfl | rfl | rfl | rfl | rfl | rfl
  · exact tyX0_ok
  · exact tyX1_ok
  · exact tyX2_ok
  · exact tyX3_ok
  · exact tyX4_ok
  · exact tyX5_ok
  · exact tyX6_ok
theorem nm_ok {k : Nat} (h : k < 7) : ∀ i, i < nS k → ∀ j, j < nS k → i ≠ j → (Tc k i).2.1 ≠ (Tc k j).2.1 := by
  rcases (show k = 0 ∨ k = 1 ∨ k = 2 ∨ k = 3 ∨ k = 4 ∨ k = 5 ∨ k = 6 by omega) with rfl | rfl | rfl | rfl | rfl | rfl | rfl
  · exact nmX0
  · exact nmX1
  · exact nmX2
  · exact nmX3
  · exact nmX4
  · exact nmX5
  · exact nmX6
theorem fty : ∀ k ∈ List.range 7, ∀ t ∈ List.range (nS k), (sT k t = 0 → tyc k t = .int ∧ (Tc k t).2.2.2 = false) ∧ (sT k t = 1 → tyc k t = .long ∧ (Tc k t).2.2.2 = false) ∧ (sT k t = 3 → tyc k t = .object "RolledStones$Field" ∧ (Tc k t).2.2.2 = false) := by decide +kernel
theorem fty_at {k t : Nat} (hk : k < 7) (ht : t < nS k) : (sT k t = 0 → tyc k t = .int ∧ (Tc k t).2.2.2 = false) ∧ (sT k t = 1 → tyc k t = .long ∧ (Tc k t).2.2.2 = false) ∧ (sT k t = 3 → tyc k t = .object "RolledStones$Field" ∧ (Tc k t).2.2.2 = false) := fty k (List.mem_range.mpr hk) t (List.mem_range.mpr ht)
theorem fv_eq {σ : Sg} {o k t : Nat} {a : Nat → Nat} (h : kn σ o = (0, k)) (ht : t < nS k) : svl a o (σ o) k t = rv a (fvl σ o k t) := by
  rcases (show sT k t = 0 ∨ sT k t = 1 ∨ sT k t = 2 ∨ 2 < sT k t by omega) with e | e | e | e
  · simp only [svl, fvl, e, rv]
  · simp only [svl, fvl, e, rv]
  · have := (kn_obj h).2 t ht e
    simp only [svl, fvl, e, rv]
    rw [if_neg this]
  · obtain ⟨n, hn⟩ : ∃ n, sT k t = n + 3 := ⟨sT k t - 3, by omega⟩
    simp only [svl, fvl, hn, rv]
theorem fs_at {f : Int → Int} {o k t : Nat} {a : Nat → Nat} (ht : t < nS k) : ((List.range (nS k)).map (svl a o f k))[t]? = some (svl a o f k t) := by
  rw [List.getElem?_map, List.getElem?_range ht]; rfl
theorem fs_set {σ : Sg} {o k t : Nat} {x : Int} {a : Nat → Nat} {v' : Value} (ht : t < nS k) (hv : svl a o (up σ o t x o) k t = v') : ((List.range (nS k)).map (svl a o (σ o) k)).set t v' = (List.range (nS k)).map (svl a o (up σ o t x o) k) := by
  apply List.ext_getElem?
  intro i
  by_cases hi : i = t
  · subst hi
    rw [List.getElem?_set_self (by simpa using ht), fs_at ht, hv]
  · rw [List.getElem?_set_ne (Ne.symm hi)]
    by_cases hlt : i < nS k
    · rw [fs_at hlt, fs_at hlt]
      have e : up σ o t x o i = σ o i := by rw [up_at, if_neg (by omega)]
      simp only [svl, e]
    · rw [List.getElem?_eq_none (by simpa using hlt), List.getElem?_eq_none (by simpa using hlt)]
theorem cats {a : Nat → Nat} : ∀ (r : List AV), ((r.map (rv a)).map fun v => v.category).sum ≤ 2 * r.length := by
  intro r
  induction r with
  | nil => simp
  | cons x r ih =>
    have h1 : (rv a x).category ≤ 2 := by rcases lv_cat (rv a x) with h | h <;> omega
    simp only [List.map_cons, List.sum_cons, List.length_cons]
    omega
theorem o33 (C : Cx p R s m args c dC dI cy a A y d cells slots) (hr : Rl dC dI cy a A s y ls σ H locs rl) (hd : decode (mB y) pc = .ok (rI pc 33 v k t tb)) (hn : nx = pc + (rI pc 33 v k t tb).2) (hsc : sc y 33 v k t tb = true) (hs : exe d nx 33 v k t tb ls st σ = some (.inl s'))
    (kk : ∀ H1 locs1 rl1, Rl dC dI cy a A s y s'.2.1 s'.2.2.2 H1 locs1 rl1 → W p l e R s m args below meth c H1 locs1 cells slots Q (F0 m s'.1 rl1 (s'.2.2.1.map (rv a)))) : W p l e R s m args below meth c H locs cells slots Q (F0 m pc rl (st.map (rv a))) := by
  obtain ⟨hx, hb, hml, hown, hts, hK, hR, hcs, hSX, hA, hy⟩ := C
  simp only [exe] at hs
  obtain ⟨hP, hD, hS, hL⟩ := id hr
  simp only [sc, Bool.and_eq_true, decide_eq_true_eq] at hsc
  obtain ⟨hm, hk7, htn⟩ := hsc
  split at hs
  · rename_i o r
    split at hs
    rotate_left
    · cases hs
    rename_i hN
    simp only [Option.some.injEq, Sum.inl.injEq] at hs
    subst hs hn
    have K := kk H locs rl hr
    obtain ⟨q0, hq0⟩ := kn_at hN (by decide)
    have ho := kn_ne0 hN (by decide)
    have he : rv a (some (Sum.inr (Sum.inr o))) = .ref (a o) := by simp only [rv]; rw [if_neg ho]
    simp only [List.map_cons]
    rw [he]
    have hw := wdF_in _ (List.mem_map.mpr ⟨_, (by simpa using hm : (mO y, v.toNat, k, t) ∈ fLl), rfl⟩)
    have K2 := K
    simp only [List.map_cons] at K2
    rw [← fv_eq hN htn] at K2
    exact va_get hx hb hts (uws_in hk7) hown hK hP q0 (wld_at hq0) (vcl hk7) t htn (hts _ (lwg_of hw rfl)) (fun _ h => h) (fs_at htn) hd K2
  · cases hs
theorem o34 (C : Cx p R s m args c dC dI cy a A y d cells slots) (hr : Rl dC dI cy a A s y ls σ H locs rl) (hd : decode (mB y) pc = .ok (rI pc 34 v k t tb)) (hn : nx = pc + (rI pc 34 v k t tb).2) (hsc : sc y 34 v k t tb = true) (hs : exe d nx 34 v k t tb ls st σ = some (.inl s'))
    (kk : ∀ H1 locs1 rl1, Rl dC dI cy a A s y s'.2.1 s'.2.2.2 H1 locs1 rl1 → W p l e R s m args below meth c H1 locs1 cells slots Q (F0 m s'.1 rl1 (s'.2.2.1.map (rv a)))) : W p l e R s m args below meth c H locs cells slots Q (F0 m pc rl (st.map (rv a))) := by
  obtain ⟨hx, hb, hml, hown, hts, hK, hR, hcs, hSX, hA, hy⟩ := C
  simp only [exe] at hs
  obtain ⟨hP, hD, hS, hL⟩ := id hr
  simp only [sc, Bool.and_eq_true, decide_eq_true_eq] at hsc
  obtain ⟨hm, hk7, htn⟩ := hsc
  split at hs
  · rename_i x o r
    split at hs
    rotate_left
    · cases hs
    rename_i hN0
    obtain ⟨hN, hT⟩ := hN0
    simp only [Option.some.injEq, Sum.inl.injEq] at hs
    subst hs hn
    obtain ⟨q0, hq0⟩ := kn_at hN (by decide)
    have ho := kn_ne0 hN (by decide)
    have h16 := ne16 hN (by decide)
    have he : rv a (some (Sum.inr (Sum.inr o))) = .ref (a o) := by simp only [rv]; rw [if_neg ho]
    have hw := wdF_in _ (List.mem_map.mpr ⟨_, (by simpa using hm : (mO y, v.toNat, k, t) ∈ fLl), rfl⟩)
    obtain ⟨g1, g2⟩ := (fty_at hk7 htn).1 hT
    have hty := tyc_ok hk7 t htn
    rw [g1] at hty
    have hv : svl a o (up σ o t x o) k t = rv a (vI x) := by
      simp only [svl, hT, up_at, if_true]
      rfl
    simp only [List.map_cons]
    rw [he]
    refine va_put hx hb hts (uws_in hk7) (tyc k) (tyc_ok hk7) (nm_ok hk7) hown hK hP hD hS q0 (wld_at hq0) (vcl hk7) t htn (hts _ (lwg_of hw rfl)) (fun _ h => h) g2 hty rfl rfl (by simpa using htn) hd (fun H1 locs1 hP1 hD1 hS1 => ?_)
    rw [fs_set htn hv] at hP1 hD1
    have e2 := wld_set (a := a) (cy := cy) (kl_up (i := t) (v := x) h16) hq0 (fun k' hk => up_ne hk)
    simp only [ent] at e2
    rw [e2] at hP1 hD1
    exact kk H1 locs1 rl ⟨hP1, hD1, hS1, hL⟩
  · rename_i x o r
    split at hs
    rotate_left
    · cases hs
    rename_i hN0
    obtain ⟨hN, hT⟩ := hN0
    simp only [Option.some.injEq, Sum.inl.injEq] at hs
    subst hs hn
    obtain ⟨q0, hq0⟩ := kn_at hN (by decide)
    have ho := kn_ne0 hN (by decide)
    have h16 := ne16 hN (by decide)
    have he : rv a (some (Sum.inr (Sum.inr o))) = .ref (a o) := by simp only [rv]; rw [if_neg ho]
    have hw := wdF_in _ (List.mem_map.mpr ⟨_, (by simpa using hm : (mO y, v.toNat, k, t) ∈ fLl), rfl⟩)
    obtain ⟨g1, g2⟩ := (fty_at hk7 htn).2.1 hT
    have hty := tyc_ok hk7 t htn
    rw [g1] at hty
    have hv : svl a o (up σ o t x o) k t = rv a (vL x) := by
      simp only [svl, hT, up_at, if_true]
      rfl
    simp only [List.map_cons]
    rw [he]
    refine va_put hx hb hts (uws_in hk7) (tyc k) (tyc_ok hk7) (nm_ok hk7) hown hK hP hD hS q0 (wld_at hq0) (vcl hk7) t htn (hts _ (lwg_of hw rfl)) (fun _ h => h) g2 hty rfl rfl (by simpa using htn) hd (fun H1 locs1 hP1 hD1 hS1 => ?_)
    rw [fs_set htn hv] at hP1 hD1
    have e2 := wld_set (a := a) (cy := cy) (kl_up (i := t) (v := x) h16) hq0 (fun k' hk => up_ne hk)
    simp only [ent] at e2
    rw [e2] at hP1 hD1
    exact kk H1 locs1 rl ⟨hP1, hD1, hS1, hL⟩
  · rename_i x o r
    split at hs
    rotate_left
    · cases hs
    rename_i hN0
    obtain ⟨hN, hT⟩ := hN0
    simp only [Option.some.injEq, Sum.inl.injEq] at hs
    subst hs hn
    obtain ⟨q0, hq0⟩ := kn_at hN (by decide)
    have ho := kn_ne0 hN (by decide)
    have h16 := ne16 hN (by decide)
    have he : rv a (some (Sum.inr (Sum.inr o))) = .ref (a o) := by simp only [rv]; rw [if_neg ho]
    have hw := wdF_in _ (List.mem_map.mpr ⟨_, (by simpa using hm : (mO y, v.toNat, k, t) ∈ fLl), rfl⟩)
    obtain ⟨g1, g2⟩ := (fty_at hk7 htn).2.2 hT
    have hty := tyc_ok hk7 t htn
    rw [g1] at hty
    have hv : svl a o (up σ o t x o) k t = rv a (vR x) := by
      simp only [svl, hT, up_at, if_true]
      simp only [rv, Int.toNat_natCast]
    simp only [List.map_cons]
    rw [he]
    refine va_put hx hb hts (uws_in hk7) (tyc k) (tyc_ok hk7) (nm_ok hk7) hown hK hP hD hS q0 (wld_at hq0) (vcl hk7) t htn (hts _ (lwg_of hw rfl)) (fun _ h => h) g2 hty (by simp only [rv]; split <;> rfl) (by simp only [rv]; split <;> rfl) (by simpa using htn) hd (fun H1 locs1 hP1 hD1 hS1 => ?_)
    rw [fs_set htn hv] at hP1 hD1
    have e2 := wld_set (a := a) (cy := cy) (kl_up (i := t) (v := x) h16) hq0 (fun k' hk => up_ne hk)
    simp only [ent] at e2
    rw [e2] at hP1 hD1
    exact kk H1 locs1 rl ⟨hP1, hD1, hS1, hL⟩
  · cases hs
theorem o38 (C : Cx p R s m args c dC dI cy a A y d cells slots) (hr : Rl dC dI cy a A s y ls σ H locs rl) (hd : decode (mB y) pc = .ok (rI pc 38 v k t tb)) (hn : nx = pc + (rI pc 38 v k t tb).2) (hsc : sc y 38 v k t tb = true) (hs : exe d nx 38 v k t tb ls st σ = some (.inl s'))
    (kk : ∀ H1 locs1 rl1, Rl dC dI cy a A s y s'.2.1 s'.2.2.2 H1 locs1 rl1 → W p l e R s m args below meth c H1 locs1 cells slots Q (F0 m s'.1 rl1 (s'.2.2.1.map (rv a)))) : W p l e R s m args below meth c H locs cells slots Q (F0 m pc rl (st.map (rv a))) := by
  obtain ⟨hx, hb, hml, hown, hts, hK, hR, hcs, hSX, hA, hy⟩ := C
  simp only [exe] at hs
  simp only [Option.some.injEq, Sum.inl.injEq] at hs
  subst hs hn
  have K := kk H locs rl hr
  simp only [sc, decide_eq_true_eq] at hsc
  obtain ⟨h3, hvk⟩ := hsc
  rw [h3] at hown
  rcases hvk with ⟨rfl, rfl⟩ | ⟨rfl, rfl⟩
  · exact va_ldcS hx hb hown hSX.1 hd K
  · exact va_ldcS hx hb hown hSX.2.1 hd K
theorem o43 (C : Cx p R s m args c dC dI cy a A y d cells slots) (hr : Rl dC dI cy a A s y ls σ H locs rl) (hd : decode (mB y) pc = .ok (rI pc 43 v k t tb)) (hn : nx = pc + (rI pc 43 v k t tb).2) (hsc : sc y 43 v k t tb = true) (hs : exe d nx 43 v k t tb ls st σ = some (.inl s'))
    (kk : ∀ H1 locs1 rl1, Rl dC dI cy a A s y s'.2.1 s'.2.2.2 H1 locs1 rl1 → W p l e R s m args below meth c H1 locs1 cells slots Q (F0 m s'.1 rl1 (s'.2.2.1.map (rv a)))) : W p l e R s m args below meth c H locs cells slots Q (F0 m pc rl (st.map (rv a))) := by
  obtain ⟨hx, hb, hml, hown, hts, hK, hR, hcs, hSX, hA, hy⟩ := C
  simp only [exe] at hs
  obtain ⟨hP, hD, hS, hL⟩ := id hr
  split at hs
  · rename_i y0 x0 r
    split at hs
    rotate_left
    · cases hs
    rename_i h7
    simp only [Option.some.injEq, Sum.inl.injEq] at hs
    subst hs hn
    have K := kk H locs rl hr
    have hm : (mO y, v.toNat) ∈ xLl := by simpa [sc] using hsc
    have hw := wdX_in _ (List.mem_map.mpr ⟨_, hm, rfl⟩)
    have hcat := cats (a := a) r
    refine va_mmax hx hb (by rw [hml]; exact hL.2.1.symm) hown (hts _ (lwg_of hw rfl)) (hts _ (lwg_of (wMx _ (by simp)) rfl)) (hts _ (lwg_of (wMx _ (by simp)) rfl)) (hts _ (lwg_of wMx2 rfl)) (by have := hR.1; omega) (by have := hR.2; omega) hcs.1 hcs.2 hd ?_
    have e1 : (if Int32.ofInt x0 < Int32.ofInt y0 then Int32.ofInt y0 else Int32.ofInt x0) = Int32.ofInt (if w32 x0 < w32 y0 then y0 else x0) := by
      by_cases h : w32 x0 < w32 y0
      · rw [if_pos (Int32.lt_iff_toInt_lt.mpr h), if_pos h]
      · rw [if_neg (fun q => h (Int32.lt_iff_toInt_lt.mp q)), if_neg h]
    rw [e1]
    exact K
  · cases hs
theorem o44 (C : Cx p R s m args c dC dI cy a A y d cells slots) (hr : Rl dC dI cy a A s y ls σ H locs rl) (hd : decode (mB y) pc = .ok (rI pc 44 v k t tb)) (hn : nx = pc + (rI pc 44 v k t tb).2) (hsc : sc y 44 v k t tb = true) (hs : exe d nx 44 v k t tb ls st σ = some (.inl s'))
    (kk : ∀ H1 locs1 rl1, Rl dC dI cy a A s y s'.2.1 s'.2.2.2 H1 locs1 rl1 → W p l e R s m args below meth c H1 locs1 cells slots Q (F0 m s'.1 rl1 (s'.2.2.1.map (rv a)))) : W p l e R s m args below meth c H locs cells slots Q (F0 m pc rl (st.map (rv a))) := by
  obtain ⟨hx, hb, hml, hown, hts, hK, hR, hcs, hSX, hA, hy⟩ := C
  simp only [exe] at hs
  obtain ⟨hP, hD, hS, hL⟩ := id hr
  split at hs
  · rename_i y0 x0 r
    split at hs
    rotate_left
    · cases hs
    rename_i h7
    simp only [Option.some.injEq, Sum.inl.injEq] at hs
    subst hs hn
    have K := kk H locs rl hr
    have hm : (mO y, v.toNat) ∈ nLl := by simpa [sc] using hsc
    have hw := wdN_in _ (List.mem_map.mpr ⟨_, hm, rfl⟩)
    have hcat := cats (a := a) r
    refine va_mmin hx hb (by rw [hml]; exact hL.2.1.symm) hown (hts _ (lwg_of hw rfl)) (hts _ (lwg_of (wMx _ (by simp)) rfl)) (hts _ (lwg_of (wMx _ (by simp)) rfl)) (hts _ (lwg_of wMn2 rfl)) (by have := hR.1; omega) (by have := hR.2; omega) hcs.1 hcs.2 hd ?_
    have e1 : (if Int32.ofInt y0 < Int32.ofInt x0 then Int32.ofInt y0 else Int32.ofInt x0) = Int32.ofInt (if w32 y0 < w32 x0 then y0 else x0) := by
      by_cases h : w32 y0 < w32 x0
      · rw [if_pos (Int32.lt_iff_toInt_lt.mpr h), if_pos h]
      · rw [if_neg (fun q => h (Int32.lt_iff_toInt_lt.mp q)), if_neg h]
    rw [e1]
    exact K
  · cases hs
end OPS
