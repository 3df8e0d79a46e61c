/-! Constructors: what they need, and their steps. -/
def NW (U : State) : Prop := va_Nw (.methodLinkNest RX0 36 yX2_init RX5) U ∧ va_Nw (.methodLinkNest RX5 26 yX4_init RX5) U ∧ va_Nw (.methodLinkNest RX5 33 yX2_init RX5) U ∧ va_Nw (.methodLinkNest RX5 61 yX3_init RX5) U ∧ va_Nw (.methodLinkNest RX5 68 yX1_init RX5) U ∧ va_AO RX0 U
theorem NW.warm {s U : State} (h : NW s) (hW : s.WarmedH U.vm) : NW U := by
  obtain ⟨h1, h2, h3, h4, h5, h6⟩ := h
  exact ⟨va_Nw.warmM hW h1, va_Nw.warmM hW h2, va_Nw.warmM hW h3, va_Nw.warmM hW h4, va_Nw.warmM hW h5, va_AO.moved hW.alike h6⟩
theorem NW.same {s U : State} (h : NW s) (hv : s.vm = U.vm) : NW U := by
  obtain ⟨h1, h2, h3, h4, h5, h6⟩ := h
  exact ⟨va_Nw.same rfl hv h1, va_Nw.same rfl hv h2, va_Nw.same rfl hv h3, va_Nw.same rfl hv h4, va_Nw.same rfl hv h5, va_AO.moved (by rw [hv]; exact Vm.Alike.refl _) h6⟩
def Ci (p : Program) (s : State) (m : MethodId) (args : Array Value) (meth : Method) (c : Code) (dC : Nat → ClassId) (dI : Nat → Nat → Nat) (cy : Nat → ClassId) (A : Nat → Prop) (k : Nat) (cc : ByteArray) (n : Nat) : Prop :=
  p.tables.exec = Jvm.exec ∧ c.code = cc ∧ c.maxLocals = n ∧ s.vm.findClass (cN k) = some m.cls ∧ (∀ w ∈ lwg, w.before args s = true) ∧ va_K (dC, dI) vwCl (tys cy) s ∧ NW s ∧ meth.name = "<init>" ∧ (∀ q, s.heap.size ≤ q → A q)
theorem RA_eq {U : State} {c1 c2 : ClassId} {ty : FieldType} (h1 : va_RA U c1 ty) (h2 : va_RA U c2 ty) : c1 = c2 := by
  cases ty with
  | object C =>
    obtain ⟨-, -, -, -, -, e1⟩ := h1
    obtain ⟨-, -, -, -, -, e2⟩ := h2
    exact Option.some.inj (e1.symm.trans e2)
  | _ => exact Option.some.inj (Eq.trans (Eq.symm h1) h2)
theorem K_last {dC : Nat → ClassId} {dI : Nat → Nat → Nat} {cy : Nat → ClassId} {s : State} {u : Nat} {cA cc : ClassId} {ty : FieldType} (hK : va_K (dC, dI) vwCl (tys cy ++ [(cA, ty)]) s) (hu : (tys cy)[u]? = some (cc, ty)) (hu4 : u < 4) : cA = cc := by
  have h1 := (hK.2 4 (cA, ty) rfl).2
  have h2 := (hK.2 u (cc, ty) (by rw [List.getElem?_append_left (by simpa [tys] using hu4)]; exact hu)).2
  exact RA_eq h1 h2
section CTOR
variable {p : Program} {l : Launch} {e : Env} {R : Room} {s : State} {m : MethodId} {args : Array Value} {below : List Frame} {meth : Method} {c : Code} {H : Heap} {locs : List Loc} {cells slots : Nat} {Q : State → Prop}
variable {dC : Nat → ClassId} {dI : Nat → Nat → Nat} {cy : Nat → ClassId} {A : Nat → Prop} {k t idx pc nL : Nat} {cc : ByteArray} {ls : Array Slot} {h0 : Nat} {fs : List Value} {ws : va_W} {rest : List Value}
theorem czP {tyf : FieldType} {v : Value} (C : Ci p s m args meth c dC dI cy A k cc nL) (hP : va_P (dC, dI) vwCl ((h0, .inr (k, fs)) :: ws) H) (hD : va_D A ((h0, .inr (k, fs)) :: ws)) (hS : va_S A s.heap H locs) (hk : k < 7) (ht : t < nS k) (hl : t < fs.length) (hfl : Cond.fieldLink (cN k) idx (Tc k t).1 (Tc k t).2.1 (Tc k t).2.2.1 ∈ lw_tbl) (hfd : (Tc k t).2.2.2 = true ∧ (Tc k t).1 = cN k ∧ parseFieldDescriptor (Tc k t).2.2.1 = some tyf) (hn : narrow tyf v = v) (hfit : fits tyf v = true) (hdg : decode cc pc = .ok (.putfield idx, 3))
    (kk : ∀ (H1 : Heap) (locs1 : List Loc), va_P (dC, dI) vwCl ((h0, .inr (k, fs.set t v)) :: ws) H1 → va_D A ((h0, .inr (k, fs.set t v)) :: ws) → va_S A s.heap H1 locs1 → W p l e R s m args below meth c H1 locs1 cells slots Q (F0 m (pc + 3) ls rest)) : W p l e R s m args below meth c H locs cells slots Q (F0 m pc ls (v :: .ref h0 :: rest)) := by
  obtain ⟨hx, hb, hml, hown, hts, hK, hNW, hin, hA⟩ := C
  have e : (Tc k t).1 = cN k := hfd.2.1
  exact va_putF (D := (dC, dI)) (ref := (Tc k t).1) (C := cN k) (T := Tc k) (N := nS k) hx hb hts (uws_in hk) (tyc k) (tyc_ok hk) (nm_ok hk) hown hK hP hD hS 0 rfl (vcl hk) t ht (hts _ (lwg_of hfl rfl)) (fun _ h9 => h9) hfd.1 hin hfd.2.1 hfd.2.2 hn hfit hl hdg kk
theorem czV {tyf : FieldType} {v : Value} (C : Ci p s m args meth c dC dI cy A k cc nL) (hP : va_P (dC, dI) vwCl ((h0, .inr (k, fs)) :: ws) H) (hD : va_D A ((h0, .inr (k, fs)) :: ws)) (hS : va_S A s.heap H locs) (hk : k < 7) (ht : t < nS k) (hl : t < fs.length) (hfl : Cond.fieldLink (cN k) idx (Tc k t).1 (Tc k t).2.1 (Tc k t).2.2.1 ∈ lw_tbl) (hfd : (Tc k t).2.2.2 = false ∧ (Tc k t).1 = cN k ∧ parseFieldDescriptor (Tc k t).2.2.1 = some tyf) (hn : narrow tyf v = v) (hfit : fits tyf v = true) (hdg : decode cc pc = .ok (.putfield idx, 3))
    (kk : ∀ (H1 : Heap) (locs1 : List Loc), va_P (dC, dI) vwCl ((h0, .inr (k, fs.set t v)) :: ws) H1 → va_D A ((h0, .inr (k, fs.set t v)) :: ws) → va_S A s.heap H1 locs1 → W p l e R s m args below meth c H1 locs1 cells slots Q (F0 m (pc + 3) ls rest)) : W p l e R s m args below meth c H locs cells slots Q (F0 m pc ls (v :: .ref h0 :: rest)) := by
  obtain ⟨hx, hb, hml, hown, hts, hK, hNW, hin, hA⟩ := C
  exact va_put (D := (dC, dI)) (ref := (Tc k t).1) (C := cN k) (T := Tc k) (N := nS k) hx hb hts (uws_in hk) (tyc k) (tyc_ok hk) (nm_ok hk) hown hK hP hD hS 0 rfl (vcl hk) t ht (hts _ (lwg_of hfl rfl)) (fun _ h9 => h9) hfd.1 hfd.2.2 hn hfit hl hdg kk
theorem czA {u N : Nat} {atype : ArrayType} {ty : FieldType} {cA : ClassId} {a0 : vp_A} {n : Int32} (C : Ci p s m args meth c dC dI cy A k cc nL) (hP : va_P (dC, dI) vwCl ((h0, .inr (k, fs)) :: ws) H) (hD : va_D A ((h0, .inr (k, fs)) :: ws)) (hS : va_S A s.heap H locs) (hk : k < 7) (ht : t < nS k) (hl : t < fs.length) (hfl : Cond.fieldLink (cN k) idx (Tc k t).1 (Tc k t).2.1 (Tc k t).2.2.1 ∈ lw_tbl) (hfd : (Tc k t).2.2.2 = true ∧ (Tc k t).1 = cN k ∧ parseFieldDescriptor (Tc k t).2.2.1 = some (.array ty)) (harr : Cond.arrayClass ty ∈ lw_tbl) (hty : newarray.typeOf atype = ty) (hu : (tys cy)[u]? = some (cA, ty)) (hu4 : u < 4) (ha : ∀ cB : ClassId, vp_cell cB a0 = arrV cB N (fun _ => defaultValue ty)) (hn : ¬ n < 0 ∧ n.toNatClampNeg = N ∧ N * componentBytes ty ≤ 536870912) (hc : cells + 1 ≤ R.cells ∧ slots + N ≤ R.slots) (hdg : decode cc pc = .ok (.newarray atype, 2)) (hdg2 : decode cc (pc + 2) = .ok (.putfield idx, 3))
    (kk : ∀ (q : Nat) (H1 : Heap) (locs1 : List Loc), va_P (dC, dI) vwCl ((h0, .inr (k, fs.set t (.ref q))) :: (ws ++ [(q, .inl (cA, a0))])) H1 → va_D A ((h0, .inr (k, fs.set t (.ref q))) :: (ws ++ [(q, .inl (cA, a0))])) → va_S A s.heap H1 locs1 → W p l e R s m args below meth c H1 locs1 (cells + 1) (slots + N) Q (F0 m (pc + 5) ls [])) : W p l e R s m args below meth c H locs cells slots Q (F0 m pc ls [.int n, .ref h0]) := by
  obtain ⟨hx, hb, hml, hown, hts, hK, hNW, hin, hA⟩ := id C
  have hts2 := hts _ (lwg_of harr rfl)
  refine va_newa hx hb (by rw [hty]; exact hts2) hty hK hP hD hS hA ha hn.1 hn.2.1 hn.2.2 hc.1 hc.2 hdg (fun q cB H1 hK1 hP1 hD1 hS1 => ?_)
  obtain rfl := K_last hK1 hu hu4
  rw [List.cons_append] at hP1 hD1
  exact czP C hP1 hD1 hS1 hk ht hl hfl hfd rfl rfl hdg2 (kk q)
end CTOR
