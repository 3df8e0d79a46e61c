/-! Constructors: contracts, and a constructor inside of another. -/
def wsI (y : MethodName) (cc : ByteArray) (n : Nat) : List Cond := .code y cc n none :: lwg
def PcI (dC : Nat → ClassId) (dI : Nat → Nat → Nat) (cy : Nat → ClassId) (k : Nat) (fs : List Value) (h0 sz : Nat) : Array Value → State → Prop := va_Pc [.ref h0] (fun U => U.heap.size = sz ∧ va_P (dC, dI) vwCl [(h0, .inr (k, fs))] U.heap ∧ va_K (dC, dI) vwCl (tys cy) U ∧ va_D (fun _ => True) [(h0, .inr (k, fs))] ∧ NW U)
def QcI (dC : Nat → ClassId) (dI : Nat → Nat → Nat) (wB : (Nat → Nat) → va_W) (h0 : Nat) (A : Nat → Prop) : Array Value → State → Outcome → State → Prop := va_Qv (fun q : Nat → Nat => q 0 = h0) (fun q t => va_P (dC, dI) vwCl (wB q) t.heap ∧ va_D A (wB q)) A
def CtOK (l : Launch) (k : Nat) (y : MethodName) (cc : ByteArray) (n : Nat) (fs : List Value) (wB : (Nat → ClassId) → (Nat → Nat) → va_W) (rm : Room) (mc ms : Nat) : Prop := ∀ (dC : Nat → ClassId) (dI : Nat → Nat → Nat) (cy : Nat → ClassId) (h0 sz : Nat), Met l y (wsI y cc n) rm (PcI dC dI cy k fs h0 sz) (QcI dC dI (wB cy) h0 (va_A [(h0, .inr (k, fs))] sz)) mc ms (va_A [(h0, .inr (k, fs))] sz)
theorem PcI_blind {dC : Nat → ClassId} {dI : Nat → Nat → Nat} {cy : Nat → ClassId} {k : Nat} {fs : List Value} {h0 sz : Nat} : FrameBlind (PcI dC dI cy k fs h0 sz) := by
  intro v U g mk q
  obtain ⟨q0, q1, qP, qK, qD, qN⟩ := q
  exact ⟨q0, q1, qP, va_K.moved (u := U) (U := U.calling g mk v) (Vm.Alike.refl U.vm) qK, qD, qN.same rfl⟩
theorem ct_of {l : Launch} {k : Nat} {y : MethodName} {cc : ByteArray} {n : Nat} {fs : List Value} {wB : (Nat → ClassId) → (Nat → Nat) → va_W} {rm : Room} {mc ms : Nat} (hk : k < 7) (hy : y.cls = cN k ∧ y.name = "<init>") (hn : 1 ≤ n)
    (body : ∀ (p : Program) (e : Env) (s : State) (m : MethodId) (below : List Frame) (meth : Method) (c : Code) (dC : Nat → ClassId) (dI : Nat → Nat → Nat) (cy : Nat → ClassId) (h0 : Nat) (A : Nat → Prop) (ls : Array Slot), Ci p s m #[.ref h0] meth c dC dI cy A k cc n → meth.sig.returnType = none → meth.locks = false → va_P (dC, dI) vwCl [(h0, .inr (k, fs))] s.heap → va_D A [(h0, .inr (k, fs))] → va_S A s.heap s.heap [] → lv_has ls n [(0, .ref h0)] →
      W p l e (headSpec (wsI y cc n) rm).room s m #[.ref h0] below meth c s.heap [] 0 0 (MQ below (QcI dC dI (wB cy) h0 A) #[.ref h0] s mc ms A) (F0 m 0 ls [])) : CtOK l k y cc n fs wB rm mc ms := by
  intro dC dI cy h0 sz
  obtain ⟨cp1, -, -⟩ := cpl k (by omega) (by omega)
  refine Met.ofW (cc := cc) (maxL := n) (ret := none) (by rw [hy.1]; exact cp1) rfl ?_
  intro p e s m args below meth c s₁ B hml hv
  obtain ⟨rfl, hsz, hP, hK, hD0, hNW⟩ := hv
  have hts := atoms_spec (ws := wsI y cc n) B.pre
  have hown : s.vm.findClass y.cls = some m.cls := findClass_of_methodNamed B.named
  rw [hy.1] at hown
  have hin : meth.name = "<init>" := ((name_of_methodNamed B.named B.method).1).trans hy.2
  subst hsz
  have hD := hD0.self (sz := s.heap.size)
  have hA : ∀ q : Nat, s.heap.size ≤ q → va_A [(h0, .inr (k, fs))] s.heap.size q := fun q h => Or.inr h
  have hl := lv_entry ([.ref h0]) (n := n) hn
  rw [lg_entry_eq]
  generalize (lg_sl ([.ref h0]) ++ List.replicate (n - (lg_sl ([.ref h0])).length) Slot.unset).toArray = ls at hl ⊢
  exact body p e s m below meth c dC dI cy h0 _ ls ⟨B.exec, B.bytes, hml, hown, fun w hw => hts w (List.mem_cons_of_mem _ hw), hK, hNW, hin, hA⟩ B.returns B.notSynchronized hP hD va_S.rf hl
theorem wsI_good {y : MethodName} {cc : ByteArray} {n : Nat} (h : Cond.code y cc n none ∈ lw_tbl) : GoodIn lwg (wsI y cc n) := by
  intro w hw
  rcases List.mem_cons.mp hw with rfl | h2
  · exact lwg_good _ (lwg_of h rfl)
  · exact lwg_good _ h2
theorem nd_of {l : List Nat} (h : l.Nodup) : va_nd l = true := by
  induction l with
  | nil => rfl
  | cons a r ih =>
    have h2 := List.nodup_cons.mp h
    simp only [va_nd, ih h2.2]
    simp [h2.1]
theorem rg_map {α : Type} (X : List α) (y : α) : (List.range X.length).map (fun i => (X ++ [y])[i]?) = X.map some := by
  apply List.ext_getElem?
  intro i
  simp only [List.getElem?_map]
  by_cases hi : i < X.length
  · rw [List.getElem?_range hi]
    simp only [Option.map_some]
    rw [List.getElem?_append_left hi, List.getElem?_eq_getElem hi]
    rfl
  · rw [List.getElem?_eq_none (by simpa using hi), List.getElem?_eq_none (by simpa using hi)]
    rfl
theorem jn {A0 : Nat → Prop} {D : va_G} {cl : List vw_C} {X w1 : va_W} {x : Nat × va_E} {H H1 : Heap} (hP : va_P D cl (X ++ [x]) H) (hD : va_D A0 (X ++ [x])) (hk : ∀ q : Nat, q < H.size → ¬ va_A [x] H.size q → H1[q]? = H[q]?) (hF : ∀ q, va_A [x] H.size q → A0 q) (hP1 : va_P D cl w1 H1) (hD1 : va_D (va_A [x] H.size) w1) : va_P D cl (X ++ w1) H1 ∧ va_D A0 (X ++ w1) :=
  va_join (wc := [x]) (wr := X) hP hD [X.length] (List.range X.length) (by simp) (rg_map X x) (nd_of List.nodup_range) (fun i hi q => by
    rw [List.mem_singleton] at q
    rw [List.mem_range] at hi
    omega) hk hF hP1 hD1
section CTOR
variable {p : Program} {l : Launch} {e : Env} {R : Room} {s : State} {m : MethodId} {args : Array Value} {below : List Frame} {meth : Method} {c : Code} {H : Heap} {locs : List Loc} {cells slots : Nat} {Q : State → Prop}
variable {dC : Nat → ClassId} {dI : Nat → Nat → Nat} {cy : Nat → ClassId} {A : Nat → Prop} {k t idx pc nL : Nat} {cc : ByteArray} {ls : Array Slot} {h0 : Nat} {fs : List Value} {ws : va_W} {rest : List Value}
variable {k2 n2 mc2 ms2 idxC idxM : Nat} {y2 : MethodName} {cc2 : ByteArray} {fs2 : List Value} {wB2 : (Nat → ClassId) → (Nat → Nat) → va_W} {rm2 : Room}
/-- new, dup, <init>: what is the same whoever links it -/
theorem czC (C : Ci p s m args meth c dC dI cy A k cc nL) (hsz : ls.size = nL) {X : va_W} (hP : va_P (dC, dI) vwCl X H) (hD : va_D A X) (hS : va_S A s.heap H locs) (hk2 : k2 < 7) (hcl : Cond.classLink (cN k) idxC (cN k2) ∈ lw_tbl) (hinst : Cond.instantiable (cN k2) (nS k2) ∈ lw_tbl) (hini : Cond.initialized (cN k2) ∈ lw_tbl) (hfs2 : ∀ j, j < nS k2 → defaultValue (tyc k2 j) = vp_V fs2 j) (hM : CtOK l k2 y2 cc2 n2 fs2 wB2 rm2 mc2 ms2) (hroom : (cells + 1) + mc2 ≤ R.cells ∧ (slots + nS k2) + ms2 ≤ R.slots) (hd0 : decode cc pc = .ok (.new idxC, 3)) (hd1 : decode cc (pc + 3) = .ok (.dup, 1)) (hd2 : decode cc (pc + 4) = .ok (.invokespecial idxM, 3)) (hrest : (rest.map fun v => v.category).sum ≤ 7)
    (hcw : (CallB R s args (cN k) idxM y2 cc2 n2 none (wsI y2 cc2 n2) rm2 mc2 ms2 0 ∧ y2.name = "<init>" ∧ (Cond.instanceMethod y2).before args s = true) ∨ (∃ host, va_CN R s args (cN k) idxM y2 host cc2 n2 none (wsI y2 cc2 n2) rm2 mc2 ms2 0 ∧ y2.name = "<init>" ∧ (Cond.instanceMethod y2).before args s = true))
    (kk : ∀ (q : Nat → Nat) (H1 : Heap) (locs1 : List Loc), va_P (dC, dI) vwCl (X ++ wB2 cy q) H1 → va_D A (X ++ wB2 cy q) → va_S A s.heap H1 locs1 → W p l e R s m args below meth c H1 locs1 (cells + 1 + mc2) (slots + nS k2 + ms2) Q (F0 m (pc + 7) ls (.ref (q 0) :: rest))) : W p l e R s m args below meth c H locs cells slots Q (F0 m pc ls rest) := by
  obtain ⟨hx, hb, hml, hown, hts, hK, hNW, hin, hA⟩ := id C
  refine va_new (ci := k2) (fs := fs2) (C := cN k2) (T := Tc k2) (N := nS k2) hx hb hts (uws_in hk2) (tyc k2) (tyc_ok hk2) hown (hts _ (lwg_of hcl rfl)) (hts _ (lwg_of hinst rfl)) (hts _ (lwg_of hini rfl)) hK hP hD hS hA (vcl hk2) hfs2 (by omega) (by omega) hd0 (fun q5 H1 hP1 hD1 hS1 => ?_)
  refine lv_dup hx hb hd1 rfl ?_
  have hPc : va_P (dC, dI) vwCl [(q5, .inr (k2, fs2))] H1 := hP1.sub [X.length] (by simp)
  have hDc : va_D A [(q5, .inr (k2, fs2))] := hD1.sub [X.length] rfl (by simp)
  have hFc := va_free (wc := [(q5, .inr (k2, fs2))]) hD1 hS1 hA [X.length] (by simp)
  have hpre : PreS s H1 (PcI dC dI cy k2 fs2 q5 H1.size) (.ref q5 :: []) := ⟨PcI_blind, fun U hU hW => ⟨rfl, by rw [hU], by rw [hU]; exact hPc, va_K.moved hW.alike hK, hDc.weaken (fun _ _ _ _ => trivial), hNW.warm hW⟩⟩
  have hsum : 2 * (F0 m (pc + 4) ls (.ref q5 :: .ref q5 :: rest)).monitorRoom + ((.ref q5 :: rest).map fun v => v.category).sum ≤ 8 := lv_room (by rw [List.map_cons, List.sum_cons, show (Value.ref q5).category = 1 from rfl]; omega)
  have hrun : va_Run p l e R s m args below meth c H1 locs (cells + 1) (slots + nS k2) mc2 ms2 (F0 m (pc + 4) ls (.ref q5 :: .ref q5 :: rest)) (.ref q5 :: rest) (QcI dC dI (wB2 cy) q5 (va_A [(q5, .inr (k2, fs2))] H1.size) (Value.ref q5 :: []).toArray) (va_A [(q5, .inr (k2, fs2))] H1.size) := by
    rcases hcw with h | ⟨host, h⟩
    · exact va_runI (As := []) (rest := .ref q5 :: rest) ⟨hx, hb, hml, hown, hts⟩ (hM dC dI cy q5 H1.size) h hpre rfl rfl hsz rfl hsum hd2 hroom
    · exact va_runIN (As := []) (rest := .ref q5 :: rest) ⟨hx, hb, hml, hown, hts⟩ (hM dC dI cy q5 H1.size) h hpre rfl rfl hsz rfl hsum hd2 hroom
  refine va_callv hrun hS1 (fun q _ h => hFc q h) hFc (fun q t H2 locs2 ht hvm hw hB hz1 hk1 hS2 => ?_)
  obtain ⟨hP2, hD2⟩ := hB
  rw [ht] at hP2
  obtain ⟨hP3, hD3⟩ := jn hP1 hD1 hk1 hFc hP2 hD2
  have hK3 := kk q H2 locs2 hP3 hD3 hS2
  rw [hw] at hK3
  exact hK3
end CTOR
