/-! A new object outside of a constructor. -/
section CTOR
variable {p : Program} {l : Launch} {e : Env} {R : Room} {s : State} {m : MethodId} {args : Array Value} {below : List Frame} {meth : Method} {c : Code} {H : Heap} {locs : List Loc} {cells slots : Nat} {Q : State → Prop}
variable {dC : Nat → ClassId} {dI : Nat → Nat → Nat} {cy : Nat → ClassId} {A : Nat → Prop} {k t idx pc nL : Nat} {cc : ByteArray} {ls : Array Slot} {h0 : Nat} {fs : List Value} {ws : va_W} {rest : List Value}
variable {k2 n2 mc2 ms2 idxC idxM : Nat} {y2 : MethodName} {cc2 : ByteArray} {fs2 : List Value} {wB2 : (Nat → ClassId) → (Nat → Nat) → va_W} {rm2 : Room}
/-- new, dup, <init>: what is the same whoever links it -/
theorem czC0 (C : p.tables.exec = Jvm.exec ∧ c.code = cc ∧ c.maxLocals = nL ∧ s.vm.findClass (cN k) = some m.cls ∧ (∀ w ∈ lwg, w.before args s = true) ∧ va_K (dC, dI) vwCl (tys cy) s ∧ NW s ∧ (∀ q, s.heap.size ≤ q → A q)) (hsz : ls.size = nL) {X : va_W} (hP : va_P (dC, dI) vwCl X H) (hD : va_D A X) (hS : va_S A s.heap H locs) (hk2 : k2 < 7) (hcl : Cond.classLink (cN k) idxC (cN k2) ∈ lw_tbl) (hinst : Cond.instantiable (cN k2) (nS k2) ∈ lw_tbl) (hini : Cond.initialized (cN k2) ∈ lw_tbl) (hfs2 : ∀ j, j < nS k2 → defaultValue (tyc k2 j) = vp_V fs2 j) (hM : CtOK l k2 y2 cc2 n2 fs2 wB2 rm2 mc2 ms2) (hroom : (cells + 1) + mc2 ≤ R.cells ∧ (slots + nS k2) + ms2 ≤ R.slots) (hd0 : decode cc pc = .ok (.new idxC, 3)) (hd1 : decode cc (pc + 3) = .ok (.dup, 1)) (hd2 : decode cc (pc + 4) = .ok (.invokespecial idxM, 3)) (hrest : (rest.map fun v => v.category).sum ≤ 7)
    (hcw : (CallB R s args (cN k) idxM y2 cc2 n2 none (wsI y2 cc2 n2) rm2 mc2 ms2 0 ∧ y2.name = "<init>" ∧ (Cond.instanceMethod y2).before args s = true) ∨ (∃ host, va_CN R s args (cN k) idxM y2 host cc2 n2 none (wsI y2 cc2 n2) rm2 mc2 ms2 0 ∧ y2.name = "<init>" ∧ (Cond.instanceMethod y2).before args s = true))
    (kk : ∀ (q : Nat → Nat) (H1 : Heap) (locs1 : List Loc), va_P (dC, dI) vwCl (X ++ wB2 cy q) H1 → va_D A (X ++ wB2 cy q) → va_S A s.heap H1 locs1 → W p l e R s m args below meth c H1 locs1 (cells + 1 + mc2) (slots + nS k2 + ms2) Q (F0 m (pc + 7) ls (.ref (q 0) :: rest))) : W p l e R s m args below meth c H locs cells slots Q (F0 m pc ls rest) := by
  obtain ⟨hx, hb, hml, hown, hts, hK, hNW, hA⟩ := id C
  refine va_new (ci := k2) (fs := fs2) (C := cN k2) (T := Tc k2) (N := nS k2) hx hb hts (uws_in hk2) (tyc k2) (tyc_ok hk2) hown (hts _ (lwg_of hcl rfl)) (hts _ (lwg_of hinst rfl)) (hts _ (lwg_of hini rfl)) hK hP hD hS hA (vcl hk2) hfs2 (by omega) (by omega) hd0 (fun q5 H1 hP1 hD1 hS1 => ?_)
  refine lv_dup hx hb hd1 rfl ?_
  have hPc : va_P (dC, dI) vwCl [(q5, .inr (k2, fs2))] H1 := hP1.sub [X.length] (by simp)
  have hDc : va_D A [(q5, .inr (k2, fs2))] := hD1.sub [X.length] rfl (by simp)
  have hFc := va_free (wc := [(q5, .inr (k2, fs2))]) hD1 hS1 hA [X.length] (by simp)
  have hpre : PreS s H1 (PcI dC dI cy k2 fs2 q5 H1.size) (.ref q5 :: []) := ⟨PcI_blind, fun U hU hW => ⟨rfl, by rw [hU], by rw [hU]; exact hPc, va_K.moved hW.alike hK, hDc.weaken (fun _ _ _ _ => trivial), hNW.warm hW⟩⟩
  have hsum : 2 * (F0 m (pc + 4) ls (.ref q5 :: .ref q5 :: rest)).monitorRoom + ((.ref q5 :: rest).map fun v => v.category).sum ≤ 8 := lv_room (by rw [List.map_cons, List.sum_cons, show (Value.ref q5).category = 1 from rfl]; omega)
  have hrun : va_Run p l e R s m args below meth c H1 locs (cells + 1) (slots + nS k2) mc2 ms2 (F0 m (pc + 4) ls (.ref q5 :: .ref q5 :: rest)) (.ref q5 :: rest) (QcI dC dI (wB2 cy) q5 (va_A [(q5, .inr (k2, fs2))] H1.size) (Value.ref q5 :: []).toArray) (va_A [(q5, .inr (k2, fs2))] H1.size) := by
    rcases hcw with h | ⟨host, h⟩
    · exact va_runI (As := []) (rest := .ref q5 :: rest) ⟨hx, hb, hml, hown, hts⟩ (hM dC dI cy q5 H1.size) h hpre rfl rfl hsz rfl hsum hd2 hroom
    · exact va_runIN (As := []) (rest := .ref q5 :: rest) ⟨hx, hb, hml, hown, hts⟩ (hM dC dI cy q5 H1.size) h hpre rfl rfl hsz rfl hsum hd2 hroom
  refine va_callv hrun hS1 (fun q _ h => hFc q h) hFc (fun q t H2 locs2 ht hvm hw hB hz1 hk1 hS2 => ?_)
  obtain ⟨hP2, hD2⟩ := hB
  rw [ht] at hP2
  obtain ⟨hP3, hD3⟩ := jn hP1 hD1 hk1 hFc hP2 hD2
  have hK3 := kk q H2 locs2 hP3 hD3 hS2
  rw [hw] at hK3
  exact hK3
end CTOR
