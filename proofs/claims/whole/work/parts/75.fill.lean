/-! Arrays.fill over six cells; an array of references. -/
def fillF : Nat → Int32 := upd (upd (upd (upd (upd (upd (fun _ => 0) 0 (-1)) 1 (-1)) 2 (-1)) 3 (-1)) 4 (-1)) 5 (-1)
def bookF : Nat → Int32 := upd (upd (upd (upd (upd (upd (upd (fun _ => 0) 2 (-1)) 24 (-1)) 25 (-1)) 26 (-1)) 27 (-1)) 28 (-1)) 29 (-1)
theorem zfl_c : Cond.code yJ7_fill_53178 cJ7_fill_53178 4 none ∈ lw_tbl := List.mem_of_getElem? (i := 119) (by decide +kernel)
theorem zfl_s : Cond.static yJ7_fill_53178 ∈ lw_tbl := List.mem_of_getElem? (i := 118) (by decide +kernel)
theorem zfl_l : Cond.methodLink (cN 0) 53 yJ7_fill_53178 ∈ lw_tbl := List.mem_of_getElem? (i := 117) (by decide +kernel)
theorem zfl_i : Cond.initialized RJ7 ∈ lw_tbl := List.mem_of_getElem? (i := 61) (by decide +kernel)
def PcF (dC : Nat → ClassId) (dI : Nat → Nat → Nat) (cy : Nat → ClassId) (q sz : Nat) : Array Value → State → Prop := va_Pc [.ref q, .int (-1)] (fun U => U.heap.size = sz ∧ va_P (dC, dI) vwCl [(q, .inl (cy 0, 6, .inl (fun _ => 0)))] U.heap ∧ va_K (dC, dI) vwCl (tys cy) U ∧ va_D (fun _ => True) [(q, .inl (cy 0, 6, .inl (fun _ => 0)))])
def QcF (dC : Nat → ClassId) (dI : Nat → Nat → Nat) (cy : Nat → ClassId) (q : Nat) (A : Nat → Prop) : Array Value → State → Outcome → State → Prop := va_Qv (fun _ : Unit => True) (fun _ t => va_P (dC, dI) vwCl [(q, .inl (cy 0, 6, .inl fillF))] t.heap ∧ va_D A [(q, .inl (cy 0, 6, .inl fillF))]) A
set_option maxRecDepth 100000 in
set_option maxHeartbeats 4000000 in
theorem fill_ok (l : Launch) (dC : Nat → ClassId) (dI : Nat → Nat → Nat) (cy : Nat → ClassId) (q sz : Nat) : Met l yJ7_fill_53178 (wsI yJ7_fill_53178 cJ7_fill_53178 4) { frames := 0, cells := 0, slots := 0, locals := 12 } (PcF dC dI cy q sz) (QcF dC dI cy q (va_A [(q, .inl (cy 0, 6, .inl (fun _ => 0)))] sz)) 0 0 (va_A [(q, .inl (cy 0, 6, .inl (fun _ => 0)))] sz) := by
  refine Met.ofW (cc := cJ7_fill_53178) (maxL := 4) (ret := none) (by decide +kernel) rfl ?_
  intro p e s m args below meth c s₁ B hml hv
  obtain ⟨rfl, hsz, hP, hK, hD0⟩ := hv
  have hx := B.exec
  have hb := B.bytes
  have hr := B.returns
  have hlocks := B.notSynchronized
  subst hsz
  have hD := hD0.self (sz := s.heap.size)
  have hS : va_S (va_A [(q, .inl (cy 0, 6, .inl (fun _ => 0)))] s.heap.size) s.heap s.heap [] := va_S.rf
  generalize va_A [(q, .inl (cy 0, 6, .inl (fun _ => 0)))] s.heap.size = A at hD hS ⊢
  have hl := lv_entry ([.ref q, .int (-1)]) (n := 4) (Nat.le_of_ble_eq_true rfl)
  rw [lg_entry_eq]
  generalize (lg_sl ([.ref q, .int (-1)]) ++ List.replicate (4 - (lg_sl ([.ref q, .int (-1)])).length) Slot.unset).toArray = ls at hl ⊢
  have hl : lv_has ls 4 [(0, .ref q), (1, .int (-1))] := hl
  refine lv_iconst (v := 0) hx hb dJ7_fill_53178_0 (by decide) ?_
  refine lv_istore_n (lv' := [(2, .int 0), (0, .ref q), (1, .int (-1))]) hx hb dJ7_fill_53178_1 rfl hl (by decide) rfl (fun ls hl => ?_)
  refine lv_aload_n hx hb dJ7_fill_53178_2 rfl (lv_at hl 1 rfl) ?_
  refine va_alen hx hb hK hP 0 0 rfl ty_int (v := 6) rfl dJ7_fill_53178_3 ?_
  refine lv_istore_n (lv' := [(3, .int 6), (2, .int 0), (0, .ref q), (1, .int (-1))]) hx hb dJ7_fill_53178_4 rfl hl (by decide) rfl (fun ls hl => ?_)
  refine lv_iload_n hx hb dJ7_fill_53178_5 rfl (lv_at hl 1 rfl) ?_
  refine lv_iload_n hx hb dJ7_fill_53178_6 rfl (lv_at hl 0 rfl) ?_
  refine lv_icmp_ge (tgt := 20) hx hb dJ7_fill_53178_7 (by decide) (fun q => absurd q (by decide)) (fun _ => ?_)
  refine lv_aload_n hx hb dJ7_fill_53178_10 rfl (lv_at hl 2 rfl) ?_
  refine lv_iload_n hx hb dJ7_fill_53178_11 rfl (lv_at hl 1 rfl) ?_
  refine lv_iload_n hx hb dJ7_fill_53178_12 rfl (lv_at hl 3 rfl) ?_
  refine va_iast hx hb hK hP hD hS 0 0 rfl ty_int (by unfold vp_in; decide) dJ7_fill_53178_13 (fun H locs hP hD hS => ?_)
  refine lv_iinc (v := 1) (lv' := [(2, .int 1), (3, .int 6), (0, .ref q), (1, .int (-1))]) hx hb dJ7_fill_53178_14 hl (k := 1) rfl (by decide) (by decide) rfl (fun ls hl => ?_)
  refine lv_goto (tgt := 5) hx hb dJ7_fill_53178_17 (by decide) ?_
  refine lv_iload_n hx hb dJ7_fill_53178_5 rfl (lv_at hl 0 rfl) ?_
  refine lv_iload_n hx hb dJ7_fill_53178_6 rfl (lv_at hl 1 rfl) ?_
  refine lv_icmp_ge (tgt := 20) hx hb dJ7_fill_53178_7 (by decide) (fun q => absurd q (by decide)) (fun _ => ?_)
  refine lv_aload_n hx hb dJ7_fill_53178_10 rfl (lv_at hl 2 rfl) ?_
  refine lv_iload_n hx hb dJ7_fill_53178_11 rfl (lv_at hl 0 rfl) ?_
  refine lv_iload_n hx hb dJ7_fill_53178_12 rfl (lv_at hl 3 rfl) ?_
  refine va_iast hx hb hK hP hD hS 0 0 rfl ty_int (by unfold vp_in; decide) dJ7_fill_53178_13 (fun H locs hP hD hS => ?_)
  refine lv_iinc (v := 2) (lv' := [(2, .int 2), (3, .int 6), (0, .ref q), (1, .int (-1))]) hx hb dJ7_fill_53178_14 hl (k := 0) rfl (by decide) (by decide) rfl (fun ls hl => ?_)
  refine lv_goto (tgt := 5) hx hb dJ7_fill_53178_17 (by decide) ?_
  refine lv_iload_n hx hb dJ7_fill_53178_5 rfl (lv_at hl 0 rfl) ?_
  refine lv_iload_n hx hb dJ7_fill_53178_6 rfl (lv_at hl 1 rfl) ?_
  refine lv_icmp_ge (tgt := 20) hx hb dJ7_fill_53178_7 (by decide) (fun q => absurd q (by decide)) (fun _ => ?_)
  refine lv_aload_n hx hb dJ7_fill_53178_10 rfl (lv_at hl 2 rfl) ?_
  refine lv_iload_n hx hb dJ7_fill_53178_11 rfl (lv_at hl 0 rfl) ?_
  refine lv_iload_n hx hb dJ7_fill_53178_12 rfl (lv_at hl 3 rfl) ?_
  refine va_iast hx hb hK hP hD hS 0 0 rfl ty_int (by unfold vp_in; decide) dJ7_fill_53178_13 (fun H locs hP hD hS => ?_)
  refine lv_iinc (v := 3) (lv' := [(2, .int 3), (3, .int 6), (0, .ref q), (1, .int (-1))]) hx hb dJ7_fill_53178_14 hl (k := 0) rfl (by decide) (by decide) rfl (fun ls hl => ?_)
  refine lv_goto (tgt := 5) hx hb dJ7_fill_53178_17 (by decide) ?_
  refine lv_iload_n hx hb dJ7_fill_53178_5 rfl (lv_at hl 0 rfl) ?_
  refine lv_iload_n hx hb dJ7_fill_53178_6 rfl (lv_at hl 1 rfl) ?_
  refine lv_icmp_ge (tgt := 20) hx hb dJ7_fill_53178_7 (by decide) (fun q => absurd q (by decide)) (fun _ => ?_)
  refine lv_aload_n hx hb dJ7_fill_53178_10 rfl (lv_at hl 2 rfl) ?_
  refine lv_iload_n hx hb dJ7_fill_53178_11 rfl (lv_at hl 0 rfl) ?_
  refine lv_iload_n hx hb dJ7_fill_53178_12 rfl (lv_at hl 3 rfl) ?_
  refine va_iast hx hb hK hP hD hS 0 0 rfl ty_int (by unfold vp_in; decide) dJ7_fill_53178_13 (fun H locs hP hD hS => ?_)
  refine lv_iinc (v := 4) (lv' := [(2, .int 4), (3, .int 6), (0, .ref q), (1, .int (-1))]) hx hb dJ7_fill_53178_14 hl (k := 0) rfl (by decide) (by decide) rfl (fun ls hl => ?_)
  refine lv_goto (tgt := 5) hx hb dJ7_fill_53178_17 (by decide) ?_
  refine lv_iload_n hx hb dJ7_fill_53178_5 rfl (lv_at hl 0 rfl) ?_
  refine lv_iload_n hx hb dJ7_fill_53178_6 rfl (lv_at hl 1 rfl) ?_
  refine lv_icmp_ge (tgt := 20) hx hb dJ7_fill_53178_7 (by decide) (fun q => absurd q (by decide)) (fun _ => ?_)
  refine lv_aload_n hx hb dJ7_fill_53178_10 rfl (lv_at hl 2 rfl) ?_
  refine lv_iload_n hx hb dJ7_fill_53178_11 rfl (lv_at hl 0 rfl) ?_
  refine lv_iload_n hx hb dJ7_fill_53178_12 rfl (lv_at hl 3 rfl) ?_
  refine va_iast hx hb hK hP hD hS 0 0 rfl ty_int (by unfold vp_in; decide) dJ7_fill_53178_13 (fun H locs hP hD hS => ?_)
  refine lv_iinc (v := 5) (lv' := [(2, .int 5), (3, .int 6), (0, .ref q), (1, .int (-1))]) hx hb dJ7_fill_53178_14 hl (k := 0) rfl (by decide) (by decide) rfl (fun ls hl => ?_)
  refine lv_goto (tgt := 5) hx hb dJ7_fill_53178_17 (by decide) ?_
  refine lv_iload_n hx hb dJ7_fill_53178_5 rfl (lv_at hl 0 rfl) ?_
  refine lv_iload_n hx hb dJ7_fill_53178_6 rfl (lv_at hl 1 rfl) ?_
  refine lv_icmp_ge (tgt := 20) hx hb dJ7_fill_53178_7 (by decide) (fun q => absurd q (by decide)) (fun _ => ?_)
  refine lv_aload_n hx hb dJ7_fill_53178_10 rfl (lv_at hl 2 rfl) ?_
  refine lv_iload_n hx hb dJ7_fill_53178_11 rfl (lv_at hl 0 rfl) ?_
  refine lv_iload_n hx hb dJ7_fill_53178_12 rfl (lv_at hl 3 rfl) ?_
  refine va_iast hx hb hK hP hD hS 0 0 rfl ty_int (by unfold vp_in; decide) dJ7_fill_53178_13 (fun H locs hP hD hS => ?_)
  refine lv_iinc (v := 6) (lv' := [(2, .int 6), (3, .int 6), (0, .ref q), (1, .int (-1))]) hx hb dJ7_fill_53178_14 hl (k := 0) rfl (by decide) (by decide) rfl (fun ls hl => ?_)
  refine lv_goto (tgt := 5) hx hb dJ7_fill_53178_17 (by decide) ?_
  refine lv_iload_n hx hb dJ7_fill_53178_5 rfl (lv_at hl 0 rfl) ?_
  refine lv_iload_n hx hb dJ7_fill_53178_6 rfl (lv_at hl 1 rfl) ?_
  refine lv_icmp_ge (tgt := 20) hx hb dJ7_fill_53178_7 (by decide) (fun _ => ?_) (fun q => absurd (by decide) q)
  exact W.vret hx hb hr (fun t ht hW => ⟨⟨(), rfl, trivial, by rw [ht]; exact hP, hD⟩, hS.F ht⟩) hS.2.2 dJ7_fill_53178_20 hlocks
theorem PcF_blind {dC : Nat → ClassId} {dI : Nat → Nat → Nat} {cy : Nat → ClassId} {h0 sz : Nat} : FrameBlind (PcF dC dI cy h0 sz) := by
  intro v U g mk q
  obtain ⟨q0, q1, qP, qK, qD⟩ := q
  exact ⟨q0, q1, qP, va_K.moved (u := U) (U := U.calling g mk v) (Vm.Alike.refl U.vm) qK, qD⟩
section CTOR
variable {p : Program} {l : Launch} {e : Env} {R : Room} {s : State} {m : MethodId} {args : Array Value} {below : List Frame} {meth : Method} {c : Code} {H : Heap} {locs : List Loc} {cells slots : Nat} {Q : State → Prop}
variable {dC : Nat → ClassId} {dI : Nat → Nat → Nat} {cy : Nat → ClassId} {A : Nat → Prop} {k t idx idxC pc nL : Nat} {cc : ByteArray} {ls : Array Slot} {h0 : Nat} {fs : List Value} {ws : va_W} {rest : List Value}
theorem czQ {N : Nat} {n : Int32} (C : Ci p s m args meth c dC dI cy A k cc nL) (hP : va_P (dC, dI) vwCl ((h0, .inr (k, fs)) :: ws) H) (hD : va_D A ((h0, .inr (k, fs)) :: ws)) (hS : va_S A s.heap H locs) (hk : k < 7) (ht : t < nS k) (hl : t < fs.length) (hfl : Cond.fieldLink (cN k) idx (Tc k t).1 (Tc k t).2.1 (Tc k t).2.2.1 ∈ lw_tbl) (hfd : (Tc k t).2.2.2 = true ∧ (Tc k t).1 = cN k ∧ parseFieldDescriptor (Tc k t).2.2.1 = some (.array (.object "RolledStones$Field"))) (hcl : Cond.classLink (cN k) idxC (cN 0) ∈ lw_tbl) (hn : ¬ n < 0 ∧ n.toNatClampNeg = N ∧ N * 4 ≤ 536870912) (hc : cells + 1 ≤ R.cells ∧ slots + N ≤ R.slots) (hdg : decode cc pc = .ok (.anewarray idxC, 3)) (hdg2 : decode cc (pc + 3) = .ok (.putfield idx, 3))
    (kk : ∀ (q : Nat) (H1 : Heap) (locs1 : List Loc), va_P (dC, dI) vwCl ((h0, .inr (k, fs.set t (.ref q))) :: (ws ++ [(q, .inl (cy 3, N, .inr (.inr (.inr (.inr (fun _ => none))))))])) H1 → va_D A ((h0, .inr (k, fs.set t (.ref q))) :: (ws ++ [(q, .inl (cy 3, N, .inr (.inr (.inr (.inr (fun _ => none))))))])) → va_S A s.heap H1 locs1 → W p l e R s m args below meth c H1 locs1 (cells + 1) (slots + N) Q (F0 m (pc + 6) ls [])) : W p l e R s m args below meth c H locs cells slots Q (F0 m pc ls [.int n, .ref h0]) := by
  obtain ⟨hx, hb, hml, hown, hts, hK, hNW, hin, hA⟩ := id C
  refine va_newq (C := cN 0) hx hb hown (hts _ (lwg_of hcl rfl)) hNW.2.2.2.2.2 hK hP hD hS hA hn.1 hn.2.1 hn.2.2 hc.1 hc.2 hdg (fun q cB H1 hK1 hP1 hD1 hS1 => ?_)
  have e := K_last (u := 3) hK1 rfl (by decide)
  rw [e, List.cons_append] at hP1 hD1
  exact czP C hP1 hD1 hS1 hk ht hl hfl hfd rfl rfl hdg2 (kk q)
theorem czFill {X : va_W} {q : Nat} (C : Ci p s m args meth c dC dI cy A 0 cc nL) (hsz : ls.size = nL) (hP : va_P (dC, dI) vwCl X H) (hD : va_D A X) (hS : va_S A s.heap H locs) {Y : va_W} (hX : X = Y ++ [(q, .inl (cy 0, 6, .inl (fun _ => 0)))]) (hR : 0 + 1 ≤ R.frames ∧ 8 + (4 + 11) + 12 ≤ R.locals) (hroom : cells + 0 ≤ R.cells ∧ slots + 0 ≤ R.slots) (hdg : decode cc pc = .ok (.invokestatic 53, 3))
    (kk : ∀ (H1 : Heap) (locs1 : List Loc), va_P (dC, dI) vwCl (Y ++ [(q, .inl (cy 0, 6, .inl fillF))]) H1 → va_D A (Y ++ [(q, .inl (cy 0, 6, .inl fillF))]) → va_S A s.heap H1 locs1 → W p l e R s m args below meth c H1 locs1 cells slots Q (F0 m (pc + 3) ls [])) : W p l e R s m args below meth c H locs cells slots Q (F0 m pc ls [.int (-1), .ref q]) := by
  obtain ⟨hx, hb, hml, hown, hts, hK, hNW, hin, hA⟩ := id C
  subst hX
  have hPc : va_P (dC, dI) vwCl [(q, .inl (cy 0, 6, .inl (fun _ => 0)))] H := hP.sub [Y.length] (by simp)
  have hDc : va_D A [(q, .inl (cy 0, 6, .inl (fun _ => 0)))] := hD.sub [Y.length] rfl (by simp)
  have hFc := va_free (wc := [(q, .inl (cy 0, 6, .inl (fun _ => 0)))]) hD hS hA [Y.length] (by simp)
  have hpre : PreS s H (PcF dC dI cy q H.size) [.ref q, .int (-1)] := ⟨PcF_blind, fun U hU hW => ⟨rfl, by rw [hU], by rw [hU]; exact hPc, va_K.moved hW.alike hK, hDc.weaken (fun _ _ _ _ => trivial)⟩⟩
  have hcw : CallB R s args (cN 0) 53 yJ7_fill_53178 cJ7_fill_53178 4 none (wsI yJ7_fill_53178 cJ7_fill_53178 4) { frames := 0, cells := 0, slots := 0, locals := 12 } 0 0 2 := callB_of 2 hts (wsI_good zfl_c) rfl rfl rfl (hts _ (lwg_of zfl_i rfl)) (hts _ (lwg_of zfl_l rfl)) (by decide +kernel) hR
  refine va_callv (va_runS (As := [.ref q, .int (-1)]) (rest := []) ⟨hx, hb, hml, hown, hts⟩ (fill_ok l dC dI cy q H.size) ⟨hcw, hts _ (lwg_of zfl_s rfl)⟩ hpre rfl rfl hsz rfl (lv_room (Nat.le_of_ble_eq_true rfl)) hdg hroom) hS (fun q _ h => hFc q h) hFc (fun u t H2 locs2 ht hvm hw hB hz1 hk1 hS2 => ?_)
  obtain ⟨hP2, hD2⟩ := hB
  rw [ht] at hP2
  obtain ⟨hP3, hD3⟩ := jn hP hD hk1 hFc hP2 hD2
  exact kk H2 locs2 hP3 hD3 hS2
end CTOR
