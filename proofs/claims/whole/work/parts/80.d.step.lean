/-! An image that is not there yet: the call that makes it. -/
def nul (σ : Sg) : Nat := (if σ 16 0 = 0 then 1 else 0) + (if σ 16 1 = 0 then 1 else 0)
theorem sgN_C {F : Nat} {X : Int} {σ : Sg} (hF : F = 60 ∨ F = 80) (hI : Inv σ) : InvC (sgN F X σ) := by
  obtain ⟨i1, i2, i3, -, -⟩ := hI
  have e : ∀ k, (k < 60 ∨ 94 ≤ k) → k ≠ 16 → k ≠ 18 → k ≠ 36 → sgN F X σ k = σ k := fun k h a1 a2 a3 => sgN_o (by omega) a1 a2 a3
  refine ⟨FInv_of i1 (e 101 (by omega) (by omega) (by omega) (by omega)) (fun k a1 a2 => e k (by omega) (by omega) (by omega) (by omega)), ?_, fun i a1 a2 => ?_⟩
  · rw [e 1 (by omega) (by omega) (by omega) (by omega), e 100 (by omega) (by omega) (by omega) (by omega)]; exact i2
  · rw [e 17 (by omega) (by omega) (by omega) (by omega), e 104 (by omega) (by omega) (by omega) (by omega)]; exact i3 i a1 a2
theorem sgN_1 {σ : Sg} (hI : Inv σ) : Im1 (sgN 60 0 σ) := by
  obtain ⟨-, -, -, -, i5⟩ := hI
  unfold Im1
  rw [sgN_o (k := 103) (by omega) (by omega) (by omega) (by omega), sgN_o (k := 102) (by omega) (by omega) (by omega) (by omega), sgN_16o (Or.inl rfl) (by decide)]
  rcases i5 with h | ⟨h1, h2, h3⟩
  · exact Or.inl h
  · exact Or.inr ⟨h1, h2, FInv_of h3 rfl (fun k a1 a2 => sgN_o (by omega) (by omega) (by omega) (by omega))⟩
theorem sgN_0 {σ : Sg} (hI : Inv σ) : Im0 (sgN 80 1 σ) := by
  obtain ⟨-, -, -, i4, -⟩ := hI
  unfold Im0
  rw [sgN_o (k := 103) (by omega) (by omega) (by omega) (by omega), sgN_o (k := 102) (by omega) (by omega) (by omega) (by omega), sgN_16o (Or.inr rfl) (by decide)]
  rcases i4 with h | ⟨h1, h2, h3⟩
  · exact Or.inl h
  · exact Or.inr ⟨h1, h2, FInv_of h3 rfl (fun k a1 a2 => sgN_o (by omega) (by omega) (by omega) (by omega))⟩
set_option maxRecDepth 100000 in
set_option maxHeartbeats 4000000 in
theorem img_step {p : Program} {l : Launch} {e : Env} {s : State} {m : MethodId} {below : List Frame} {meth : Method} {c : Code} {b : Nat} {dC : Nat → ClassId} {dI : Nat → Nat → Nat} {cy : Nat → ClassId} {a : Nat → Nat} {A : Nat → Prop} {cells slots : Nat} {Q : State → Prop} {σ : Sg} {i x : Int} {H : Heap} {locs : List Loc} {rl : Array Slot} (C : Cx p room_1 s m #[Value.ref b] c dC dI cy a A mLaw 13 cells slots) (hNW : NW s) (hr : Rl dC dI cy a A s mLaw [vR 999, vR 1, vR 100, vI i] σ H locs rl) (hx : 0 ≤ x ∧ x < 2) (h16 : σ 16 x = 0) (hI : Inv σ) (hroom : cells + 14 ≤ 600000 ∧ slots + 632 ≤ 7302250)
    (kk : ∀ (a' : Nat → Nat) (σ1 : Sg) (H1 : Heap) (locs1 : List Loc), (∀ k, (k < 60 ∨ (94 ≤ k ∧ k < 500) ∨ 600 ≤ k) → a' k = a k) → σ1 999 = σ 999 → (∀ σ2, ImM x σ1 σ2 → Inv σ2 ∧ nul σ2 + 1 ≤ nul σ) → Rl dC dI cy a' A s mLaw [vR 999, vR 1, vR 100, vI i] σ1 H1 locs1 rl → W p l e room_1 s m #[Value.ref b] below meth c H1 locs1 (cells + 14) (slots + 632) Q (F0 m 1267 rl [.int 1])) : W p l e room_1 s m #[Value.ref b] below meth c H locs cells slots Q (F0 m 1264 rl [.int (Int32.ofInt x), .ref (a 1)]) := by
  obtain ⟨hx0, hb, hml, hown, hts, hK, hR, hcs, hSX, hA, hy⟩ := C
  have hf : fnd (pgm mLaw) 1264 = some (1267, 35, 149, 84, 2, []) := rfl
  obtain ⟨g1, g2⟩ := ok_at hy hf
  obtain ⟨hd, hn⟩ := ok_dec (by decide) g1
  simp only [sc, Bool.and_eq_true, decide_eq_true_eq] at g2
  obtain ⟨hm, hk, htn⟩ := g2
  have hcl : (mO mLaw, (149 : Int).toNat, 84) ∈ cLl := by decide +kernel
  have hw := lwg_of (wdC_in _ (List.mem_map.mpr ⟨_, hcl, rfl⟩)) rfl
  obtain ⟨w1, w2, w3, w4⟩ := mem_lwg_M hk
  have hkr : 84 ∈ List.range mLaw := List.mem_range.mpr hk
  obtain ⟨cl1, cl2, cl3, cl4⟩ := mcls_all 84 hkr
  obtain ⟨cp1, cp2, cp3⟩ := cpl (mO 84) cl2 cl3
  have hpar := npar_all 84 hkr
  obtain ⟨hP, hD, hS, hL⟩ := id hr
  have hFc : ∀ q, va_A (wld a cy σ) H.size q → A q := by
    intro q hq
    rcases hq with ⟨k2, e2, h⟩ | h
    · exact hD.2 k2 _ h
    · exact hA q (Nat.le_trans hS.1 h)
  have hRR : rmI.frames + 1 ≤ room_1.frames ∧ 8 + (mL 84 + 11) + rmI.locals ≤ room_1.locals := by
    have h1 := hR.1; have h2 := hR.2
    have h3 : mL 84 ≤ 10 := by decide
    simp only [rmI]; omega
  have hst : mS 84 = false := rfl
  simp only [rI, hst, Bool.false_eq_true, if_false] at hd
  have e1 : wdM1 84 = .instanceMethod (mN 84) := by unfold wdM1; rw [if_neg (by simp [hst])]
  have e2 : wdM2 84 = .selects (cN (mO 84)) (mN 84) (mN 84) := by unfold wdM2; rw [if_neg (by simp [hst])]
  obtain ⟨q0, hq0⟩ := kn_at (kn_1 (σ := σ)) (by decide)
  have hG : GoodIn lwg (wsV (cN (mO mLaw)) (149 : Int).toNat (cN (mO 84)) (mN 84) (wsU 84)) := by
    unfold wsV
    refine good_cons hw (good_cons (by rw [← e1]; exact w1) (good_cons (by rw [← e2]; exact w2) (good_cons w3 (wsU_good hk))))
  have hcw := cwV (R := room_1) (s := s) (args := #[Value.ref b]) (rm := rmI) (mc := 14) (ms := 632) (mP 84) hts hG rfl rfl rfl ⟨cl1, by rw [cl1]; exact cp2, by rw [cl1]; exact cp3, hpar⟩ hRR
  have hrcv := va_recv hK hP (vcl (k := 5) (by decide)) (wld_at hq0)
  have ho : (x = 0 ∧ (σ 16 1 = 0 ∨ σ 16 1 = 80)) ∨ (x = 1 ∧ (σ 16 0 = 0 ∨ σ 16 0 = 60)) := by
    obtain ⟨-, -, -, i4, i5⟩ := hI
    rcases (show x = 0 ∨ x = 1 by omega) with h | h
    · refine Or.inl ⟨h, ?_⟩
      rcases i5 with q | q
      · exact Or.inl q.2
      · exact Or.inr q.2.1
    · refine Or.inr ⟨h, ?_⟩
      rcases i4 with q | q
      · exact Or.inl q.2
      · exact Or.inr q.2.1
  refine va_calli (rest := []) (va_runV (b := a 1) (As := [.int (Int32.ofInt x)]) ⟨hx0, hb, hml, hown, hts⟩ (img_met l (dC := dC) (dI := dI) (cy := cy) (a := a) (sz := H.size) h16 ho) hcw ⟨PcM_blind, hrcv, fun U hU hW => ?_⟩ rfl rfl hL.2.1 rfl (lv_room (Nat.zero_le _)) hd ⟨hroom.1, hroom.2⟩) hS (fun q _ h => hFc q h) hFc (fun r u t H1 locs1 ht hal hpost hB hz hk1 hS1 => ?_)
  · exact ⟨rfl, by rw [hU], by rw [hU]; exact hP, va_K.moved hW.alike hK, hD.weaken (fun _ _ _ _ => trivial), SX_go hSX hS hU hW hFc, hNW.warm hW⟩
  · obtain ⟨rfl, q, hq⟩ := hpost
    obtain ⟨hP1, hD1⟩ := hB
    rw [ht] at hP1
    obtain ⟨a', σ1⟩ := u
    have fin : (∀ k, (k < 60 ∨ (94 ≤ k ∧ k < 500) ∨ 600 ≤ k) → a' k = a k) ∧ σ1 999 = σ 999 ∧ (∀ σ2, ImM x σ1 σ2 → Inv σ2 ∧ nul σ2 + 1 ≤ nul σ) := by
      rcases hq with ⟨rfl, ha, hc⟩ | ⟨rfl, ha, hc⟩
      · simp only at ha hc
        refine ⟨fun k hk => by rw [ha]; exact aN_o (by omega) (by omega), by rw [hc.1 999 (by omega)]; exact sgN_o (by omega) (by omega) (by omega) (by omega), fun σ2 hm => ⟨img_inv0 (sgN_C (Or.inl rfl) hI) (sgN_1 hI) (sgN_16 (Or.inl rfl)) hc hm, ?_⟩⟩
        have e3 : σ2 16 = sgN 60 0 σ 16 := by rw [hm.1 16 (by omega) (by omega), hc.1 16 (by omega)]
        unfold nul
        rw [e3, sgN_16 (Or.inl rfl), sgN_16o (Or.inl rfl) (by decide), if_neg (c := ((60 : Nat) : Int) = 0) (by decide), if_pos h16]
        omega
      · simp only at ha hc
        refine ⟨fun k hk => by rw [ha]; exact aN_o (by omega) (by omega), by rw [hc.1 999 (by omega)]; exact sgN_o (by omega) (by omega) (by omega) (by omega), fun σ2 hm => ⟨img_inv1 (sgN_C (Or.inr rfl) hI) (sgN_0 hI) (sgN_16 (Or.inr rfl)) hc hm, ?_⟩⟩
        have e3 : σ2 16 = sgN 80 1 σ 16 := by rw [hm.1 16 (by omega) (by omega), hc.1 16 (by omega)]
        unfold nul
        rw [e3, sgN_16 (Or.inr rfl), sgN_16o (Or.inr rfl) (by decide), if_neg (c := ((80 : Nat) : Int) = 0) (by decide), if_pos h16]
        omega
    obtain ⟨f1, f2, f3⟩ := fin
    refine kk a' σ1 H1 locs1 f1 f2 f3 ⟨hP1, hD1.weaken (fun _ _ _ h => hFc _ h), hS1, lvh_a hL (fun v hv => ?_)⟩
    simp only [List.mem_cons, List.not_mem_nil, or_false] at hv
    rcases hv with rfl | rfl | rfl | rfl
    · show Value.ref (a' 999) = Value.ref (a 999)
      rw [f1 999 (by omega)]
    · show Value.ref (a' 1) = Value.ref (a 1)
      rw [f1 1 (by omega)]
    · show Value.ref (a' 100) = Value.ref (a 100)
      rw [f1 100 (by omega)]
    · rfl
