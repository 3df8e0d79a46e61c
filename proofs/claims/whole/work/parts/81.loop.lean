/-! The law's loop over the machine. -/
theorem no60 {τ : Sg} (h : τ 16 0 ≠ 60) : kn τ 60 = (9, 0) := by
  unfold kn kl; rw [if_neg h]
  by_cases h1 : τ 16 1 = 80
  · rw [if_pos h1]; decide +kernel
  · rw [if_neg h1]; decide +kernel
theorem no80 {τ : Sg} (h : τ 16 1 ≠ 80) : kn τ 80 = (9, 0) := by
  unfold kn kl; rw [if_neg h]
  by_cases h1 : τ 16 0 = 60
  · rw [if_pos h1]; decide +kernel
  · rw [if_neg h1]; decide +kernel
theorem nul_le {σ σ' : Sg} (hI : Inv σ) (hI' : Inv σ') (hk : kl σ' = kl σ) : nul σ' ≤ nul σ := by
  obtain ⟨-, -, -, h60, h80⟩ := hI
  obtain ⟨-, -, -, h60', h80'⟩ := hI'
  have e : ∀ k, kn σ' k = kn σ k := fun k => by unfold kn; rw [hk]
  have a0 : σ' 16 0 = 0 → σ 16 0 = 0 := fun q => by
    rcases h60 with h | h
    · exact h.2
    · have h1 := ki_60 h.2.1
      have h2 := no60 (τ := σ') (by omega)
      rw [e 60, h1] at h2
      exact absurd h2 (by decide)
  have a1 : σ' 16 1 = 0 → σ 16 1 = 0 := fun q => by
    rcases h80 with h | h
    · exact h.2
    · have h1 := ki_80 h.2.1
      have h2 := no80 (τ := σ') (by omega)
      rw [e 80, h1] at h2
      exact absurd h2 (by decide)
  unfold nul
  by_cases z0 : σ' 16 0 = 0
  · rw [if_pos z0, if_pos (a0 z0)]
    by_cases z1 : σ' 16 1 = 0
    · rw [if_pos z1, if_pos (a1 z1)]; exact Nat.le_refl _
    · rw [if_neg z1]; omega
  · rw [if_neg z0]
    by_cases z1 : σ' 16 1 = 0
    · rw [if_pos z1, if_pos (a1 z1)]; omega
    · rw [if_neg z1]; omega
theorem dl_1371 : decode code 1371 = .ok (.ireturn, 1) := by decide +kernel
section LOOP
variable {p : Program} {l : Launch} {e : Env} {s : State} {m : MethodId} {below : List Frame} {meth : Method} {c : Code} {b L : Nat} {xs : Nat → Int32} {dC : Nat → ClassId} {dI : Nat → Nat → Nat} {cy : Nat → ClassId}
theorem mkC {a : Nat → Nat} {cells slots : Nat} (C0 : lw_At p s m meth c b L xs) (hK : va_K (dC, dI) vwCl (tys cy) s) (hSX : SX a (fun q : Nat => s.heap.size ≤ q) s) (hc : cells ≤ 600000) (hs : slots ≤ 7302250) : Cx p room_1 s m #[Value.ref b] c dC dI cy a (fun q : Nat => s.heap.size ≤ q) mLaw 13 cells slots := by
  obtain ⟨hx, hb, hr, hml, hown, hts, hX, hbl, hlocks, hgv⟩ := C0
  exact ⟨hx, hb, hml, hown, fun w hw => hts w (lwg_in w hw), hK, ⟨Nat.le_of_ble_eq_true rfl, Nat.le_of_ble_eq_true rfl⟩, ⟨hc, hs⟩, hSX, fun _ h => h, by decide⟩
theorem law_loop (hL : L ≤ 3072) (C0 : lw_At p s m meth c b L xs) (hK : va_K (dC, dI) vwCl (tys cy) s) (hNW : NW s) : ∀ (n : Nat) (i : Int) (σ : Sg) (a : Nat → Nat) (H : Heap) (locs : List Loc) (rl : Array Slot) (cells slots : Nat), (L : Int) - i < n → 0 ≤ i → i ≤ 3072 → Inv σ → a 999 = b → SX a (fun q : Nat => s.heap.size ≤ q) s → σ 999 (-1) = L → (∀ j : Nat, j < L → σ 999 j = (xs j).toInt) → Rl dC dI cy a (fun q : Nat => s.heap.size ≤ q) s mLaw [vR 999, vR 1, vR 100, vI i] σ H locs rl → cells + 14 * nul σ ≤ 600000 → slots + 632 * nul σ ≤ 7302250 → W p l e room_1 s m #[Value.ref b] below meth c H locs cells slots (lw_Z below #[Value.ref b] s) (F0 m 18 rl []) := by
  obtain ⟨hx, hb, hret, hml, hown, hts, hX, hbl, hlocks, hgv⟩ := id C0
  have hbA : ¬ (s.heap.size ≤ b) := Nat.not_le.mpr hbl
  have hend : ∀ (i : Int) (σ : Sg) (a : Nat → Nat) (H : Heap) (locs : List Loc) (rl : Array Slot) (cells slots : Nat), 0 ≤ i → i ≤ 3072 → (L : Int) < i + 6 → a 999 = b → SX a (fun q : Nat => s.heap.size ≤ q) s → σ 999 (-1) = L → (∀ j : Nat, j < L → σ 999 j = (xs j).toInt) → Rl dC dI cy a (fun q : Nat => s.heap.size ≤ q) s mLaw [vR 999, vR 1, vR 100, vI i] σ H locs rl → cells ≤ 600000 → slots ≤ 7302250 → W p l e room_1 s m #[Value.ref b] below meth c H locs cells slots (lw_Z below #[Value.ref b] s) (F0 m 18 rl []) := by
    intro i σ a H locs rl cells slots h0 h1 h2 ha hSX h9 hsc hr hc hs
    obtain ⟨n, ls', st', σ', hsg, hst, hσ⟩ := law_end (σ := σ) (i := i) (by omega) (by omega)
    subst hst hσ
    refine run_ok (snd_all l 13) (mkC C0 hK hSX hc hs) n _ _ hsg H locs rl hr (fun _ => ⟨L, xs, by rw [ha]; exact hX, by rw [ha]; exact hbl, by rw [ha]; exact hbA, h9, hsc⟩) (fun H1 locs1 rl1 hr1 => ?_)
    refine va_forget (fun q hq => hr1.2.2.1.2.2 q hq) ?_
    refine W.widen (k := 600000) (n := 7302250) hc hs ?_
    exact lw_ret hx hb hret hlocks dl_1371
  intro n
  induction n with
  | zero =>
    intro i σ a H locs rl cells slots h0 h1 h2 hI ha hSX h9 hsc hr hc hs
    exact hend i σ a H locs rl cells slots h1 h2 (by omega) ha hSX h9 hsc hr (by omega) (by omega)
  | succ n ih =>
    intro i σ a H locs rl cells slots h0 h1 h2 hI ha hSX h9 hsc hr hc hs
    by_cases he : (L : Int) < i + 6
    · exact hend i σ a H locs rl cells slots h1 h2 he ha hSX h9 hsc hr (by omega) (by omega)
    · have hS : SC σ i := ⟨by omega, fun j a1 a2 => by
        have q := hsc j.toNat (by omega)
        rw [Int.toNat_of_nonneg a1] at q
        rw [q]
        have r1 := (xs j.toNat).le_toInt
        have r2 := (xs j.toNat).toInt_lt
        omega⟩
      have hXs : Xs a (fun q : Nat => s.heap.size ≤ q) s σ := ⟨L, xs, by rw [ha]; exact hX, by rw [ha]; exact hbl, by rw [ha]; exact hbA, h9, hsc⟩
      by_cases hn : NI σ i
      · obtain ⟨k, ls', st', σ', hsg, hls, hst, hσ⟩ := law_img1 hS hn
        rw [hls, hst, hσ] at hsg
        refine run_ok (snd_all l 13) (mkC C0 hK hSX (by omega) (by omega)) k _ _ hsg H locs rl hr (fun _ => hXs) (fun H1 locs1 rl1 hr1 => ?_)
        have hnul : 1 ≤ nul σ := by
          unfold nul
          rcases (show σ 999 (i + 1) = 0 ∨ σ 999 (i + 1) = 1 by have := hn.2.1; omega) with q | q
          · have h3 := hn.2.2
            rw [q] at h3
            rw [if_pos h3]; omega
          · have h3 := hn.2.2
            rw [q] at h3
            rw [if_pos h3]; omega
        refine img_step (mkC C0 hK hSX (by omega) (by omega)) hNW hr1 hn.2.1 hn.2.2 hI (by omega) (fun a' σ1 H2 locs2 ha' h9' hIm hr2 => ?_)
        have ha9 : a' 999 = b := by rw [ha' 999 (by omega)]; exact ha
        have hSX' := SX_a hSX (fun k hk => ha' k (by omega))
        have hpost : ∃ k2 σ2, sg 13 (Ev 13) mLaw k2 (1267, [vR 999, vR 1, vR 100, vI i], [vI 1], σ1) (18, [vR 999, vR 1, vR 100, vI (i + 6)], [], σ2) ∧ Inv σ2 ∧ σ2 999 = σ 999 ∧ nul σ2 + 1 ≤ nul σ := by
          obtain ⟨k2, ls2, st2, σ2, hsg2, q1, q2, q3, q4⟩ := law_img2 (σ := σ) (σ1 := σ1) hS h9' hn.2.1 hIm
          rw [q1, q2] at hsg2
          exact ⟨k2, σ2, hsg2, q3.1, q4, q3.2⟩
        obtain ⟨k2, σ2, hsg2, hI2, h92, hnul2⟩ := hpost
        refine run_ok (snd_all l 13) (mkC C0 hK hSX' (by omega) (by omega)) k2 _ _ hsg2 H2 locs2 rl1 hr2 (fun _ => ⟨L, xs, by rw [ha9]; exact hX, by rw [ha9]; exact hbl, by rw [ha9]; exact hbA, by show σ1 999 (-1) = L; rw [h9']; exact h9, fun j hj => by show σ1 999 j = _; rw [h9']; exact hsc j hj⟩) (fun H3 locs3 rl3 hr3 => ?_)
        exact ih (i + 6) σ2 a' H3 locs3 rl3 (cells + 14) (slots + 632) (by omega) (by omega) (by omega) hI2 ha9 hSX' (by rw [h92]; exact h9) (fun j hj => by rw [h92]; exact hsc j hj) hr3 (by omega) (by omega)
      · obtain ⟨k, ls', st', σ', hsg, hls, hst, hI', h9'⟩ := law_it hI hS hn
        subst hls hst
        refine run_ok (snd_all l 13) (mkC C0 hK hSX (by omega) (by omega)) k _ _ hsg H locs rl hr (fun _ => hXs) (fun H1 locs1 rl1 hr1 => ?_)
        have hkp := sg_kp (Ev_kp 13) k _ _ hsg
        have hnul := nul_le hI hI' hkp.1
        exact ih (i + 6) σ' a H1 locs1 rl1 cells slots (by omega) (by omega) (by omega) hI' ha hSX (by rw [h9']; exact h9) (fun j hj => by rw [h9']; exact hsc j hj) hr1 (by omega) (by omega)
end LOOP
