/-! Walks by other nights. -/
theorem wgo_bk {b b' wy ps wy' ps' : Int → Int} {f f' : Int} {pl pl' : Int → Int} {lg lg' : LG} {k : Int} (hb : 0 ≤ b 0 ∧ b 0 ≤ 6) (hag : ∀ i, i < 326 → b' i = b i) (hwt : ∀ s, 0 ≤ s → s < b 0 → 1 ≤ b (6 + 3 * s) ∧ b (6 + 3 * s) ≤ 99) (hP : PL (b 0) pl) (hpl : ∀ t, 0 ≤ t → t < b 0 → pl t = pl' t) (hk : 0 ≤ k) (hw : ∀ i, 0 ≤ i → i < k → (0 ≤ wy (f + i) ∧ wy (f + i) < 4) ∧ wy' (f' + i) = wy (f + i) ∧ ps' (f' + i) = ps (f + i)) : ∀ t, 0 ≤ t → t < b 0 → (wgo b wy ps f pl lg k).1 t = (wgo b' wy' ps' f' pl' lg' k).1 t := by
  have g := wgo_g (b := b) (b' := b') (wy := wy) (ps := ps) (wy' := wy') (ps' := ps') (f := f) (f' := f') (C := fun _ _ => True) (hit := fun _ => False) (pl := pl) (pl' := pl') (lg := lg) (lg' := lg') hb (hag 0 (by omega)) hwt hP hpl trivial k.toNat (by
    intro i a e
    obtain ⟨w1, w2, w3⟩ := hw i a (by omega)
    refine ⟨w1, w2, fun x y hV hxy _ _ => ?_, fun _ _ h => h, fun s a2 e2 => ?_⟩
    · rw [w3]
      have hx := vx_nx hV
      exact ⟨rst_sm hV hxy (hag 0 (by omega)) (fun s a2 e2 => by rw [ndS_c (hag _ (by omega)) (hag _ (by omega))]) (fun hl hnx => ⟨hag _ (by omega), fun _ _ => hag _ (by omega)⟩), trivial⟩
    · rw [w3]; exact stb_c (hag _ (by omega)) (hag _ (by omega)))
  rw [Int.toNat_of_nonneg hk] at g
  exact (g (fun h => h)).1
theorem wgo_split {b wy ps : Int → Int} {f m : Int} {pl : Int → Int} {lg : LG} (hm : 0 ≤ m) : ∀ k : Nat, wgo b wy ps f pl lg (m + k) = wgo b wy ps (f + m) (wgo b wy ps f pl lg m).1 (wgo b wy ps f pl lg m).2 k := by
  intro k
  induction k with
  | zero =>
    rw [show m + ((0 : Nat) : Int) = m by omega]
    generalize wgo b wy ps f pl lg m = X
    unfold wgo
    rfl
  | succ k ih =>
    rw [show m + ((k + 1 : Nat) : Int) = m + k + 1 by omega, show ((k + 1 : Nat) : Int) = (k : Int) + 1 by omega, wgo_s (by omega), wgo_s (by omega), ih, show f + (m + (k : Int)) = f + m + k by omega]
theorem wgo_neg {b wy ps : Int → Int} {f m : Int} {pl : Int → Int} {lg : LG} (hm : m ≤ 0) : wgo b wy ps f pl lg m = (pl, lg) := by
  unfold wgo itI
  rw [show m.toNat = 0 by omega]
  rfl
theorem ndS_par {b : Int → Int} {s w w' : Int} (h : w % 2 = w' % 2) : ndS b s w = ndS b s w' := by
  unfold ndS; rw [h]
theorem stb_lt {b : Int → Int} {s w p : Int} (h : 1 ≤ b (6 + 3 * s) ∧ b (6 + 3 * s) ≤ 99) : stb b s w p = 0 ↔ p < ndS b s w := by
  have h2 := ndS_rg (w := w) h
  unfold stb
  by_cases q : p < ndS b s w
  · rw [if_pos q]; simp [q]
  · rw [if_neg q]
    have h3 : 0 ≤ (p - ndS b s w) / (4 * b (6 + 3 * s)) := Int.ediv_nonneg (by omega) (by omega)
    constructor
    · intro z; exfalso; split at z <;> omega
    · intro z; exact absurd z q
/-- no stone can tell the two pushes apart -/
def alk (b : Int → Int) (p p' w : Int) : Prop := ∀ s, 0 ≤ s → s < b 0 → stb b s w p = stb b s w p' ∧ (ndS b s ((w + 1) % 4) ≤ p ↔ ndS b s ((w + 1) % 4) ≤ p')
theorem alk_nd {b : Int → Int} {p p' w w' : Int} (hwt : ∀ s, 0 ≤ s → s < b 0 → 1 ≤ b (6 + 3 * s) ∧ b (6 + 3 * s) ≤ 99) (hw : 0 ≤ w ∧ w < 4) (hw' : 0 ≤ w' ∧ w' < 4) (h : alk b p p' w) : ∀ s, 0 ≤ s → s < b 0 → (ndS b s w' ≤ p' ↔ ndS b s w' ≤ p) := by
  intro s a e
  obtain ⟨h1, h2⟩ := h s a e
  by_cases z : w' % 2 = w % 2
  · rw [ndS_par z]
    have e1 := stb_lt (w := w) (p := p) (hwt s a e)
    have e2 := stb_lt (w := w) (p := p') (hwt s a e)
    rw [h1, e2] at e1
    omega
  · rw [ndS_par (show w' % 2 = ((w + 1) % 4) % 2 by omega)]
    exact h2.symm
theorem wgo_al {b wy ps ps' : Int → Int} {f : Int} {pl : Int → Int} {lg lg' : LG} {k : Int} (hb : 0 ≤ b 0 ∧ b 0 ≤ 6) (hwt : ∀ s, 0 ≤ s → s < b 0 → 1 ≤ b (6 + 3 * s) ∧ b (6 + 3 * s) ≤ 99) (hP : PL (b 0) pl) (hk : 0 ≤ k) (hw : ∀ i, 0 ≤ i → i < k → (0 ≤ wy (f + i) ∧ wy (f + i) < 4) ∧ (ps' (f + i) = ps (f + i) ∨ alk b (ps (f + i)) (ps' (f + i)) (wy (f + i)))) : ∀ t, 0 ≤ t → t < b 0 → (wgo b wy ps f pl lg k).1 t = (wgo b wy ps' f pl lg' k).1 t := by
  have g := wgo_g (b := b) (b' := b) (wy := wy) (ps := ps) (wy' := wy) (ps' := ps') (f := f) (f' := f) (C := fun _ _ => True) (hit := fun _ => False) (pl := pl) (pl' := pl) (lg := lg) (lg' := lg') hb rfl hwt hP (fun _ _ _ => rfl) trivial k.toNat (by
    intro i a e
    obtain ⟨w1, w2⟩ := hw i a (by omega)
    refine ⟨w1, rfl, fun x y hV hxy _ _ => ⟨rst_sm hV hxy rfl (fun s a2 e2 => ?_) (fun _ _ => ⟨rfl, fun _ _ => rfl⟩), trivial⟩, fun _ _ h => h, fun s a2 e2 => ?_⟩
    · rcases w2 with w2 | w2
      · rw [w2]
      · exact alk_nd hwt w1 hV.2.1 w2 s a2 e2
    · rcases w2 with w2 | w2
      · rw [w2]
      · exact (w2 s a2 e2).1.symm)
  rw [Int.toNat_of_nonneg hk] at g
  exact (g (fun h => h)).1
theorem walkAll_ok2 {d : Nat} {b : Int → Int} {k : Int} {σ : Sg} (hF : FInv 2 b σ) (hk : -1 ≤ k ∧ k < 20) : ∃ σ2, Ev (d + 6) m_X5_walkAll [vR 1, vI k] σ none σ2 ∧ WA b σ k σ2 ∧ ∀ s, 0 ≤ s → s < 6 → -1 ≤ σ2 19 s ∧ σ2 19 s < 144 := by
  have hFW := FW_of hF
  have hP := PL0 hF
  have hN := wth_B hF
  have hF2 := hF
  simp only [FInv, Nat.reduceAdd] at hF2
  obtain ⟨⟨n0, n1, n2⟩, i2, i3, -⟩ := hF2
  obtain ⟨σs, es⟩ : ∃ σs, σs = cpy (up (up (up σ 18 8 2) 18 9 (and32 63 (shl32 1 (σ 2 0) - 1))) 18 6 0) 4 0 19 0 6 := ⟨_, rfl⟩
  have fs : ∀ c, c ≠ 18 → c ≠ 19 → σs c = σ c := fun c a1 a2 => by rw [es, cpy_ne a2, up_ne a1, up_ne a1, up_ne a1]
  have s19 : ∀ s, 0 ≤ s → s < 6 → σs 19 s = σ 4 s := by
    intro s a c
    rw [es, cpy_i (by omega), show (0 + (s - 0) : Int) = s by omega]
    simp (disch := omega) only [up_n]
  have h19 : ∀ s, 0 ≤ s → s < 6 → -1 ≤ σs 19 s ∧ σs 19 s < 144 := by
    intro s a c
    have q := i2 s a c
    rw [s19 s a c, q.2.1]
    omega
  have hFs : FW b σs := by
    unfold FW
    rw [fs 2 (by omega) (by omega), fs 5 (by omega) (by omega), fs 6 (by omega) (by omega), fs 7 (by omega) (by omega), fs 8 (by omega) (by omega)]
    exact hFW
  have hW0 : WR b σs (pl0 b) lg0 := by
    refine ⟨fun s a c q => ?_, ?_, Int.le_refl _, fun j a c => ?_, hP⟩
    · rw [s19 s a c, (i2 s a c).2.1]; rfl
    · rw [es]; simp (disch := omega) only [cpy_n, up_s]; rfl
    · exfalso; simp only [lg0] at c; omega
  obtain ⟨σ2, hE, hG⟩ := go_ok9 (d := d) (b := b) (wy := wyB b) (ps := psB b) (first := 0) (f := 0) (last := k) (σ := σs) (pl := pl0 b) (lg := lg0) hFs (by rw [es]; simp (disch := omega) only [cpy_n, up_o, up_s]) h19 (by
      intro s a c
      rw [es]
      simp (disch := omega) only [cpy_n, up_o, up_s]
      rw [n2, pb_allI ⟨n0, n1⟩ ⟨a, c⟩]
      constructor
      · intro q
        have := (i3 s a q).2.1
        exact ⟨q, by unfold pl0; omega⟩
      · exact fun q => q.1) hW0 (by omega) (by simp) hk (by omega) (by
      intro n a c
      rw [fs 10 (by omega) (by omega), fs 11 (by omega) (by omega), fs 12 (by omega) (by omega)]
      exact hN n a (by omega)) (by simp only [lg0]; omega)
  have hV := wgo_ok (b := b) (wy := wyB b) (ps := psB b) (f := 0) (pl := pl0 b) (lg := lg0) ⟨n0, n1⟩ (fun s a c => (i3 s a c).2.2.1) hP (k + 1 - 0).toNat (fun i a c => (hN (0 + i) (by omega) (by omega)).2.1)
  rw [Int.toNat_of_nonneg (by omega)] at hV
  have h192 := GR_19 h19 hG hV
  have key : Rn (d + 5) m_X5_walkAll 0 [vR 1, vI k] [] σ (fun r σ2 => r = none ∧ WA b σ k σ2 ∧ ∀ s, 0 ≤ s → s < 6 → -1 ≤ σ2 19 s ∧ σ2 19 s < 144) := by
    rw [es] at hE
    simp (disch := (first | omega | assumption | exact Nat.le_of_ble_eq_true rfl | (simp only [kn_1, kn_2, kn_3, kn_4, kn_5, kn_6, kn_7, kn_8, kn_9, kn_10, kn_11, kn_12, kn_13, kn_14, kn_15, kn_16, kn_17, kn_18, kn_19, kn_20, kn_21, kn_22, kn_23, kn_24, kn_25, kn_26, kn_27, kn_28, kn_29, kn_30, kn_31, kn_32, kn_33, kn_34, kn_35, kn_36, kn_37, kn_38, kn_39, kn_40, kn_41, kn_42, kn_43, kn_44, kn_45, kn_46, kn_47, kn_100, kn_101, kn_102, kn_103, kn_104, kn_105, kn_106, kn_107, kn_108, kn_109, kn_110, kn_111, kn_112, kn_113, kn_114, kn_115, kn_116, kn_117, kn_118]; done) | (simp (disch := omega) only [w32_id, w64_id, w64_w32, up_n, up_ne, up_o, up_s, fll_ne, cpy_n, cpy_ne, List.length_nil, List.length_cons, al_3, al_4, al_5, al_6, al_7, al_8, al_10, al_11, al_12, al_13, al_14, al_15, al_16, al_17, al_19, al_20, al_21, al_22, al_23, al_24, al_25, al_27, al_28, al_29, al_30, al_31, al_32, al_33, al_34, al_35, al_37, al_39, al_40, al_41, al_42, al_43, al_44, al_45, al_46, al_47, al_101, al_102, al_103, al_104, al_105, al_106, al_107, al_108, al_109, al_110, al_111, al_112, al_113, al_114, al_115, al_116, al_117, al_118]; first | done | omega | assumption) | (simp only [w32_eq, al_3, al_4, al_5, al_6, al_7, al_8, al_10, al_11, al_12, al_13, al_14, al_15, al_16, al_17, al_19, al_20, al_21, al_22, al_23, al_24, al_25, al_27, al_28, al_29, al_30, al_31, al_32, al_33, al_34, al_35, al_37, al_39, al_40, al_41, al_42, al_43, al_44, al_45, al_46, al_47, al_101, al_102, al_103, al_104, al_105, al_106, al_107, al_108, al_109, al_110, al_111, al_112, al_113, al_114, al_115, al_116, al_117, al_118]; omega))) only [s_X5_walkAll_0, s_X5_walkAll_1, s_X5_walkAll_4, s_X5_walkAll_5, s_X5_walkAll_8, s_X5_walkAll_10, s_X5_walkAll_11, s_X5_walkAll_14, s_X5_walkAll_17, s_X5_walkAll_20, s_X5_walkAll_21, s_X5_walkAll_24, s_X5_walkAll_25, s_X5_walkAll_28, s_X5_walkAll_31, s_X5_walkAll_32, s_X5_walkAll_33, s_X5_walkAll_36, psh_some, psh_none, not_true_eq_false, not_false_eq_true, Classical.not_not, List.cons_append, true_and, and_true, if_true, if_false, ite_self, Int.toNat_natCast, Int.reduceAdd, Int.reduceSub, Int.reduceMul, Int.reduceNeg, kn_1, kn_2, kn_3, al_3, kn_4, al_4, kn_5, al_5, kn_6, al_6, kn_7, al_7, kn_8, al_8, kn_9, kn_10, al_10, kn_11, al_11, kn_12, al_12, kn_13, al_13, kn_14, al_14, kn_15, al_15, kn_16, al_16, kn_17, al_17, kn_18, kn_19, al_19, kn_20, al_20, kn_21, al_21, kn_22, al_22, kn_23, al_23, kn_24, al_24, kn_25, al_25, kn_26, kn_27, al_27, kn_28, al_28, kn_29, al_29, kn_30, al_30, kn_31, al_31, kn_32, al_32, kn_33, al_33, kn_34, al_34, kn_35, al_35, kn_36, kn_37, al_37, kn_38, kn_39, al_39, kn_40, al_40, kn_41, al_41, kn_42, al_42, kn_43, al_43, kn_44, al_44, kn_45, al_45, kn_46, al_46, kn_47, al_47, kn_100, kn_101, al_101, kn_102, al_102, kn_103, al_103, kn_104, al_104, kn_105, al_105, kn_106, al_106, kn_107, al_107, kn_108, al_108, kn_109, al_109, kn_110, al_110, kn_111, al_111, kn_112, al_112, kn_113, al_113, kn_114, al_114, kn_115, al_115, kn_116, al_116, kn_117, al_117, kn_118, al_118, tp_1_0, tp_1_1, tp_1_2, tp_1_3, tp_1_4, tp_1_5, tp_1_6, tp_1_7, tp_1_9, tp_1_10, tp_1_11, tp_1_12, tp_2_1, tp_2_2, tp_2_3, tp_2_4, tp_2_5, tp_2_6, tp_2_7, tp_2_8, tp_2_11, tp_9_0, tp_9_1, tp_9_2, tp_9_3, tp_18_0, tp_18_1, tp_18_2, tp_18_3, tp_18_4, tp_18_5, tp_18_7, tp_26_0, tp_26_1, tp_26_2, tp_26_3, tp_36_0, tp_38_2, tp_38_3, tp_38_4, tp_38_5, tp_38_6, tp_38_7, tp_38_8, tp_38_9, tp_38_10, tp_100_0, tp_100_1, tp_100_2, tp_100_3, tp_100_6, tp_100_7, tp_100_8, tp_100_9, tp_100_11, tp_100_13, tp_100_14, tp_100_17, tp_100_18, tp_100_23, tp_100_25, tp_100_26, tp_100_27, tp_100_28, x_within, x_in, x_isBehind, x_isStone5, x_refuse_bad, x_refuse_no, x_refuse_full, x_refuses, x_bad, x_no, x_full, x_isCell, x_isNight, x_isFarmer, x_isStone6, x_ofStone, x_needOf, x_wetOf, x_ofNight, x_isFirstCell, x_isFirst, x_sets, x_tell, x_tellT, x_drawnAfter, x_figureOf, x_fill15, x_fill44, x_fill34, x_fill35, x_tellS, x_tellN, x_needBy, x_addStone, x_stakesThere, x_stonesFound, x_countOf, x_howMany, x_nextCell, x_next, x_turned, x_stepsBy, x_stoneAt, x_isPresent, x_pushOf9, x_pushOf26, x_log, x_start4, x_start31, x_movedIn, x_stoneOf, x_nightOf, x_wayOfStep, x_stepsOf, x_nightsOfStep, x_foundElsewhere, x_furrowsFrom, x_furrowFrom, x_bitCount, x_bits, x_movedAmong, x_setFraction, x_tells, ↓if_pos, ↓if_neg, up_n, up_ne, up_o, up_s, fll_ne, cpy_n, cpy_ne, w32_id, w64_id, w64_w32, div32_eq, rem32_eq, ite0, Ev_ex hE]
    obtain ⟨g1, g2, g3, g4, g5, g6⟩ := hG
    refine ⟨⟨fun c hc => by rw [g1 c hc, fs c (by omega) (by omega)], ?_, fun m a c => g5 m a (by omega)⟩, h192⟩
    rw [show k + 1 - 0 = k + 1 by omega] at g4
    exact g4
  obtain ⟨r, σ3, h1, rfl, h2⟩ := eo_X5_walkAll key
  exact ⟨σ3, h1, h2⟩
theorem go_none {d : Nat} {f last : Int} {σ : Sg} (hf : 0 ≤ f ∧ f ≤ 20) (hl : -1 ≤ last ∧ last < f) : Ev (d + 1) m_X4_go [vR 18, vR 26, vI f, vI last] σ none σ := by
  apply en_X4_go
  have hm : (if 0 < f then f else 0) = f := by split <;> omega
  simp (disch := (first | omega | assumption | exact Nat.le_of_ble_eq_true rfl | (simp only [kn_1, kn_2, kn_3, kn_4, kn_5, kn_6, kn_7, kn_8, kn_9, kn_10, kn_11, kn_12, kn_13, kn_14, kn_15, kn_16, kn_17, kn_18, kn_19, kn_20, kn_21, kn_22, kn_23, kn_24, kn_25, kn_26, kn_27, kn_28, kn_29, kn_30, kn_31, kn_32, kn_33, kn_34, kn_35, kn_36, kn_37, kn_38, kn_39, kn_40, kn_41, kn_42, kn_43, kn_44, kn_45, kn_46, kn_47, kn_100, kn_101, kn_102, kn_103, kn_104, kn_105, kn_106, kn_107, kn_108, kn_109, kn_110, kn_111, kn_112, kn_113, kn_114, kn_115, kn_116, kn_117, kn_118]; done) | (simp (disch := omega) only [w32_id, w64_id, w64_w32, up_n, up_ne, up_o, up_s, fll_ne, cpy_n, cpy_ne, List.length_nil, List.length_cons, al_3, al_4, al_5, al_6, al_7, al_8, al_10, al_11, al_12, al_13, al_14, al_15, al_16, al_17, al_19, al_20, al_21, al_22, al_23, al_24, al_25, al_27, al_28, al_29, al_30, al_31, al_32, al_33, al_34, al_35, al_37, al_39, al_40, al_41, al_42, al_43, al_44, al_45, al_46, al_47, al_101, al_102, al_103, al_104, al_105, al_106, al_107, al_108, al_109, al_110, al_111, al_112, al_113, al_114, al_115, al_116, al_117, al_118]; first | done | omega | assumption) | (simp only [w32_eq, al_3, al_4, al_5, al_6, al_7, al_8, al_10, al_11, al_12, al_13, al_14, al_15, al_16, al_17, al_19, al_20, al_21, al_22, al_23, al_24, al_25, al_27, al_28, al_29, al_30, al_31, al_32, al_33, al_34, al_35, al_37, al_39, al_40, al_41, al_42, al_43, al_44, al_45, al_46, al_47, al_101, al_102, al_103, al_104, al_105, al_106, al_107, al_108, al_109, al_110, al_111, al_112, al_113, al_114, al_115, al_116, al_117, al_118]; omega))) only [s_X4_go_0, s_X4_go_1, s_X4_go_2, s_X4_go_5, s_X4_go_9, s_X4_go_10, s_X4_go_13, s_X4_go_15, s_X4_go_17, s_X4_go_20, s_X4_go_21, s_X4_go_23, s_X4_go_26, s_X4_go_27, s_X4_go_28, s_X4_go_31, s_X4_go_33, s_X4_go_34, s_X4_go_37, s_X4_go_38, s_X4_go_39, s_X4_go_41, s_X4_go_44, s_X4_go_47, s_X4_go_48, s_X4_go_51, s_X4_go_54, s_X4_go_57, psh_some, psh_none, not_true_eq_false, not_false_eq_true, Classical.not_not, List.cons_append, true_and, and_true, if_true, if_false, ite_self, Int.toNat_natCast, Int.reduceAdd, Int.reduceSub, Int.reduceMul, Int.reduceNeg, kn_1, kn_2, kn_3, al_3, kn_4, al_4, kn_5, al_5, kn_6, al_6, kn_7, al_7, kn_8, al_8, kn_9, kn_10, al_10, kn_11, al_11, kn_12, al_12, kn_13, al_13, kn_14, al_14, kn_15, al_15, kn_16, al_16, kn_17, al_17, kn_18, kn_19, al_19, kn_20, al_20, kn_21, al_21, kn_22, al_22, kn_23, al_23, kn_24, al_24, kn_25, al_25, kn_26, kn_27, al_27, kn_28, al_28, kn_29, al_29, kn_30, al_30, kn_31, al_31, kn_32, al_32, kn_33, al_33, kn_34, al_34, kn_35, al_35, kn_36, kn_37, al_37, kn_38, kn_39, al_39, kn_40, al_40, kn_41, al_41, kn_42, al_42, kn_43, al_43, kn_44, al_44, kn_45, al_45, kn_46, al_46, kn_47, al_47, kn_100, kn_101, al_101, kn_102, al_102, kn_103, al_103, kn_104, al_104, kn_105, al_105, kn_106, al_106, kn_107, al_107, kn_108, al_108, kn_109, al_109, kn_110, al_110, kn_111, al_111, kn_112, al_112, kn_113, al_113, kn_114, al_114, kn_115, al_115, kn_116, al_116, kn_117, al_117, kn_118, al_118, tp_1_0, tp_1_1, tp_1_2, tp_1_3, tp_1_4, tp_1_5, tp_1_6, tp_1_7, tp_1_9, tp_1_10, tp_1_11, tp_1_12, tp_2_1, tp_2_2, tp_2_3, tp_2_4, tp_2_5, tp_2_6, tp_2_7, tp_2_8, tp_2_11, tp_9_0, tp_9_1, tp_9_2, tp_9_3, tp_18_0, tp_18_1, tp_18_2, tp_18_3, tp_18_4, tp_18_5, tp_18_7, tp_26_0, tp_26_1, tp_26_2, tp_26_3, tp_36_0, tp_38_2, tp_38_3, tp_38_4, tp_38_5, tp_38_6, tp_38_7, tp_38_8, tp_38_9, tp_38_10, tp_100_0, tp_100_1, tp_100_2, tp_100_3, tp_100_6, tp_100_7, tp_100_8, tp_100_9, tp_100_11, tp_100_13, tp_100_14, tp_100_17, tp_100_18, tp_100_23, tp_100_25, tp_100_26, tp_100_27, tp_100_28, x_within, x_in, x_isBehind, x_isStone5, x_refuse_bad, x_refuse_no, x_refuse_full, x_refuses, x_bad, x_no, x_full, x_isCell, x_isNight, x_isFarmer, x_isStone6, x_ofStone, x_needOf, x_wetOf, x_ofNight, x_isFirstCell, x_isFirst, x_sets, x_tell, x_tellT, x_drawnAfter, x_figureOf, x_fill15, x_fill44, x_fill34, x_fill35, x_tellS, x_tellN, x_needBy, x_addStone, x_stakesThere, x_stonesFound, x_countOf, x_howMany, x_nextCell, x_next, x_turned, x_stepsBy, x_stoneAt, x_isPresent, x_pushOf9, x_pushOf26, x_log, x_start4, x_start31, x_movedIn, x_stoneOf, x_nightOf, x_wayOfStep, x_stepsOf, x_nightsOfStep, x_foundElsewhere, x_furrowsFrom, x_furrowFrom, x_bitCount, x_bits, x_movedAmong, x_setFraction, x_tells, ↓if_pos, ↓if_neg, up_n, up_ne, up_o, up_s, fll_ne, cpy_n, cpy_ne, w32_id, w64_id, w64_w32, div32_eq, rem32_eq, ite0, hm]
  rw [s_X4_go_7]
  simp (disch := (first | omega | assumption | exact Nat.le_of_ble_eq_true rfl | (simp only [kn_1, kn_2, kn_3, kn_4, kn_5, kn_6, kn_7, kn_8, kn_9, kn_10, kn_11, kn_12, kn_13, kn_14, kn_15, kn_16, kn_17, kn_18, kn_19, kn_20, kn_21, kn_22, kn_23, kn_24, kn_25, kn_26, kn_27, kn_28, kn_29, kn_30, kn_31, kn_32, kn_33, kn_34, kn_35, kn_36, kn_37, kn_38, kn_39, kn_40, kn_41, kn_42, kn_43, kn_44, kn_45, kn_46, kn_47, kn_100, kn_101, kn_102, kn_103, kn_104, kn_105, kn_106, kn_107, kn_108, kn_109, kn_110, kn_111, kn_112, kn_113, kn_114, kn_115, kn_116, kn_117, kn_118]; done) | (simp (disch := omega) only [w32_id, w64_id, w64_w32, up_n, up_ne, up_o, up_s, fll_ne, cpy_n, cpy_ne, List.length_nil, List.length_cons, al_3, al_4, al_5, al_6, al_7, al_8, al_10, al_11, al_12, al_13, al_14, al_15, al_16, al_17, al_19, al_20, al_21, al_22, al_23, al_24, al_25, al_27, al_28, al_29, al_30, al_31, al_32, al_33, al_34, al_35, al_37, al_39, al_40, al_41, al_42, al_43, al_44, al_45, al_46, al_47, al_101, al_102, al_103, al_104, al_105, al_106, al_107, al_108, al_109, al_110, al_111, al_112, al_113, al_114, al_115, al_116, al_117, al_118]; first | done | omega | assumption) | (simp only [w32_eq, al_3, al_4, al_5, al_6, al_7, al_8, al_10, al_11, al_12, al_13, al_14, al_15, al_16, al_17, al_19, al_20, al_21, al_22, al_23, al_24, al_25, al_27, al_28, al_29, al_30, al_31, al_32, al_33, al_34, al_35, al_37, al_39, al_40, al_41, al_42, al_43, al_44, al_45, al_46, al_47, al_101, al_102, al_103, al_104, al_105, al_106, al_107, al_108, al_109, al_110, al_111, al_112, al_113, al_114, al_115, al_116, al_117, al_118]; omega))) only [s_X4_go_0, s_X4_go_1, s_X4_go_2, s_X4_go_5, s_X4_go_9, s_X4_go_10, s_X4_go_13, s_X4_go_15, s_X4_go_17, s_X4_go_20, s_X4_go_21, s_X4_go_23, s_X4_go_26, s_X4_go_27, s_X4_go_28, s_X4_go_31, s_X4_go_33, s_X4_go_34, s_X4_go_37, s_X4_go_38, s_X4_go_39, s_X4_go_41, s_X4_go_44, s_X4_go_47, s_X4_go_48, s_X4_go_51, s_X4_go_54, s_X4_go_57, psh_some, psh_none, not_true_eq_false, not_false_eq_true, Classical.not_not, List.cons_append, true_and, and_true, if_true, if_false, ite_self, Int.toNat_natCast, Int.reduceAdd, Int.reduceSub, Int.reduceMul, Int.reduceNeg, kn_1, kn_2, kn_3, al_3, kn_4, al_4, kn_5, al_5, kn_6, al_6, kn_7, al_7, kn_8, al_8, kn_9, kn_10, al_10, kn_11, al_11, kn_12, al_12, kn_13, al_13, kn_14, al_14, kn_15, al_15, kn_16, al_16, kn_17, al_17, kn_18, kn_19, al_19, kn_20, al_20, kn_21, al_21, kn_22, al_22, kn_23, al_23, kn_24, al_24, kn_25, al_25, kn_26, kn_27, al_27, kn_28, al_28, kn_29, al_29, kn_30, al_30, kn_31, al_31, kn_32, al_32, kn_33, al_33, kn_34, al_34, kn_35, al_35, kn_36, kn_37, al_37, kn_38, kn_39, al_39, kn_40, al_40, kn_41, al_41, kn_42, al_42, kn_43, al_43, kn_44, al_44, kn_45, al_45, kn_46, al_46, kn_47, al_47, kn_100, kn_101, al_101, kn_102, al_102, kn_103, al_103, kn_104, al_104, kn_105, al_105, kn_106, al_106, kn_107, al_107, kn_108, al_108, kn_109, al_109, kn_110, al_110, kn_111, al_111, kn_112, al_112, kn_113, al_113, kn_114, al_114, kn_115, al_115, kn_116, al_116, kn_117, al_117, kn_118, al_118, tp_1_0, tp_1_1, tp_1_2, tp_1_3, tp_1_4, tp_1_5, tp_1_6, tp_1_7, tp_1_9, tp_1_10, tp_1_11, tp_1_12, tp_2_1, tp_2_2, tp_2_3, tp_2_4, tp_2_5, tp_2_6, tp_2_7, tp_2_8, tp_2_11, tp_9_0, tp_9_1, tp_9_2, tp_9_3, tp_18_0, tp_18_1, tp_18_2, tp_18_3, tp_18_4, tp_18_5, tp_18_7, tp_26_0, tp_26_1, tp_26_2, tp_26_3, tp_36_0, tp_38_2, tp_38_3, tp_38_4, tp_38_5, tp_38_6, tp_38_7, tp_38_8, tp_38_9, tp_38_10, tp_100_0, tp_100_1, tp_100_2, tp_100_3, tp_100_6, tp_100_7, tp_100_8, tp_100_9, tp_100_11, tp_100_13, tp_100_14, tp_100_17, tp_100_18, tp_100_23, tp_100_25, tp_100_26, tp_100_27, tp_100_28, x_within, x_in, x_isBehind, x_isStone5, x_refuse_bad, x_refuse_no, x_refuse_full, x_refuses, x_bad, x_no, x_full, x_isCell, x_isNight, x_isFarmer, x_isStone6, x_ofStone, x_needOf, x_wetOf, x_ofNight, x_isFirstCell, x_isFirst, x_sets, x_tell, x_tellT, x_drawnAfter, x_figureOf, x_fill15, x_fill44, x_fill34, x_fill35, x_tellS, x_tellN, x_needBy, x_addStone, x_stakesThere, x_stonesFound, x_countOf, x_howMany, x_nextCell, x_next, x_turned, x_stepsBy, x_stoneAt, x_isPresent, x_pushOf9, x_pushOf26, x_log, x_start4, x_start31, x_movedIn, x_stoneOf, x_nightOf, x_wayOfStep, x_stepsOf, x_nightsOfStep, x_foundElsewhere, x_furrowsFrom, x_furrowFrom, x_bitCount, x_bits, x_movedAmong, x_setFraction, x_tells, ↓if_pos, ↓if_neg, up_n, up_ne, up_o, up_s, fll_ne, cpy_n, cpy_ne, w32_id, w64_id, w64_w32, div32_eq, rem32_eq, ite0, hm]
theorem goT_ok {d : Nat} {b wy ps pl : Int → Int} {f last : Int} {X : Nat} {σ : Sg} (hF : FInv 2 b σ) (hX : X ≠ 18 ∧ X ≠ 19) (h19 : ∀ s, 0 ≤ s → s < 6 → -1 ≤ σ X s ∧ σ X s < 144) (hpl : ∀ s, 0 ≤ s → s < b 0 → σ X s = pl s ∧ 0 ≤ pl s) (hP : PL (b 0) pl) (hl : -1 ≤ last ∧ last < 20) (hf : 0 ≤ f ∧ f ≤ 20) (hn : ∀ n, f ≤ n → n ≤ last → σ 27 n = wy n ∧ (0 ≤ wy n ∧ wy n < 4) ∧ σ 28 n * σ 29 n = ps n ∧ (0 ≤ ps n ∧ ps n ≤ 891)) : ∃ σ2, Ev (d + 5) m_X4_go [vR 18, vR 26, vI f, vI last] (cpy (up (up (up σ 18 8 2) 18 9 (and32 63 (shl32 1 (σ 2 0) - 1))) 18 6 0) X 0 19 0 6) none σ2 ∧ (∀ c, (c < 18 ∨ 24 < c) → σ2 c = σ c) ∧ ∀ s, 0 ≤ s → s < b 0 → σ2 19 s = (wgo b wy ps f pl lg0 (last + 1 - f)).1 s ∧ 0 ≤ σ2 19 s ∧ σ2 19 s < 144 := by
  have hFW := FW_of hF
  have hF2 := hF
  simp only [FInv, Nat.reduceAdd] at hF2
  obtain ⟨⟨n0, n1, n2⟩, i2, i3, -⟩ := hF2
  obtain ⟨σs, es⟩ : ∃ σs, σs = cpy (up (up (up σ 18 8 2) 18 9 (and32 63 (shl32 1 (σ 2 0) - 1))) 18 6 0) X 0 19 0 6 := ⟨_, rfl⟩
  rw [← es]
  have fs : ∀ c, c ≠ 18 → c ≠ 19 → σs c = σ c := fun c a1 a2 => by rw [es, cpy_ne a2, up_ne a1, up_ne a1, up_ne a1]
  have s19 : ∀ s, 0 ≤ s → s < 6 → σs 19 s = σ X s := by
    intro s a c
    rw [es, cpy_i (by omega), show (0 + (s - 0) : Int) = s by omega, up_n hX.1, up_n hX.1, up_n hX.1]
  have hFs : FW b σs := by
    unfold FW
    rw [fs 2 (by omega) (by omega), fs 5 (by omega) (by omega), fs 6 (by omega) (by omega), fs 7 (by omega) (by omega), fs 8 (by omega) (by omega)]
    exact hFW
  have hwt : ∀ s, 0 ≤ s → s < b 0 → 1 ≤ b (6 + 3 * s) ∧ b (6 + 3 * s) ≤ 99 := fun s a c => (i3 s a c).2.2.1
  by_cases hfl : f ≤ last + 1
  · have hW0 : WR b σs pl lg0 := by
      refine ⟨fun s a c q => ?_, ?_, Int.le_refl _, fun j a c => ?_, hP⟩
      · rw [s19 s a c]; exact (hpl s a q.1).1
      · rw [es]; simp (disch := omega) only [cpy_n, up_s]; rfl
      · exfalso; simp only [lg0] at c; omega
    obtain ⟨σ2, hE, hG⟩ := go_ok26 (d := d) (b := b) (wy := wy) (ps := ps) (first := f) (f := f) (last := last) (σ := σs) (pl := pl) (lg := lg0) hFs (by rw [es]; simp (disch := omega) only [cpy_n, up_o, up_s]) (by
        intro s a c
        rw [s19 s a c]
        exact h19 s a c) (by
        intro s a c
        rw [es]
        simp (disch := omega) only [cpy_n, up_o, up_s]
        rw [n2, pb_allI ⟨n0, n1⟩ ⟨a, c⟩]
        constructor
        · intro q
          have := (hpl s a q).2
          exact ⟨q, by omega⟩
        · exact fun q => q.1) hW0 (by omega) (by split <;> omega) hl hfl (by
        intro n a c
        rw [fs 27 (by omega) (by omega), fs 28 (by omega) (by omega), fs 29 (by omega) (by omega)]
        exact hn n a c) (by simp only [lg0]; omega)
    obtain ⟨g1, g2, g3, g4, g5, g6⟩ := hG
    have hV := wgo_ok (b := b) (wy := wy) (ps := ps) (f := f) (pl := pl) (lg := lg0) ⟨n0, n1⟩ hwt hP (last + 1 - f).toNat (fun i a c => (hn (f + i) (by omega) (by omega)).2.1)
    rw [Int.toNat_of_nonneg (by omega)] at hV
    refine ⟨σ2, hE, fun c hc => by rw [g1 c hc, fs c (by omega) (by omega)], fun s a c => ?_⟩
    have q := hV.1.1 s a c
    have q2 := hV.2.2.2 s a c
    have q3 := (hpl s a c).2
    have q4 := g4.1 s a (by omega) ⟨c, by omega⟩
    exact ⟨q4, by omega, by omega⟩
  · refine ⟨σs, go_none hf (by omega), fun c hc => fs c (by omega) (by omega), fun s a c => ?_⟩
    rw [wgo_neg (by omega)]
    have q := hpl s a c
    have q2 := h19 s a (by omega)
    rw [s19 s a (by omega)]
    exact ⟨q.1, by omega, by omega⟩
theorem elT_ok {d : Nat} {b P : Int → Int} {σ σ2 : Sg} (hF : FInv 2 b σ) (h2 : σ2 2 = σ 2) (h15 : σ2 15 = σ 15) (hP : ∀ s, 0 ≤ s → s < b 0 → σ2 19 s = P s ∧ 0 ≤ σ2 19 s ∧ σ2 19 s < 144) : Ev (d + 1) m_X0_foundElsewhere [vR 2, vR 19] σ2 (vI (elB (fun s => b (24 + s)) P (b 0))) σ2 := by
  have hF2 := hF
  simp only [FInv, Nat.reduceAdd] at hF2
  obtain ⟨⟨n0, n1, n2⟩, i2, i3, i4, i5, i6, i7, -, i9, -, i11⟩ := hF2
  have h := e_foundElsewhere (d := d) (σ := σ2) (by rw [h2, n2]; omega) (by
    intro s a c
    rw [h15]
    have := i11 s a c
    omega) (by
    intro s a c
    rw [h2, n2] at c
    have := hP s a c
    omega)
  have e : elB (σ2 15) (σ2 19) (σ2 2 0) = elB (fun s => b (24 + s)) P (b 0) := by
    rw [h2, n2]
    exact elB_c n0 (fun s a c => ⟨by rw [h15]; exact (i11 s a (by omega)).1, (hP s a c).1⟩)
  rw [e] at h
  exact h
