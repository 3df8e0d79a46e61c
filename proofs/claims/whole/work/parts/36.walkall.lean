/-! The class's walkAll. -/
def wyB (b : Int → Int) (n : Int) : Int := b (326 + 3 * n)
def psB (b : Int → Int) (n : Int) : Int := b (327 + 3 * n) * (b (328 + 3 * n) % 128)
def pl0 (b : Int → Int) (s : Int) : Int := b (5 + 3 * s)
def lg0 : LG := (0, fun _ => (0, 0, 0, 0))
/-- where stones lie ahead of night n, and the log */ -/
def Wk (b : Int → Int) (n : Int) : (Int → Int) × LG := wgo b (wyB b) (psB b) 0 (pl0 b) lg0 n
set_option maxRecDepth 100000 in
set_option maxHeartbeats 4000000 in
theorem e_start4 {d : Nat} {m : Int} {σ : Sg} : Ev (d + 1) m_X4_start [vR 18, vR 2, vI m, vR 4] σ none (cpy (up (up (up σ 18 8 2) 18 9 (and32 m (shl32 1 (σ 2 0) - 1))) 18 6 0) 4 0 19 0 6) := by
  apply en_X4_start
  simp (disch := (first | omega | assumption | exact Nat.le_of_ble_eq_true rfl | (simp only [kn_1, kn_2, kn_3, kn_4, kn_5, kn_6, kn_7, kn_8, kn_9, kn_10, kn_11, kn_12, kn_13, kn_14, kn_15, kn_16, kn_17, kn_18, kn_19, kn_20, kn_21, kn_22, kn_23, kn_24, kn_25, kn_26, kn_27, kn_28, kn_29, kn_30, kn_31, kn_32, kn_33, kn_34, kn_35, kn_36, kn_37, kn_38, kn_39, kn_40, kn_41, kn_42, kn_43, kn_44, kn_45, kn_46, kn_47, kn_100, kn_101, kn_102, kn_103, kn_104, kn_105, kn_106, kn_107, kn_108, kn_109, kn_110, kn_111, kn_112, kn_113, kn_114, kn_115, kn_116, kn_117, kn_118]; done) | (simp (disch := omega) only [w32_id, w64_id, w64_w32, up_n, up_ne, up_o, up_s, fll_ne, cpy_n, cpy_ne, List.length_nil, List.length_cons, al_3, al_4, al_5, al_6, al_7, al_8, al_10, al_11, al_12, al_13, al_14, al_15, al_16, al_17, al_19, al_20, al_21, al_22, al_23, al_24, al_25, al_27, al_28, al_29, al_30, al_31, al_32, al_33, al_34, al_35, al_37, al_39, al_40, al_41, al_42, al_43, al_44, al_45, al_46, al_47, al_101, al_102, al_103, al_104, al_105, al_106, al_107, al_108, al_109, al_110, al_111, al_112, al_113, al_114, al_115, al_116, al_117, al_118]; first | done | omega | assumption) | (simp only [w32_eq, al_3, al_4, al_5, al_6, al_7, al_8, al_10, al_11, al_12, al_13, al_14, al_15, al_16, al_17, al_19, al_20, al_21, al_22, al_23, al_24, al_25, al_27, al_28, al_29, al_30, al_31, al_32, al_33, al_34, al_35, al_37, al_39, al_40, al_41, al_42, al_43, al_44, al_45, al_46, al_47, al_101, al_102, al_103, al_104, al_105, al_106, al_107, al_108, al_109, al_110, al_111, al_112, al_113, al_114, al_115, al_116, al_117, al_118]; omega))) only [s_X4_start_0, s_X4_start_1, s_X4_start_2, s_X4_start_5, s_X4_start_6, s_X4_start_7, s_X4_start_8, s_X4_start_9, s_X4_start_12, s_X4_start_13, s_X4_start_14, s_X4_start_15, s_X4_start_16, s_X4_start_19, s_X4_start_20, s_X4_start_21, s_X4_start_24, s_X4_start_25, s_X4_start_26, s_X4_start_27, s_X4_start_30, s_X4_start_31, s_X4_start_33, s_X4_start_36, psh_some, psh_none, not_true_eq_false, not_false_eq_true, Classical.not_not, List.cons_append, true_and, and_true, if_true, if_false, ite_self, Int.toNat_natCast, Int.reduceAdd, Int.reduceSub, Int.reduceMul, Int.reduceNeg, kn_1, kn_2, kn_3, al_3, kn_4, al_4, kn_5, al_5, kn_6, al_6, kn_7, al_7, kn_8, al_8, kn_9, kn_10, al_10, kn_11, al_11, kn_12, al_12, kn_13, al_13, kn_14, al_14, kn_15, al_15, kn_16, al_16, kn_17, al_17, kn_18, kn_19, al_19, kn_20, al_20, kn_21, al_21, kn_22, al_22, kn_23, al_23, kn_24, al_24, kn_25, al_25, kn_26, kn_27, al_27, kn_28, al_28, kn_29, al_29, kn_30, al_30, kn_31, al_31, kn_32, al_32, kn_33, al_33, kn_34, al_34, kn_35, al_35, kn_36, kn_37, al_37, kn_38, kn_39, al_39, kn_40, al_40, kn_41, al_41, kn_42, al_42, kn_43, al_43, kn_44, al_44, kn_45, al_45, kn_46, al_46, kn_47, al_47, kn_100, kn_101, al_101, kn_102, al_102, kn_103, al_103, kn_104, al_104, kn_105, al_105, kn_106, al_106, kn_107, al_107, kn_108, al_108, kn_109, al_109, kn_110, al_110, kn_111, al_111, kn_112, al_112, kn_113, al_113, kn_114, al_114, kn_115, al_115, kn_116, al_116, kn_117, al_117, kn_118, al_118, tp_1_0, tp_1_1, tp_1_2, tp_1_3, tp_1_4, tp_1_5, tp_1_6, tp_1_7, tp_1_9, tp_1_10, tp_1_11, tp_1_12, tp_2_1, tp_2_2, tp_2_3, tp_2_4, tp_2_5, tp_2_6, tp_2_7, tp_2_8, tp_2_11, tp_9_0, tp_9_1, tp_9_2, tp_9_3, tp_18_0, tp_18_1, tp_18_2, tp_18_3, tp_18_4, tp_18_5, tp_18_7, tp_26_0, tp_26_1, tp_26_2, tp_26_3, tp_36_0, tp_38_2, tp_38_3, tp_38_4, tp_38_5, tp_38_6, tp_38_7, tp_38_8, tp_38_9, tp_38_10, tp_100_0, tp_100_1, tp_100_2, tp_100_3, tp_100_6, tp_100_7, tp_100_8, tp_100_9, tp_100_11, tp_100_13, tp_100_14, tp_100_17, tp_100_18, tp_100_23, tp_100_25, tp_100_26, tp_100_27, tp_100_28, x_within, x_in, x_isBehind, x_isStone5, x_refuse_bad, x_refuse_no, x_refuse_full, x_refuses, x_bad, x_no, x_full, x_isCell, x_isNight, x_isFarmer, x_isStone6, x_ofStone, x_needOf, x_wetOf, x_ofNight, x_isFirstCell, x_isFirst, x_sets, x_tell, x_tellT, x_drawnAfter, x_figureOf, x_fill15, x_fill44, x_fill34, x_fill35, x_tellS, x_tellN, x_needBy, x_addStone, x_stakesThere, x_stonesFound, x_countOf, x_howMany, x_nextCell, x_next, x_turned, x_stepsBy, x_stoneAt, x_isPresent, x_pushOf9, x_pushOf26, x_log, ↓if_pos, ↓if_neg, up_n, up_ne, up_o, up_s, fll_ne, cpy_n, cpy_ne, w32_id, w64_id, w64_w32, div32_eq, rem32_eq, ite0]
  simp
theorem x_start4 {d : Nat} {m : Int} {σ : Sg} {P : AV → Sg → Prop} : (∃ r σ1, Ev (d + 1) m_X4_start [vR 18, vR 2, vI m, vR 4] σ r σ1 ∧ P r σ1) ↔ P none (cpy (up (up (up σ 18 8 2) 18 9 (and32 m (shl32 1 (σ 2 0) - 1))) 18 6 0) 4 0 19 0 6) := Ev_ex (e_start4 )
set_option maxRecDepth 100000 in
set_option maxHeartbeats 4000000 in
theorem e_start31 {d : Nat} {m : Int} {σ : Sg} : Ev (d + 1) m_X4_start [vR 18, vR 2, vI m, vR 31] σ none (cpy (up (up (up σ 18 8 2) 18 9 (and32 m (shl32 1 (σ 2 0) - 1))) 18 6 0) 31 0 19 0 6) := by
  apply en_X4_start
  simp (disch := (first | omega | assumption | exact Nat.le_of_ble_eq_true rfl | (simp only [kn_1, kn_2, kn_3, kn_4, kn_5, kn_6, kn_7, kn_8, kn_9, kn_10, kn_11, kn_12, kn_13, kn_14, kn_15, kn_16, kn_17, kn_18, kn_19, kn_20, kn_21, kn_22, kn_23, kn_24, kn_25, kn_26, kn_27, kn_28, kn_29, kn_30, kn_31, kn_32, kn_33, kn_34, kn_35, kn_36, kn_37, kn_38, kn_39, kn_40, kn_41, kn_42, kn_43, kn_44, kn_45, kn_46, kn_47, kn_100, kn_101, kn_102, kn_103, kn_104, kn_105, kn_106, kn_107, kn_108, kn_109, kn_110, kn_111, kn_112, kn_113, kn_114, kn_115, kn_116, kn_117, kn_118]; done) | (simp (disch := omega) only [w32_id, w64_id, w64_w32, up_n, up_ne, up_o, up_s, fll_ne, cpy_n, cpy_ne, List.length_nil, List.length_cons, al_3, al_4, al_5, al_6, al_7, al_8, al_10, al_11, al_12, al_13, al_14, al_15, al_16, al_17, al_19, al_20, al_21, al_22, al_23, al_24, al_25, al_27, al_28, al_29, al_30, al_31, al_32, al_33, al_34, al_35, al_37, al_39, al_40, al_41, al_42, al_43, al_44, al_45, al_46, al_47, al_101, al_102, al_103, al_104, al_105, al_106, al_107, al_108, al_109, al_110, al_111, al_112, al_113, al_114, al_115, al_116, al_117, al_118]; first | done | omega | assumption) | (simp only [w32_eq, al_3, al_4, al_5, al_6, al_7, al_8, al_10, al_11, al_12, al_13, al_14, al_15, al_16, al_17, al_19, al_20, al_21, al_22, al_23, al_24, al_25, al_27, al_28, al_29, al_30, al_31, al_32, al_33, al_34, al_35, al_37, al_39, al_40, al_41, al_42, al_43, al_44, al_45, al_46, al_47, al_101, al_102, al_103, al_104, al_105, al_106, al_107, al_108, al_109, al_110, al_111, al_112, al_113, al_114, al_115, al_116, al_117, al_118]; omega))) only [s_X4_start_0, s_X4_start_1, s_X4_start_2, s_X4_start_5, s_X4_start_6, s_X4_start_7, s_X4_start_8, s_X4_start_9, s_X4_start_12, s_X4_start_13, s_X4_start_14, s_X4_start_15, s_X4_start_16, s_X4_start_19, s_X4_start_20, s_X4_start_21, s_X4_start_24, s_X4_start_25, s_X4_start_26, s_X4_start_27, s_X4_start_30, s_X4_start_31, s_X4_start_33, s_X4_start_36, psh_some, psh_none, not_true_eq_false, not_false_eq_true, Classical.not_not, List.cons_append, true_and, and_true, if_true, if_false, ite_self, Int.toNat_natCast, Int.reduceAdd, Int.reduceSub, Int.reduceMul, Int.reduceNeg, kn_1, kn_2, kn_3, al_3, kn_4, al_4, kn_5, al_5, kn_6, al_6, kn_7, al_7, kn_8, al_8, kn_9, kn_10, al_10, kn_11, al_11, kn_12, al_12, kn_13, al_13, kn_14, al_14, kn_15, al_15, kn_16, al_16, kn_17, al_17, kn_18, kn_19, al_19, kn_20, al_20, kn_21, al_21, kn_22, al_22, kn_23, al_23, kn_24, al_24, kn_25, al_25, kn_26, kn_27, al_27, kn_28, al_28, kn_29, al_29, kn_30, al_30, kn_31, al_31, kn_32, al_32, kn_33, al_33, kn_34, al_34, kn_35, al_35, kn_36, kn_37, al_37, kn_38, kn_39, al_39, kn_40, al_40, kn_41, al_41, kn_42, al_42, kn_43, al_43, kn_44, al_44, kn_45, al_45, kn_46, al_46, kn_47, al_47, kn_100, kn_101, al_101, kn_102, al_102, kn_103, al_103, kn_104, al_104, kn_105, al_105, kn_106, al_106, kn_107, al_107, kn_108, al_108, kn_109, al_109, kn_110, al_110, kn_111, al_111, kn_112, al_112, kn_113, al_113, kn_114, al_114, kn_115, al_115, kn_116, al_116, kn_117, al_117, kn_118, al_118, tp_1_0, tp_1_1, tp_1_2, tp_1_3, tp_1_4, tp_1_5, tp_1_6, tp_1_7, tp_1_9, tp_1_10, tp_1_11, tp_1_12, tp_2_1, tp_2_2, tp_2_3, tp_2_4, tp_2_5, tp_2_6, tp_2_7, tp_2_8, tp_2_11, tp_9_0, tp_9_1, tp_9_2, tp_9_3, tp_18_0, tp_18_1, tp_18_2, tp_18_3, tp_18_4, tp_18_5, tp_18_7, tp_26_0, tp_26_1, tp_26_2, tp_26_3, tp_36_0, tp_38_2, tp_38_3, tp_38_4, tp_38_5, tp_38_6, tp_38_7, tp_38_8, tp_38_9, tp_38_10, tp_100_0, tp_100_1, tp_100_2, tp_100_3, tp_100_6, tp_100_7, tp_100_8, tp_100_9, tp_100_11, tp_100_13, tp_100_14, tp_100_17, tp_100_18, tp_100_23, tp_100_25, tp_100_26, tp_100_27, tp_100_28, x_within, x_in, x_isBehind, x_isStone5, x_refuse_bad, x_refuse_no, x_refuse_full, x_refuses, x_bad, x_no, x_full, x_isCell, x_isNight, x_isFarmer, x_isStone6, x_ofStone, x_needOf, x_wetOf, x_ofNight, x_isFirstCell, x_isFirst, x_sets, x_tell, x_tellT, x_drawnAfter, x_figureOf, x_fill15, x_fill44, x_fill34, x_fill35, x_tellS, x_tellN, x_needBy, x_addStone, x_stakesThere, x_stonesFound, x_countOf, x_howMany, x_nextCell, x_next, x_turned, x_stepsBy, x_stoneAt, x_isPresent, x_pushOf9, x_pushOf26, x_log, x_start4, ↓if_pos, ↓if_neg, up_n, up_ne, up_o, up_s, fll_ne, cpy_n, cpy_ne, w32_id, w64_id, w64_w32, div32_eq, rem32_eq, ite0]
  simp
theorem x_start31 {d : Nat} {m : Int} {σ : Sg} {P : AV → Sg → Prop} : (∃ r σ1, Ev (d + 1) m_X4_start [vR 18, vR 2, vI m, vR 31] σ r σ1 ∧ P r σ1) ↔ P none (cpy (up (up (up σ 18 8 2) 18 9 (and32 m (shl32 1 (σ 2 0) - 1))) 18 6 0) 31 0 19 0 6) := Ev_ex (e_start31 )
theorem pb_allI {n s : Int} (hn : 0 ≤ n ∧ n ≤ 6) (hs : 0 ≤ s ∧ s < 6) : pb (and32 63 (shl32 1 n - 1)) s = 1 ↔ s < n := by
  have h := pb_all n.toNat (List.mem_range.mpr (by omega)) s.toNat (List.mem_range.mpr (by omega))
  rw [Int.toNat_of_nonneg hn.1, Int.toNat_of_nonneg hs.1] at h
  rw [h]
  by_cases q : s < n
  · rw [if_pos (by omega)]; simp [q]
  · rw [if_neg (by omega)]; simp [q]
theorem FW_of {b : Int → Int} {σ : Sg} (h : FInv 2 b σ) : FW b σ := by
  simp only [FInv, Nat.reduceAdd] at h
  obtain ⟨n, i2, i3, i4, i5, i6, i7, -⟩ := h
  exact ⟨n, fun s a c => ⟨(i2 s a (by omega)).2.2.1, (i3 s a c).2.2.1⟩, i5, i6⟩
theorem PL0 {b : Int → Int} {σ : Sg} (h : FInv 2 b σ) : PL (b 0) (pl0 b) := by
  simp only [FInv, Nat.reduceAdd] at h
  obtain ⟨n, i2, i3, i4, -⟩ := h
  refine ⟨fun s a c => Or.inr (i3 s a c).2.1, fun s t a c a2 c2 hne _ => ?_⟩
  unfold pl0
  by_cases q : s < t
  · exact i4 s t a q c2
  · exact fun z => i4 t s a2 (by omega) c z.symm
theorem wth_B {b : Int → Int} {σ : Sg} (h : FInv 2 b σ) : ∀ n, 0 ≤ n → n < 20 → σ 10 n = wyB b n ∧ (0 ≤ wyB b n ∧ wyB b n < 4) ∧ σ 11 n * σ 12 n = psB b n ∧ (0 ≤ psB b n ∧ psB b n ≤ 891) := by
  simp only [FInv, Nat.reduceAdd] at h
  obtain ⟨-, -, -, -, -, -, i7, -⟩ := h
  intro n a c
  obtain ⟨g1, g2, g3, g4, g5, g6, g7⟩ := i7 n a c
  have e : b (328 + 3 * n) % 128 = σ 12 n := by omega
  have hm : 0 ≤ b (327 + 3 * n) * σ 12 n ∧ b (327 + 3 * n) * σ 12 n ≤ 891 := by
    constructor
    · exact Int.mul_nonneg g4.1 g5.1
    · have := Int.mul_le_mul g4.2 g5.2 g5.1 (by omega : (0 : Int) ≤ 99)
      omega
  unfold wyB psB
  rw [e, g2]
  exact ⟨g1, by omega, rfl, hm⟩
/-- behind walkAll k -/
def WA (b : Int → Int) (σ : Sg) (k : Int) (σ2 : Sg) : Prop := (∀ c, (c < 18 ∨ 24 < c) → σ2 c = σ c) ∧ WR b σ2 (Wk b (k + 1)).1 (Wk b (k + 1)).2 ∧ (∀ m, 0 ≤ m → m ≤ k → σ2 21 m = wmt b (wyB b) (psB b) 0 (pl0 b) lg0 m ∧ σ2 20 m = wmv b (wyB b) (psB b) 0 (pl0 b) lg0 m)
theorem walkAll_ok {d : Nat} {b : Int → Int} {k : Int} {σ : Sg} (hF : FInv 2 b σ) (hk : -1 ≤ k ∧ k < 20) : ∃ σ2, Ev (d + 6) m_X5_walkAll [vR 1, vI k] σ none σ2 ∧ WA b σ k σ2 := by
  have hFW := FW_of hF
  have hP := PL0 hF
  have hN := wth_B hF
  have hF2 := hF
  simp only [FInv, Nat.reduceAdd] at hF2
  obtain ⟨⟨n0, n1, n2⟩, i2, i3, -⟩ := hF2
  obtain ⟨σs, es⟩ : ∃ σs, σs = cpy (up (up (up σ 18 8 2) 18 9 (and32 63 (shl32 1 (σ 2 0) - 1))) 18 6 0) 4 0 19 0 6 := ⟨_, rfl⟩
  have fs : ∀ c, c ≠ 18 → c ≠ 19 → σs c = σ c := fun c a1 a2 => by rw [es, cpy_ne a2, up_ne a1, up_ne a1, up_ne a1]
  have s19 : ∀ s, 0 ≤ s → s < 6 → σs 19 s = σ 4 s := by
    intro s a c
    rw [es, cpy_i (by omega), show (0 + (s - 0) : Int) = s by omega]
    simp (disch := omega) only [up_n]
  have hFs : FW b σs := by
    unfold FW
    rw [fs 2 (by omega) (by omega), fs 5 (by omega) (by omega), fs 6 (by omega) (by omega), fs 7 (by omega) (by omega), fs 8 (by omega) (by omega)]
    exact hFW
  have hW0 : WR b σs (pl0 b) lg0 := by
    refine ⟨fun s a c q => ?_, ?_, Int.le_refl _, fun j a c => ?_, hP⟩
    · rw [s19 s a c, (i2 s a c).2.1]; rfl
    · rw [es]; simp (disch := omega) only [cpy_n, up_s]; rfl
    · exfalso; simp only [lg0] at c; omega
  obtain ⟨σ2, hE, hG⟩ := go_ok9 (d := d) (b := b) (wy := wyB b) (ps := psB b) (first := 0) (f := 0) (last := k) (σ := σs) (pl := pl0 b) (lg := lg0) hFs (by rw [es]; simp (disch := omega) only [cpy_n, up_o, up_s]) (by
      intro s a c
      have q := i2 s a c
      rw [s19 s a c, q.2.1]
      omega) (by
      intro s a c
      rw [es]
      simp (disch := omega) only [cpy_n, up_o, up_s]
      rw [n2, pb_allI ⟨n0, n1⟩ ⟨a, c⟩]
      constructor
      · intro q
        have := (i3 s a q).2.1
        exact ⟨q, by unfold pl0; omega⟩
      · exact fun q => q.1) hW0 (by omega) (by simp) hk (by omega) (by
      intro n a c
      rw [fs 10 (by omega) (by omega), fs 11 (by omega) (by omega), fs 12 (by omega) (by omega)]
      exact hN n a (by omega)) (by simp only [lg0]; omega)
  have key : Rn (d + 5) m_X5_walkAll 0 [vR 1, vI k] [] σ (fun r σ2 => r = none ∧ WA b σ k σ2) := by
    rw [es] at hE
    simp (disch := (first | omega | assumption | exact Nat.le_of_ble_eq_true rfl | (simp only [kn_1, kn_2, kn_3, kn_4, kn_5, kn_6, kn_7, kn_8, kn_9, kn_10, kn_11, kn_12, kn_13, kn_14, kn_15, kn_16, kn_17, kn_18, kn_19, kn_20, kn_21, kn_22, kn_23, kn_24, kn_25, kn_26, kn_27, kn_28, kn_29, kn_30, kn_31, kn_32, kn_33, kn_34, kn_35, kn_36, kn_37, kn_38, kn_39, kn_40, kn_41, kn_42, kn_43, kn_44, kn_45, kn_46, kn_47, kn_100, kn_101, kn_102, kn_103, kn_104, kn_105, kn_106, kn_107, kn_108, kn_109, kn_110, kn_111, kn_112, kn_113, kn_114, kn_115, kn_116, kn_117, kn_118]; done) | (simp (disch := omega) only [w32_id, w64_id, w64_w32, up_n, up_ne, up_o, up_s, fll_ne, cpy_n, cpy_ne, List.length_nil, List.length_cons, al_3, al_4, al_5, al_6, al_7, al_8, al_10, al_11, al_12, al_13, al_14, al_15, al_16, al_17, al_19, al_20, al_21, al_22, al_23, al_24, al_25, al_27, al_28, al_29, al_30, al_31, al_32, al_33, al_34, al_35, al_37, al_39, al_40, al_41, al_42, al_43, al_44, al_45, al_46, al_47, al_101, al_102, al_103, al_104, al_105, al_106, al_107, al_108, al_109, al_110, al_111, al_112, al_113, al_114, al_115, al_116, al_117, al_118]; first | done | omega | assumption) | (simp only [w32_eq, al_3, al_4, al_5, al_6, al_7, al_8, al_10, al_11, al_12, al_13, al_14, al_15, al_16, al_17, al_19, al_20, al_21, al_22, al_23, al_24, al_25, al_27, al_28, al_29, al_30, al_31, al_32, al_33, al_34, al_35, al_37, al_39, al_40, al_41, al_42, al_43, al_44, al_45, al_46, al_47, al_101, al_102, al_103, al_104, al_105, al_106, al_107, al_108, al_109, al_110, al_111, al_112, al_113, al_114, al_115, al_116, al_117, al_118]; omega))) only [s_X5_walkAll_0, s_X5_walkAll_1, s_X5_walkAll_4, s_X5_walkAll_5, s_X5_walkAll_8, s_X5_walkAll_10, s_X5_walkAll_11, s_X5_walkAll_14, s_X5_walkAll_17, s_X5_walkAll_20, s_X5_walkAll_21, s_X5_walkAll_24, s_X5_walkAll_25, s_X5_walkAll_28, s_X5_walkAll_31, s_X5_walkAll_32, s_X5_walkAll_33, s_X5_walkAll_36, psh_some, psh_none, not_true_eq_false, not_false_eq_true, Classical.not_not, List.cons_append, true_and, and_true, if_true, if_false, ite_self, Int.toNat_natCast, Int.reduceAdd, Int.reduceSub, Int.reduceMul, Int.reduceNeg, kn_1, kn_2, kn_3, al_3, kn_4, al_4, kn_5, al_5, kn_6, al_6, kn_7, al_7, kn_8, al_8, kn_9, kn_10, al_10, kn_11, al_11, kn_12, al_12, kn_13, al_13, kn_14, al_14, kn_15, al_15, kn_16, al_16, kn_17, al_17, kn_18, kn_19, al_19, kn_20, al_20, kn_21, al_21, kn_22, al_22, kn_23, al_23, kn_24, al_24, kn_25, al_25, kn_26, kn_27, al_27, kn_28, al_28, kn_29, al_29, kn_30, al_30, kn_31, al_31, kn_32, al_32, kn_33, al_33, kn_34, al_34, kn_35, al_35, kn_36, kn_37, al_37, kn_38, kn_39, al_39, kn_40, al_40, kn_41, al_41, kn_42, al_42, kn_43, al_43, kn_44, al_44, kn_45, al_45, kn_46, al_46, kn_47, al_47, kn_100, kn_101, al_101, kn_102, al_102, kn_103, al_103, kn_104, al_104, kn_105, al_105, kn_106, al_106, kn_107, al_107, kn_108, al_108, kn_109, al_109, kn_110, al_110, kn_111, al_111, kn_112, al_112, kn_113, al_113, kn_114, al_114, kn_115, al_115, kn_116, al_116, kn_117, al_117, kn_118, al_118, tp_1_0, tp_1_1, tp_1_2, tp_1_3, tp_1_4, tp_1_5, tp_1_6, tp_1_7, tp_1_9, tp_1_10, tp_1_11, tp_1_12, tp_2_1, tp_2_2, tp_2_3, tp_2_4, tp_2_5, tp_2_6, tp_2_7, tp_2_8, tp_2_11, tp_9_0, tp_9_1, tp_9_2, tp_9_3, tp_18_0, tp_18_1, tp_18_2, tp_18_3, tp_18_4, tp_18_5, tp_18_7, tp_26_0, tp_26_1, tp_26_2, tp_26_3, tp_36_0, tp_38_2, tp_38_3, tp_38_4, tp_38_5, tp_38_6, tp_38_7, tp_38_8, tp_38_9, tp_38_10, tp_100_0, tp_100_1, tp_100_2, tp_100_3, tp_100_6, tp_100_7, tp_100_8, tp_100_9, tp_100_11, tp_100_13, tp_100_14, tp_100_17, tp_100_18, tp_100_23, tp_100_25, tp_100_26, tp_100_27, tp_100_28, x_within, x_in, x_isBehind, x_isStone5, x_refuse_bad, x_refuse_no, x_refuse_full, x_refuses, x_bad, x_no, x_full, x_isCell, x_isNight, x_isFarmer, x_isStone6, x_ofStone, x_needOf, x_wetOf, x_ofNight, x_isFirstCell, x_isFirst, x_sets, x_tell, x_tellT, x_drawnAfter, x_figureOf, x_fill15, x_fill44, x_fill34, x_fill35, x_tellS, x_tellN, x_needBy, x_addStone, x_stakesThere, x_stonesFound, x_countOf, x_howMany, x_nextCell, x_next, x_turned, x_stepsBy, x_stoneAt, x_isPresent, x_pushOf9, x_pushOf26, x_log, x_start4, x_start31, ↓if_pos, ↓if_neg, up_n, up_ne, up_o, up_s, fll_ne, cpy_n, cpy_ne, w32_id, w64_id, w64_w32, div32_eq, rem32_eq, ite0, Ev_ex hE]
    obtain ⟨g1, g2, g3, g4, g5, g6⟩ := hG
    refine ⟨fun c hc => by rw [g1 c hc, fs c (by omega) (by omega)], ?_, fun m a c => g5 m a (by omega)⟩
    rw [show k + 1 - 0 = k + 1 by omega] at g4
    exact g4
  obtain ⟨r, σ3, h1, rfl, h2⟩ := eo_X5_walkAll key
  exact ⟨σ3, h1, h2⟩
