theorem okL_0 : (((pgm mLaw).drop 0).take 160).all (okE mLaw) = true := by decide +kernel
theorem okL_1 : (((pgm mLaw).drop 160).take 160).all (okE mLaw) = true := by decide +kernel
theorem okL_2 : (((pgm mLaw).drop 320).take 160).all (okE mLaw) = true := by decide +kernel
theorem okL_3 : (((pgm mLaw).drop 480).take 160).all (okE mLaw) = true := by decide +kernel
theorem okL_4 : (((pgm mLaw).drop 640).take 160).all (okE mLaw) = true := by decide +kernel
theorem okL_5 : (((pgm mLaw).drop 800).take 160).all (okE mLaw) = true := by decide +kernel
theorem all_td {α : Type} (f : α → Bool) (n : Nat) (l : List α) (h1 : (l.take n).all f = true) (h2 : (l.drop n).all f = true) : l.all f = true := by
  rw [← List.take_append_drop n l, List.all_append, h1, h2]; rfl
theorem okL : (pgm mLaw).all (okE mLaw) = true := by
  refine all_td _ 160 _ okL_0 ?_
  refine all_td _ 160 _ okL_1 ?_
  rw [List.drop_drop]
  refine all_td _ 160 _ okL_2 ?_
  rw [List.drop_drop]
  refine all_td _ 160 _ okL_3 ?_
  rw [List.drop_drop]
  refine all_td _ 160 _ okL_4 ?_
  rw [List.drop_drop]
  have h := okL_5
  rw [List.take_of_length_le (by decide +kernel)] at h
  exact h
theorem ok_all : ∀ y, y < mLaw + 1 → (pgm y).all (okE y) = true := by
  have hm : mLaw = 179 := rfl
  intro y hy
  by_cases h0 : y < 11
  · exact ok_0 y (by omega) h0
  by_cases h1 : y < 25
  · exact ok_1 y (by omega) h1
  by_cases h2 : y < 37
  · exact ok_2 y (by omega) h2
  by_cases h3 : y < 53
  · exact ok_3 y (by omega) h3
  by_cases h4 : y < 68
  · exact ok_4 y (by omega) h4
  by_cases h5 : y < 78
  · exact ok_5 y (by omega) h5
  by_cases h6 : y < 97
  · exact ok_6 y (by omega) h6
  by_cases h7 : y < 118
  · exact ok_7 y (by omega) h7
  by_cases h8 : y < 129
  · exact ok_8 y (by omega) h8
  by_cases h9 : y < 135
  · exact ok_9 y (by omega) h9
  by_cases h10 : y < 143
  · exact ok_10 y (by omega) h10
  by_cases h11 : y < 151
  · exact ok_11 y (by omega) h11
  by_cases h12 : y < 158
  · exact ok_12 y (by omega) h12
  by_cases h13 : y < 167
  · exact ok_13 y (by omega) h13
  by_cases h14 : y < 175
  · exact ok_14 y (by omega) h14
  by_cases h15 : y < 179
  · exact ok_15 y (by omega) h15
  have : y = mLaw := by omega
  subst this
  exact okL
theorem npar_all : ∀ y ∈ List.range 179, (parseMethodDescriptor (mN y).desc).map (fun d => d.parameters.length) = some (mP y) := by decide +kernel
theorem mcls_all : ∀ y ∈ List.range 179, (mN y).cls = cN (mO y) ∧ mO y < 10 ∧ mO y ≠ 8 ∧ mL y ≤ 18 := by decide +kernel
theorem cpl : ∀ o, o < 10 → o ≠ 8 → plainName (cN o) = true ∧ cN o ≠ "java/lang/invoke/MethodHandle" ∧ cN o ≠ "java/lang/invoke/VarHandle" := by
  intro o h h8
  have h2 : o = 0 ∨ o = 1 ∨ o = 2 ∨ o = 3 ∨ o = 4 ∨ o = 5 ∨ o = 6 ∨ o = 7 ∨ o = 9 := by omega
  rcases h2 with rfl | rfl | rfl | rfl | rfl | rfl | rfl | rfl | rfl <;> decide
set_option maxRecDepth 100000 in
theorem wdM4_in : ∀ y, y < 179 → wdM4 y ∈ lw_tbl := by
  have h : ∀ y ∈ List.range 179, wdM4 y ∈ lw_tbl := by
    rw [show List.range 179 = [0, 1, 2, 3, 4, 5, 6, 7, 8, 9, 10, 11, 12, 13, 14, 15, 16, 17, 18, 19, 20, 21, 22, 23, 24, 25, 26, 27, 28, 29, 30, 31, 32, 33, 34, 35, 36, 37, 38, 39, 40, 41, 42, 43, 44, 45, 46, 47, 48, 49, 50, 51, 52, 53, 54, 55, 56, 57, 58, 59, 60, 61, 62, 63, 64, 65, 66, 67, 68, 69, 70, 71, 72, 73, 74, 75, 76, 77, 78, 79, 80, 81, 82, 83, 84, 85, 86, 87, 88, 89, 90, 91, 92, 93, 94, 95, 96, 97, 98, 99, 100, 101, 102, 103, 104, 105, 106, 107, 108, 109, 110, 111, 112, 113, 114, 115, 116, 117, 118, 119, 120, 121, 122, 123, 124, 125, 126, 127, 128, 129, 130, 131, 132, 133, 134, 135, 136, 137, 138, 139, 140, 141, 142, 143, 144, 145, 146, 147, 148, 149, 150, 151, 152, 153, 154, 155, 156, 157, 158, 159, 160, 161, 162, 163, 164, 165, 166, 167, 168, 169, 170, 171, 172, 173, 174, 175, 176, 177, 178] from by decide +kernel]
    exact List.forall_mem_cons.mpr ⟨cW_0, List.forall_mem_cons.mpr ⟨cW_1, List.forall_mem_cons.mpr ⟨cW_2, List.forall_mem_cons.mpr ⟨cW_3, List.forall_mem_cons.mpr ⟨cW_4, List.forall_mem_cons.mpr ⟨cW_5, List.forall_mem_cons.mpr ⟨cW_6, List.forall_mem_cons.mpr ⟨cW_7, List.forall_mem_cons.mpr ⟨cW_8, List.forall_mem_cons.mpr ⟨cW_9, List.forall_mem_cons.mpr ⟨cW_10, List.forall_mem_cons.mpr ⟨cW_11, List.forall_mem_cons.mpr ⟨cW_12, List.forall_mem_cons.mpr ⟨cW_13, List.forall_mem_cons.mpr ⟨cW_14, List.forall_mem_cons.mpr ⟨cW_15, List.forall_mem_cons.mpr ⟨cW_16, List.forall_mem_cons.mpr ⟨cW_17, List.forall_mem_cons.mpr ⟨cW_18, List.forall_mem_cons.mpr ⟨cW_19, List.forall_mem_cons.mpr ⟨cW_20, List.forall_mem_cons.mpr ⟨cW_21, List.forall_mem_cons.mpr ⟨cW_22, List.forall_mem_cons.mpr ⟨cW_23, List.forall_mem_cons.mpr ⟨cW_24, List.forall_mem_cons.mpr ⟨cW_25, List.forall_mem_cons.mpr ⟨cW_26, List.forall_mem_cons.mpr ⟨cW_27, List.forall_mem_cons.mpr ⟨cW_28, List.forall_mem_cons.mpr ⟨cW_29, List.forall_mem_cons.mpr ⟨cW_30, List.forall_mem_cons.mpr ⟨cW_31, List.forall_mem_cons.mpr ⟨cW_32, List.forall_mem_cons.mpr ⟨cW_33, List.forall_mem_cons.mpr ⟨cW_34, List.forall_mem_cons.mpr ⟨cW_35, List.forall_mem_cons.mpr ⟨cW_36, List.forall_mem_cons.mpr ⟨cW_37, List.forall_mem_cons.mpr ⟨cW_38, List.forall_mem_cons.mpr ⟨cW_39, List.forall_mem_cons.mpr ⟨cW_40, List.forall_mem_cons.mpr ⟨cW_41, List.forall_mem_cons.mpr ⟨cW_42, List.forall_mem_cons.mpr ⟨cW_43, List.forall_mem_cons.mpr ⟨cW_44, List.forall_mem_cons.mpr ⟨cW_45, List.forall_mem_cons.mpr ⟨cW_46, List.forall_mem_cons.mpr ⟨cW_47, List.forall_mem_cons.mpr ⟨cW_48, List.forall_mem_cons.mpr ⟨cW_49, List.forall_mem_cons.mpr ⟨cW_50, List.forall_mem_cons.mpr ⟨cW_51, List.forall_mem_cons.mpr ⟨cW_52, List.forall_mem_cons.mpr ⟨cW_53, List.forall_mem_cons.mpr ⟨cW_54, List.forall_mem_cons.mpr ⟨cW_55, List.forall_mem_cons.mpr ⟨cW_56, List.forall_mem_cons.mpr ⟨cW_57, List.forall_mem_cons.mpr ⟨cW_58, List.forall_mem_cons.mpr ⟨cW_59, List.forall_mem_cons.mpr ⟨cW_60, List.forall_mem_cons.mpr ⟨cW_61, List.forall_mem_cons.mpr ⟨cW_62, List.forall_mem_cons.mpr ⟨cW_63, List.forall_mem_cons.mpr ⟨cW_64, List.forall_mem_cons.mpr ⟨cW_65, List.forall_mem_cons.mpr ⟨cW_66, List.forall_mem_cons.mpr ⟨cW_67, List.forall_mem_cons.mpr ⟨cW_68, List.forall_mem_cons.mpr ⟨cW_69, List.forall_mem_cons.mpr ⟨cW_70, List.forall_mem_cons.mpr ⟨cW_71, List.forall_mem_cons.mpr ⟨cW_72, List.forall_mem_cons.mpr ⟨cW_73, List.forall_mem_cons.mpr ⟨cW_74, List.forall_mem_cons.mpr ⟨cW_75, List.forall_mem_cons.mpr ⟨cW_76, List.forall_mem_cons.mpr ⟨cW_77, List.forall_mem_cons.mpr ⟨cW_78, List.forall_mem_cons.mpr ⟨cW_79, List.forall_mem_cons.mpr ⟨cW_80, List.forall_mem_cons.mpr ⟨cW_81, List.forall_mem_cons.mpr ⟨cW_82, List.forall_mem_cons.mpr ⟨cW_83, List.forall_mem_cons.mpr ⟨cW_84, List.forall_mem_cons.mpr ⟨cW_85, List.forall_mem_cons.mpr ⟨cW_86, List.forall_mem_cons.mpr ⟨cW_87, List.forall_mem_cons.mpr ⟨cW_88, List.forall_mem_cons.mpr ⟨cW_89, List.forall_mem_cons.mpr ⟨cW_90, List.forall_mem_cons.mpr ⟨cW_91, List.forall_mem_cons.mpr ⟨cW_92, List.forall_mem_cons.mpr ⟨cW_93, List.forall_mem_cons.mpr ⟨cW_94, List.forall_mem_cons.mpr ⟨cW_95, List.forall_mem_cons.mpr ⟨cW_96, List.forall_mem_cons.mpr ⟨cW_97, List.forall_mem_cons.mpr ⟨cW_98, List.forall_mem_cons.mpr ⟨cW_99, List.forall_mem_cons.mpr ⟨cW_100, List.forall_mem_cons.mpr ⟨cW_101, List.forall_mem_cons.mpr ⟨cW_102, List.forall_mem_cons.mpr ⟨cW_103, List.forall_mem_cons.mpr ⟨cW_104, List.forall_mem_cons.mpr ⟨cW_105, List.forall_mem_cons.mpr ⟨cW_106, List.forall_mem_cons.mpr ⟨cW_107, List.forall_mem_cons.mpr ⟨cW_108, List.forall_mem_cons.mpr ⟨cW_109, List.forall_mem_cons.mpr ⟨cW_110, List.forall_mem_cons.mpr ⟨cW_111, List.forall_mem_cons.mpr ⟨cW_112, List.forall_mem_cons.mpr ⟨cW_113, List.forall_mem_cons.mpr ⟨cW_114, List.forall_mem_cons.mpr ⟨cW_115, List.forall_mem_cons.mpr ⟨cW_116, List.forall_mem_cons.mpr ⟨cW_117, List.forall_mem_cons.mpr ⟨cW_118, List.forall_mem_cons.mpr ⟨cW_119, List.forall_mem_cons.mpr ⟨cW_120, List.forall_mem_cons.mpr ⟨cW_121, List.forall_mem_cons.mpr ⟨cW_122, List.forall_mem_cons.mpr ⟨cW_123, List.forall_mem_cons.mpr ⟨cW_124, List.forall_mem_cons.mpr ⟨cW_125, List.forall_mem_cons.mpr ⟨cW_126, List.forall_mem_cons.mpr ⟨cW_127, List.forall_mem_cons.mpr ⟨cW_128, List.forall_mem_cons.mpr ⟨cW_129, List.forall_mem_cons.mpr ⟨cW_130, List.forall_mem_cons.mpr ⟨cW_131, List.forall_mem_cons.mpr ⟨cW_132, List.forall_mem_cons.mpr ⟨cW_133, List.forall_mem_cons.mpr ⟨cW_134, List.forall_mem_cons.mpr ⟨cW_135, List.forall_mem_cons.mpr ⟨cW_136, List.forall_mem_cons.mpr ⟨cW_137, List.forall_mem_cons.mpr ⟨cW_138, List.forall_mem_cons.mpr ⟨cW_139, List.forall_mem_cons.mpr ⟨cW_140, List.forall_mem_cons.mpr ⟨cW_141, List.forall_mem_cons.mpr ⟨cW_142, List.forall_mem_cons.mpr ⟨cW_143, List.forall_mem_cons.mpr ⟨cW_144, List.forall_mem_cons.mpr ⟨cW_145, List.forall_mem_cons.mpr ⟨cW_146, List.forall_mem_cons.mpr ⟨cW_147, List.forall_mem_cons.mpr ⟨cW_148, List.forall_mem_cons.mpr ⟨cW_149, List.forall_mem_cons.mpr ⟨cW_150, List.forall_mem_cons.mpr ⟨cW_151, List.forall_mem_cons.mpr ⟨cW_152, List.forall_mem_cons.mpr ⟨cW_153, List.forall_mem_cons.mpr ⟨cW_154, List.forall_mem_cons.mpr ⟨cW_155, List.forall_mem_cons.mpr ⟨cW_156, List.forall_mem_cons.mpr ⟨cW_157, List.forall_mem_cons.mpr ⟨cW_158, List.forall_mem_cons.mpr ⟨cW_159, List.forall_mem_cons.mpr ⟨cW_160, List.forall_mem_cons.mpr ⟨cW_161, List.forall_mem_cons.mpr ⟨cW_162, List.forall_mem_cons.mpr ⟨cW_163, List.forall_mem_cons.mpr ⟨cW_164, List.forall_mem_cons.mpr ⟨cW_165, List.forall_mem_cons.mpr ⟨cW_166, List.forall_mem_cons.mpr ⟨cW_167, List.forall_mem_cons.mpr ⟨cW_168, List.forall_mem_cons.mpr ⟨cW_169, List.forall_mem_cons.mpr ⟨cW_170, List.forall_mem_cons.mpr ⟨cW_171, List.forall_mem_cons.mpr ⟨cW_172, List.forall_mem_cons.mpr ⟨cW_173, List.forall_mem_cons.mpr ⟨cW_174, List.forall_mem_cons.mpr ⟨cW_175, List.forall_mem_cons.mpr ⟨cW_176, List.forall_mem_cons.mpr ⟨cW_177, List.forall_mem_cons.mpr ⟨cW_178, fun _ h => absurd h List.not_mem_nil⟩⟩⟩⟩⟩⟩⟩⟩⟩⟩⟩⟩⟩⟩⟩⟩⟩⟩⟩⟩⟩⟩⟩⟩⟩⟩⟩⟩⟩⟩⟩⟩⟩⟩⟩⟩⟩⟩⟩⟩⟩⟩⟩⟩⟩⟩⟩⟩⟩⟩⟩⟩⟩⟩⟩⟩⟩⟩⟩⟩⟩⟩⟩⟩⟩⟩⟩⟩⟩⟩⟩⟩⟩⟩⟩⟩⟩⟩⟩⟩⟩⟩⟩⟩⟩⟩⟩⟩⟩⟩⟩⟩⟩⟩⟩⟩⟩⟩⟩⟩⟩⟩⟩⟩⟩⟩⟩⟩⟩⟩⟩⟩⟩⟩⟩⟩⟩⟩⟩⟩⟩⟩⟩⟩⟩⟩⟩⟩⟩⟩⟩⟩⟩⟩⟩⟩⟩⟩⟩⟩⟩⟩⟩⟩⟩⟩⟩⟩⟩⟩⟩⟩⟩⟩⟩⟩⟩⟩⟩⟩⟩⟩⟩⟩⟩⟩⟩⟩⟩⟩⟩⟩⟩⟩⟩⟩⟩⟩⟩
  intro y hy
  exact h y (List.mem_range.mpr hy)
