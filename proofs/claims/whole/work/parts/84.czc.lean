/-! The law from its entry. -/
theorem dl_0 : decode code 0 = .ok (.new 7, 3) := by decide +kernel
theorem dl_3 : decode code 3 = .ok (.dup, 1) := by decide +kernel
theorem dl_4 : decode code 4 = .ok (.invokespecial 9, 3) := by decide +kernel
theorem dl_7 : decode code 7 = .ok (.astore_n 1, 1) := by decide +kernel
theorem dl_8 : decode code 8 = .ok (.new 10, 3) := by decide +kernel
theorem dl_11 : decode code 11 = .ok (.dup, 1) := by decide +kernel
theorem dl_12 : decode code 12 = .ok (.invokespecial 12, 3) := by decide +kernel
theorem dl_15 : decode code 15 = .ok (.astore_n 2, 1) := by decide +kernel
theorem dl_16 : decode code 16 = .ok (.iconst 0, 1) := by decide +kernel
theorem dl_17 : decode code 17 = .ok (.istore_n 3, 1) := by decide +kernel
theorem zw_c5 : Cond.classLink (cN 10) 7 (cN 5) ∈ lw_tbl := List.mem_of_getElem? (i := 73) (by decide +kernel)
theorem zw_c6 : Cond.classLink (cN 10) 10 (cN 6) ∈ lw_tbl := List.mem_of_getElem? (i := 838) (by decide +kernel)
theorem zw_m5 : Cond.methodLink (cN 10) 9 yX5_init ∈ lw_tbl := List.mem_of_getElem? (i := 75) (by decide +kernel)
theorem zw_m6 : Cond.methodLink (cN 10) 12 yX6_init ∈ lw_tbl := List.mem_of_getElem? (i := 840) (by decide +kernel)
