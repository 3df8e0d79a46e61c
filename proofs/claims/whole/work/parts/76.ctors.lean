/-! The constructors. -/
def wB_2 (cy : Nat → ClassId) (q : Nat → Nat) : va_W := [(q 0, .inr (2, [.ref (q 1), .ref (q 2), .ref (q 3), .ref (q 4)])), (q 1, .inl (cy 0, 20, .inl (fun _ => 0))), (q 2, .inl (cy 0, 20, .inl (fun _ => 0))), (q 3, .inl (cy 0, 20, .inl (fun _ => 0))), (q 4, .inl (cy 0, 20, .inl (fun _ => 0)))]
theorem zfs_2 : ∀ j, j < nS 2 → defaultValue (tyc 2 j) = vp_V [.null, .null, .null, .null] j := by decide +kernel
set_option maxRecDepth 100000 in
set_option maxHeartbeats 4000000 in
theorem ct_2 (l : Launch) : CtOK l 2 yX2_init cX2_init 1 [.null, .null, .null, .null] wB_2 { frames := 1, cells := 4, slots := 80, locals := 12 } 4 80 := by
  refine ct_of (by decide) ⟨rfl, rfl⟩ (by decide) (fun p e s m below meth c dC dI cy h0 A ls C hr hlocks hP hD hS hl => ?_)
  obtain ⟨hx, hb, hml, hown, hts, hK, hNW, hin, hA⟩ := id C
  refine lv_aload_n hx hb dX2_init_0 rfl (lv_at hl 0 rfl) ?_
  refine W.objInit hx hb hown (hts _ (lwg_of zl_2 rfl)) (hts _ (lwg_of zo_i rfl)) (hts _ (lwg_of zo_c rfl)) rfl (by rw [hml]; exact hl.1) rfl dX2_init_1 (Nat.le_of_ble_eq_true rfl) (Nat.le_of_ble_eq_true rfl) ?_
  refine W.eq (g2 := F0 m 4 ls []) rfl ?_
  refine lv_aload_n hx hb dX2_init_4 rfl (lv_at hl 0 rfl) ?_
  refine lv_bipush (v := 20) hx hb dX2_init_5 (by decide) ?_
  refine czA (t := 0) (u := 0) (N := 20) (a0 := (20, .inl (fun _ => 0))) C hP hD hS (by decide) (by decide) (Nat.le_of_ble_eq_true rfl) zf_2_9 zd_2_0 za_int rfl rfl (by decide) (fun _ => rfl) ⟨by decide, by decide, by decide⟩ ⟨Nat.le_of_ble_eq_true rfl, Nat.le_of_ble_eq_true rfl⟩ dX2_init_7 dX2_init_9 (fun q1 H locs hP hD hS => ?_)
  refine lv_aload_n hx hb dX2_init_12 rfl (lv_at hl 0 rfl) ?_
  refine lv_bipush (v := 20) hx hb dX2_init_13 (by decide) ?_
  refine czA (t := 1) (u := 0) (N := 20) (a0 := (20, .inl (fun _ => 0))) C hP hD hS (by decide) (by decide) (Nat.le_of_ble_eq_true rfl) zf_2_15 zd_2_1 za_int rfl rfl (by decide) (fun _ => rfl) ⟨by decide, by decide, by decide⟩ ⟨Nat.le_of_ble_eq_true rfl, Nat.le_of_ble_eq_true rfl⟩ dX2_init_15 dX2_init_17 (fun q2 H locs hP hD hS => ?_)
  refine lv_aload_n hx hb dX2_init_20 rfl (lv_at hl 0 rfl) ?_
  refine lv_bipush (v := 20) hx hb dX2_init_21 (by decide) ?_
  refine czA (t := 2) (u := 0) (N := 20) (a0 := (20, .inl (fun _ => 0))) C hP hD hS (by decide) (by decide) (Nat.le_of_ble_eq_true rfl) zf_2_18 zd_2_2 za_int rfl rfl (by decide) (fun _ => rfl) ⟨by decide, by decide, by decide⟩ ⟨Nat.le_of_ble_eq_true rfl, Nat.le_of_ble_eq_true rfl⟩ dX2_init_23 dX2_init_25 (fun q3 H locs hP hD hS => ?_)
  refine lv_aload_n hx hb dX2_init_28 rfl (lv_at hl 0 rfl) ?_
  refine lv_bipush (v := 20) hx hb dX2_init_29 (by decide) ?_
  refine czA (t := 3) (u := 0) (N := 20) (a0 := (20, .inl (fun _ => 0))) C hP hD hS (by decide) (by decide) (Nat.le_of_ble_eq_true rfl) zf_2_21 zd_2_3 za_int rfl rfl (by decide) (fun _ => rfl) ⟨by decide, by decide, by decide⟩ ⟨Nat.le_of_ble_eq_true rfl, Nat.le_of_ble_eq_true rfl⟩ dX2_init_31 dX2_init_33 (fun q4 H locs hP hD hS => ?_)
  refine W.widen (k := 4) (n := 80) (Nat.le_of_ble_eq_true rfl) (Nat.le_of_ble_eq_true rfl) ?_
  exact W.vret hx hb hr (fun t ht hW => ⟨⟨fun i => ([h0, q1, q2, q3, q4] : List Nat).getD i 0, rfl, rfl, by rw [ht]; exact hP, hD⟩, hS.F ht⟩) hS.2.2 dX2_init_36 hlocks
def wB_4 (cy : Nat → ClassId) (q : Nat → Nat) : va_W := [(q 0, .inr (4, [.ref (q 1), .ref (q 2), .ref (q 3), .ref (q 4), .ref (q 5), .ref (q 6), .int 0, .ref (q 7), .null, .int 0, .int 0, .int 0, .int 0])), (q 1, .inl (cy 0, 6, .inl (fun _ => 0))), (q 2, .inl (cy 0, 20, .inl (fun _ => 0))), (q 3, .inl (cy 0, 20, .inl (fun _ => 0))), (q 4, .inl (cy 0, 6, .inl (fun _ => 0))), (q 5, .inl (cy 0, 1080, .inl (fun _ => 0))), (q 6, .inl (cy 0, 1080, .inl (fun _ => 0))), (q 7, .inl (cy 2, 144, .inl (fun _ => 0)))]
theorem zfs_4 : ∀ j, j < nS 4 → defaultValue (tyc 4 j) = vp_V [.null, .null, .null, .null, .null, .null, .int 0, .null, .null, .int 0, .int 0, .int 0, .int 0] j := by decide +kernel
set_option maxRecDepth 100000 in
set_option maxHeartbeats 4000000 in
theorem ct_4 (l : Launch) : CtOK l 4 yX4_init cX4_init 1 [.null, .null, .null, .null, .null, .null, .int 0, .null, .null, .int 0, .int 0, .int 0, .int 0] wB_4 { frames := 1, cells := 7, slots := 2356, locals := 12 } 7 2356 := by
  refine ct_of (by decide) ⟨rfl, rfl⟩ (by decide) (fun p e s m below meth c dC dI cy h0 A ls C hr hlocks hP hD hS hl => ?_)
  obtain ⟨hx, hb, hml, hown, hts, hK, hNW, hin, hA⟩ := id C
  refine lv_aload_n hx hb dX4_init_0 rfl (lv_at hl 0 rfl) ?_
  refine W.objInit hx hb hown (hts _ (lwg_of zl_4 rfl)) (hts _ (lwg_of zo_i rfl)) (hts _ (lwg_of zo_c rfl)) rfl (by rw [hml]; exact hl.1) rfl dX4_init_1 (Nat.le_of_ble_eq_true rfl) (Nat.le_of_ble_eq_true rfl) ?_
  refine W.eq (g2 := F0 m 4 ls []) rfl ?_
  refine lv_aload_n hx hb dX4_init_4 rfl (lv_at hl 0 rfl) ?_
  refine lv_bipush (v := 6) hx hb dX4_init_5 (by decide) ?_
  refine czA (t := 0) (u := 0) (N := 6) (a0 := (6, .inl (fun _ => 0))) C hP hD hS (by decide) (by decide) (Nat.le_of_ble_eq_true rfl) zf_4_9 zd_4_0 za_int rfl rfl (by decide) (fun _ => rfl) ⟨by decide, by decide, by decide⟩ ⟨Nat.le_of_ble_eq_true rfl, Nat.le_of_ble_eq_true rfl⟩ dX4_init_7 dX4_init_9 (fun q1 H locs hP hD hS => ?_)
  refine lv_aload_n hx hb dX4_init_12 rfl (lv_at hl 0 rfl) ?_
  refine lv_bipush (v := 20) hx hb dX4_init_13 (by decide) ?_
  refine czA (t := 1) (u := 0) (N := 20) (a0 := (20, .inl (fun _ => 0))) C hP hD hS (by decide) (by decide) (Nat.le_of_ble_eq_true rfl) zf_4_15 zd_4_1 za_int rfl rfl (by decide) (fun _ => rfl) ⟨by decide, by decide, by decide⟩ ⟨Nat.le_of_ble_eq_true rfl, Nat.le_of_ble_eq_true rfl⟩ dX4_init_15 dX4_init_17 (fun q2 H locs hP hD hS => ?_)
  refine lv_aload_n hx hb dX4_init_20 rfl (lv_at hl 0 rfl) ?_
  refine lv_bipush (v := 20) hx hb dX4_init_21 (by decide) ?_
  refine czA (t := 2) (u := 0) (N := 20) (a0 := (20, .inl (fun _ => 0))) C hP hD hS (by decide) (by decide) (Nat.le_of_ble_eq_true rfl) zf_4_18 zd_4_2 za_int rfl rfl (by decide) (fun _ => rfl) ⟨by decide, by decide, by decide⟩ ⟨Nat.le_of_ble_eq_true rfl, Nat.le_of_ble_eq_true rfl⟩ dX4_init_23 dX4_init_25 (fun q3 H locs hP hD hS => ?_)
  refine lv_aload_n hx hb dX4_init_28 rfl (lv_at hl 0 rfl) ?_
  refine lv_bipush (v := 6) hx hb dX4_init_29 (by decide) ?_
  refine czA (t := 3) (u := 0) (N := 6) (a0 := (6, .inl (fun _ => 0))) C hP hD hS (by decide) (by decide) (Nat.le_of_ble_eq_true rfl) zf_4_21 zd_4_3 za_int rfl rfl (by decide) (fun _ => rfl) ⟨by decide, by decide, by decide⟩ ⟨Nat.le_of_ble_eq_true rfl, Nat.le_of_ble_eq_true rfl⟩ dX4_init_31 dX4_init_33 (fun q4 H locs hP hD hS => ?_)
  refine lv_aload_n hx hb dX4_init_36 rfl (lv_at hl 0 rfl) ?_
  refine lv_sipush (v := 1080) hx hb dX4_init_37 (by decide) ?_
  refine czA (t := 4) (u := 0) (N := 1080) (a0 := (1080, .inl (fun _ => 0))) C hP hD hS (by decide) (by decide) (Nat.le_of_ble_eq_true rfl) zf_4_24 zd_4_4 za_int rfl rfl (by decide) (fun _ => rfl) ⟨by decide, by decide, by decide⟩ ⟨Nat.le_of_ble_eq_true rfl, Nat.le_of_ble_eq_true rfl⟩ dX4_init_40 dX4_init_42 (fun q5 H locs hP hD hS => ?_)
  refine lv_aload_n hx hb dX4_init_45 rfl (lv_at hl 0 rfl) ?_
  refine lv_sipush (v := 1080) hx hb dX4_init_46 (by decide) ?_
  refine czA (t := 5) (u := 0) (N := 1080) (a0 := (1080, .inl (fun _ => 0))) C hP hD hS (by decide) (by decide) (Nat.le_of_ble_eq_true rfl) zf_4_27 zd_4_5 za_int rfl rfl (by decide) (fun _ => rfl) ⟨by decide, by decide, by decide⟩ ⟨Nat.le_of_ble_eq_true rfl, Nat.le_of_ble_eq_true rfl⟩ dX4_init_49 dX4_init_51 (fun q6 H locs hP hD hS => ?_)
  refine lv_aload_n hx hb dX4_init_54 rfl (lv_at hl 0 rfl) ?_
  refine lv_iconst (v := 0) hx hb dX4_init_55 (by decide) ?_
  refine czV (t := 6) C hP hD hS (by decide) (by decide) (Nat.le_of_ble_eq_true rfl) zf_4_30 zd_4_6 rfl rfl dX4_init_56 (fun H locs hP hD hS => ?_)
  refine lv_aload_n hx hb dX4_init_59 rfl (lv_at hl 0 rfl) ?_
  refine lv_sipush (v := 144) hx hb dX4_init_60 (by decide) ?_
  refine czA (t := 7) (u := 2) (N := 144) (a0 := (144, .inl (fun _ => 0))) C hP hD hS (by decide) (by decide) (Nat.le_of_ble_eq_true rfl) zf_4_34 zd_4_7 za_boolean rfl rfl (by decide) (fun _ => rfl) ⟨by decide, by decide, by decide⟩ ⟨Nat.le_of_ble_eq_true rfl, Nat.le_of_ble_eq_true rfl⟩ dX4_init_63 dX4_init_65 (fun q7 H locs hP hD hS => ?_)
  refine lv_aload_n hx hb dX4_init_68 rfl (lv_at hl 0 rfl) ?_
  refine lv_null hx hb dX4_init_69 ?_
  refine czV (t := 8) C hP hD hS (by decide) (by decide) (Nat.le_of_ble_eq_true rfl) zf_4_38 zd_4_8 rfl rfl dX4_init_70 (fun H locs hP hD hS => ?_)
  refine lv_aload_n hx hb dX4_init_73 rfl (lv_at hl 0 rfl) ?_
  refine lv_iconst (v := 0) hx hb dX4_init_74 (by decide) ?_
  refine czV (t := 9) C hP hD hS (by decide) (by decide) (Nat.le_of_ble_eq_true rfl) zf_4_42 zd_4_9 rfl rfl dX4_init_75 (fun H locs hP hD hS => ?_)
  refine lv_aload_n hx hb dX4_init_78 rfl (lv_at hl 0 rfl) ?_
  refine lv_iconst (v := 0) hx hb dX4_init_79 (by decide) ?_
  refine czV (t := 10) C hP hD hS (by decide) (by decide) (Nat.le_of_ble_eq_true rfl) zf_4_45 zd_4_10 rfl rfl dX4_init_80 (fun H locs hP hD hS => ?_)
  refine lv_aload_n hx hb dX4_init_83 rfl (lv_at hl 0 rfl) ?_
  refine lv_iconst (v := 0) hx hb dX4_init_84 (by decide) ?_
  refine czV (t := 11) C hP hD hS (by decide) (by decide) (Nat.le_of_ble_eq_true rfl) zf_4_48 zd_4_11 rfl rfl dX4_init_85 (fun H locs hP hD hS => ?_)
  refine lv_aload_n hx hb dX4_init_88 rfl (lv_at hl 0 rfl) ?_
  refine lv_iconst (v := 0) hx hb dX4_init_89 (by decide) ?_
  refine czV (t := 12) C hP hD hS (by decide) (by decide) (Nat.le_of_ble_eq_true rfl) zf_4_51 zd_4_12 rfl rfl dX4_init_90 (fun H locs hP hD hS => ?_)
  refine W.widen (k := 7) (n := 2356) (Nat.le_of_ble_eq_true rfl) (Nat.le_of_ble_eq_true rfl) ?_
  exact W.vret hx hb hr (fun t ht hW => ⟨⟨fun i => ([h0, q1, q2, q3, q4, q5, q6, q7] : List Nat).getD i 0, rfl, rfl, by rw [ht]; exact hP, hD⟩, hS.F ht⟩) hS.2.2 dX4_init_93 hlocks
def wB_3 (cy : Nat → ClassId) (q : Nat → Nat) : va_W := [(q 0, .inr (3, [.ref (q 1), .null, .int 0, .int 0, .int 0])), (q 1, .inl (cy 0, 5, .inl (fun _ => 0)))]
theorem zfs_3 : ∀ j, j < nS 3 → defaultValue (tyc 3 j) = vp_V [.null, .null, .int 0, .int 0, .int 0] j := by decide +kernel
set_option maxRecDepth 100000 in
set_option maxHeartbeats 4000000 in
theorem ct_3 (l : Launch) : CtOK l 3 yX3_init cX3_init 1 [.null, .null, .int 0, .int 0, .int 0] wB_3 { frames := 1, cells := 1, slots := 5, locals := 12 } 1 5 := by
  refine ct_of (by decide) ⟨rfl, rfl⟩ (by decide) (fun p e s m below meth c dC dI cy h0 A ls C hr hlocks hP hD hS hl => ?_)
  obtain ⟨hx, hb, hml, hown, hts, hK, hNW, hin, hA⟩ := id C
  refine lv_aload_n hx hb dX3_init_0 rfl (lv_at hl 0 rfl) ?_
  refine W.objInit hx hb hown (hts _ (lwg_of zl_3 rfl)) (hts _ (lwg_of zo_i rfl)) (hts _ (lwg_of zo_c rfl)) rfl (by rw [hml]; exact hl.1) rfl dX3_init_1 (Nat.le_of_ble_eq_true rfl) (Nat.le_of_ble_eq_true rfl) ?_
  refine W.eq (g2 := F0 m 4 ls []) rfl ?_
  refine lv_aload_n hx hb dX3_init_4 rfl (lv_at hl 0 rfl) ?_
  refine lv_iconst (v := 5) hx hb dX3_init_5 (by decide) ?_
  refine czA (t := 0) (u := 0) (N := 5) (a0 := (5, .inl (fun _ => 0))) C hP hD hS (by decide) (by decide) (Nat.le_of_ble_eq_true rfl) zf_3_11 zd_3_0 za_int rfl rfl (by decide) (fun _ => rfl) ⟨by decide, by decide, by decide⟩ ⟨Nat.le_of_ble_eq_true rfl, Nat.le_of_ble_eq_true rfl⟩ dX3_init_6 dX3_init_8 (fun q1 H locs hP hD hS => ?_)
  refine lv_aload_n hx hb dX3_init_11 rfl (lv_at hl 0 rfl) ?_
  refine lv_null hx hb dX3_init_12 ?_
  refine czV (t := 1) C hP hD hS (by decide) (by decide) (Nat.le_of_ble_eq_true rfl) zf_3_15 zd_3_1 rfl rfl dX3_init_13 (fun H locs hP hD hS => ?_)
  refine lv_aload_n hx hb dX3_init_16 rfl (lv_at hl 0 rfl) ?_
  refine lv_iconst (v := 0) hx hb dX3_init_17 (by decide) ?_
  refine czV (t := 2) C hP hD hS (by decide) (by decide) (Nat.le_of_ble_eq_true rfl) zf_3_19 zd_3_2 rfl rfl dX3_init_18 (fun H locs hP hD hS => ?_)
  refine lv_aload_n hx hb dX3_init_21 rfl (lv_at hl 0 rfl) ?_
  refine lv_iconst (v := 0) hx hb dX3_init_22 (by decide) ?_
  refine czV (t := 3) C hP hD hS (by decide) (by decide) (Nat.le_of_ble_eq_true rfl) zf_3_23 zd_3_3 rfl rfl dX3_init_23 (fun H locs hP hD hS => ?_)
  refine lv_aload_n hx hb dX3_init_26 rfl (lv_at hl 0 rfl) ?_
  refine lv_iconst (v := 0) hx hb dX3_init_27 (by decide) ?_
  refine czV (t := 4) C hP hD hS (by decide) (by decide) (Nat.le_of_ble_eq_true rfl) zf_3_26 zd_3_4 rfl rfl dX3_init_28 (fun H locs hP hD hS => ?_)
  refine W.widen (k := 1) (n := 5) (Nat.le_of_ble_eq_true rfl) (Nat.le_of_ble_eq_true rfl) ?_
  exact W.vret hx hb hr (fun t ht hW => ⟨⟨fun i => ([h0, q1] : List Nat).getD i 0, rfl, rfl, by rw [ht]; exact hP, hD⟩, hS.F ht⟩) hS.2.2 dX3_init_31 hlocks
def wB_1 (cy : Nat → ClassId) (q : Nat → Nat) : va_W := [(q 0, .inr (1, [.int 0, .int 0, .ref (q 1), .ref (q 2), .ref (q 3), .ref (q 4), .ref (q 5), .ref (q 6), .ref (q 7), .ref (q 8), .ref (q 9)])), (q 1, .inl (cy 0, 14, .inl (fun _ => 0))), (q 2, .inl (cy 0, 14, .inl (fun _ => 0))), (q 3, .inl (cy 0, 14, .inl (fun _ => 0))), (q 4, .inl (cy 0, 14, .inl (fun _ => 0))), (q 5, .inl (cy 0, 14, .inl (fun _ => 0))), (q 6, .inl (cy 0, 36, .inl (fun _ => 0))), (q 7, .inl (cy 0, 36, .inl (fun _ => 0))), (q 8, .inl (cy 0, 64, .inl (fun _ => 0))), (q 9, .inl (cy 0, 64, .inl (fun _ => 0)))]
theorem zfs_1 : ∀ j, j < nS 1 → defaultValue (tyc 1 j) = vp_V [.int 0, .int 0, .null, .null, .null, .null, .null, .null, .null, .null, .null] j := by decide +kernel
set_option maxRecDepth 100000 in
set_option maxHeartbeats 4000000 in
theorem ct_1 (l : Launch) : CtOK l 1 yX1_init cX1_init 1 [.int 0, .int 0, .null, .null, .null, .null, .null, .null, .null, .null, .null] wB_1 { frames := 1, cells := 9, slots := 270, locals := 12 } 9 270 := by
  refine ct_of (by decide) ⟨rfl, rfl⟩ (by decide) (fun p e s m below meth c dC dI cy h0 A ls C hr hlocks hP hD hS hl => ?_)
  obtain ⟨hx, hb, hml, hown, hts, hK, hNW, hin, hA⟩ := id C
  refine lv_aload_n hx hb dX1_init_0 rfl (lv_at hl 0 rfl) ?_
  refine W.objInit hx hb hown (hts _ (lwg_of zl_1 rfl)) (hts _ (lwg_of zo_i rfl)) (hts _ (lwg_of zo_c rfl)) rfl (by rw [hml]; exact hl.1) rfl dX1_init_1 (Nat.le_of_ble_eq_true rfl) (Nat.le_of_ble_eq_true rfl) ?_
  refine W.eq (g2 := F0 m 4 ls []) rfl ?_
  refine lv_aload_n hx hb dX1_init_4 rfl (lv_at hl 0 rfl) ?_
  refine lv_iconst (v := 0) hx hb dX1_init_5 (by decide) ?_
  refine czV (t := 0) C hP hD hS (by decide) (by decide) (Nat.le_of_ble_eq_true rfl) zf_1_9 zd_1_0 rfl rfl dX1_init_6 (fun H locs hP hD hS => ?_)
  refine lv_aload_n hx hb dX1_init_9 rfl (lv_at hl 0 rfl) ?_
  refine lv_iconst (v := 0) hx hb dX1_init_10 (by decide) ?_
  refine czV (t := 1) C hP hD hS (by decide) (by decide) (Nat.le_of_ble_eq_true rfl) zf_1_15 zd_1_1 rfl rfl dX1_init_11 (fun H locs hP hD hS => ?_)
  refine lv_aload_n hx hb dX1_init_14 rfl (lv_at hl 0 rfl) ?_
  refine lv_bipush (v := 14) hx hb dX1_init_15 (by decide) ?_
  refine czA (t := 2) (u := 0) (N := 14) (a0 := (14, .inl (fun _ => 0))) C hP hD hS (by decide) (by decide) (Nat.le_of_ble_eq_true rfl) zf_1_18 zd_1_2 za_int rfl rfl (by decide) (fun _ => rfl) ⟨by decide, by decide, by decide⟩ ⟨Nat.le_of_ble_eq_true rfl, Nat.le_of_ble_eq_true rfl⟩ dX1_init_17 dX1_init_19 (fun q1 H locs hP hD hS => ?_)
  refine lv_aload_n hx hb dX1_init_22 rfl (lv_at hl 0 rfl) ?_
  refine lv_bipush (v := 14) hx hb dX1_init_23 (by decide) ?_
  refine czA (t := 3) (u := 0) (N := 14) (a0 := (14, .inl (fun _ => 0))) C hP hD hS (by decide) (by decide) (Nat.le_of_ble_eq_true rfl) zf_1_22 zd_1_3 za_int rfl rfl (by decide) (fun _ => rfl) ⟨by decide, by decide, by decide⟩ ⟨Nat.le_of_ble_eq_true rfl, Nat.le_of_ble_eq_true rfl⟩ dX1_init_25 dX1_init_27 (fun q2 H locs hP hD hS => ?_)
  refine lv_aload_n hx hb dX1_init_30 rfl (lv_at hl 0 rfl) ?_
  refine lv_bipush (v := 14) hx hb dX1_init_31 (by decide) ?_
  refine czA (t := 4) (u := 0) (N := 14) (a0 := (14, .inl (fun _ => 0))) C hP hD hS (by decide) (by decide) (Nat.le_of_ble_eq_true rfl) zf_1_25 zd_1_4 za_int rfl rfl (by decide) (fun _ => rfl) ⟨by decide, by decide, by decide⟩ ⟨Nat.le_of_ble_eq_true rfl, Nat.le_of_ble_eq_true rfl⟩ dX1_init_33 dX1_init_35 (fun q3 H locs hP hD hS => ?_)
  refine lv_aload_n hx hb dX1_init_38 rfl (lv_at hl 0 rfl) ?_
  refine lv_bipush (v := 14) hx hb dX1_init_39 (by decide) ?_
  refine czA (t := 5) (u := 0) (N := 14) (a0 := (14, .inl (fun _ => 0))) C hP hD hS (by decide) (by decide) (Nat.le_of_ble_eq_true rfl) zf_1_28 zd_1_5 za_int rfl rfl (by decide) (fun _ => rfl) ⟨by decide, by decide, by decide⟩ ⟨Nat.le_of_ble_eq_true rfl, Nat.le_of_ble_eq_true rfl⟩ dX1_init_41 dX1_init_43 (fun q4 H locs hP hD hS => ?_)
  refine lv_aload_n hx hb dX1_init_46 rfl (lv_at hl 0 rfl) ?_
  refine lv_bipush (v := 14) hx hb dX1_init_47 (by decide) ?_
  refine czA (t := 6) (u := 0) (N := 14) (a0 := (14, .inl (fun _ => 0))) C hP hD hS (by decide) (by decide) (Nat.le_of_ble_eq_true rfl) zf_1_31 zd_1_6 za_int rfl rfl (by decide) (fun _ => rfl) ⟨by decide, by decide, by decide⟩ ⟨Nat.le_of_ble_eq_true rfl, Nat.le_of_ble_eq_true rfl⟩ dX1_init_49 dX1_init_51 (fun q5 H locs hP hD hS => ?_)
  refine lv_aload_n hx hb dX1_init_54 rfl (lv_at hl 0 rfl) ?_
  refine lv_bipush (v := 36) hx hb dX1_init_55 (by decide) ?_
  refine czA (t := 7) (u := 0) (N := 36) (a0 := (36, .inl (fun _ => 0))) C hP hD hS (by decide) (by decide) (Nat.le_of_ble_eq_true rfl) zf_1_34 zd_1_7 za_int rfl rfl (by decide) (fun _ => rfl) ⟨by decide, by decide, by decide⟩ ⟨Nat.le_of_ble_eq_true rfl, Nat.le_of_ble_eq_true rfl⟩ dX1_init_57 dX1_init_59 (fun q6 H locs hP hD hS => ?_)
  refine lv_aload_n hx hb dX1_init_62 rfl (lv_at hl 0 rfl) ?_
  refine lv_bipush (v := 36) hx hb dX1_init_63 (by decide) ?_
  refine czA (t := 8) (u := 0) (N := 36) (a0 := (36, .inl (fun _ => 0))) C hP hD hS (by decide) (by decide) (Nat.le_of_ble_eq_true rfl) zf_1_37 zd_1_8 za_int rfl rfl (by decide) (fun _ => rfl) ⟨by decide, by decide, by decide⟩ ⟨Nat.le_of_ble_eq_true rfl, Nat.le_of_ble_eq_true rfl⟩ dX1_init_65 dX1_init_67 (fun q7 H locs hP hD hS => ?_)
  refine lv_aload_n hx hb dX1_init_70 rfl (lv_at hl 0 rfl) ?_
  refine lv_bipush (v := 64) hx hb dX1_init_71 (by decide) ?_
  refine czA (t := 9) (u := 0) (N := 64) (a0 := (64, .inl (fun _ => 0))) C hP hD hS (by decide) (by decide) (Nat.le_of_ble_eq_true rfl) zf_1_40 zd_1_9 za_int rfl rfl (by decide) (fun _ => rfl) ⟨by decide, by decide, by decide⟩ ⟨Nat.le_of_ble_eq_true rfl, Nat.le_of_ble_eq_true rfl⟩ dX1_init_73 dX1_init_75 (fun q8 H locs hP hD hS => ?_)
  refine lv_aload_n hx hb dX1_init_78 rfl (lv_at hl 0 rfl) ?_
  refine lv_bipush (v := 64) hx hb dX1_init_79 (by decide) ?_
  refine czA (t := 10) (u := 0) (N := 64) (a0 := (64, .inl (fun _ => 0))) C hP hD hS (by decide) (by decide) (Nat.le_of_ble_eq_true rfl) zf_1_43 zd_1_10 za_int rfl rfl (by decide) (fun _ => rfl) ⟨by decide, by decide, by decide⟩ ⟨Nat.le_of_ble_eq_true rfl, Nat.le_of_ble_eq_true rfl⟩ dX1_init_81 dX1_init_83 (fun q9 H locs hP hD hS => ?_)
  refine W.widen (k := 9) (n := 270) (Nat.le_of_ble_eq_true rfl) (Nat.le_of_ble_eq_true rfl) ?_
  exact W.vret hx hb hr (fun t ht hW => ⟨⟨fun i => ([h0, q1, q2, q3, q4, q5, q6, q7, q8, q9] : List Nat).getD i 0, rfl, rfl, by rw [ht]; exact hP, hD⟩, hS.F ht⟩) hS.2.2 dX1_init_86 hlocks
def wB_0 (cy : Nat → ClassId) (q : Nat → Nat) : va_W := [(q 0, .inr (0, [.int 0, .ref (q 1), .ref (q 2), .ref (q 3), .ref (q 4), .ref (q 5), .ref (q 6), .ref (q 7), .ref (q 12), .int 0, .int (-1), .ref (q 13)])), (q 1, .inl (cy 0, 6, .inl (fun _ => 0))), (q 2, .inl (cy 0, 6, .inl (fun _ => 0))), (q 3, .inl (cy 0, 6, .inl (fun _ => 0))), (q 4, .inl (cy 0, 24, .inl (fun _ => 0))), (q 5, .inl (cy 0, 144, .inl (fun _ => 0))), (q 6, .inl (cy 0, 144, .inl (fun _ => 0))), (q 7, .inr (2, [.ref (q 8), .ref (q 9), .ref (q 10), .ref (q 11)])), (q 8, .inl (cy 0, 20, .inl (fun _ => 0))), (q 9, .inl (cy 0, 20, .inl (fun _ => 0))), (q 10, .inl (cy 0, 20, .inl (fun _ => 0))), (q 11, .inl (cy 0, 20, .inl (fun _ => 0))), (q 12, .inl (cy 0, 200, .inl (fun _ => 0))), (q 13, .inl (cy 0, 6, .inl fillF))]
theorem zfs_0 : ∀ j, j < nS 0 → defaultValue (tyc 0 j) = vp_V [.int 0, .null, .null, .null, .null, .null, .null, .null, .null, .int 0, .int 0, .null] j := by decide +kernel
set_option maxRecDepth 100000 in
set_option maxHeartbeats 4000000 in
theorem ct_0 (l : Launch) : CtOK l 0 yX0_init cX0_init 1 [.int 0, .null, .null, .null, .null, .null, .null, .null, .null, .int 0, .int 0, .null] wB_0 { frames := 2, cells := 13, slots := 620, locals := 35 } 13 620 := by
  refine ct_of (by decide) ⟨rfl, rfl⟩ (by decide) (fun p e s m below meth c dC dI cy h0 A ls C hr hlocks hP hD hS hl => ?_)
  obtain ⟨hx, hb, hml, hown, hts, hK, hNW, hin, hA⟩ := id C
  refine lv_aload_n hx hb dX0_init_0 rfl (lv_at hl 0 rfl) ?_
  refine W.objInit hx hb hown (hts _ (lwg_of zl_0 rfl)) (hts _ (lwg_of zo_i rfl)) (hts _ (lwg_of zo_c rfl)) rfl (by rw [hml]; exact hl.1) rfl dX0_init_1 (Nat.le_of_ble_eq_true rfl) (Nat.le_of_ble_eq_true rfl) ?_
  refine W.eq (g2 := F0 m 4 ls []) rfl ?_
  refine lv_aload_n hx hb dX0_init_4 rfl (lv_at hl 0 rfl) ?_
  refine lv_iconst (v := 0) hx hb dX0_init_5 (by decide) ?_
  refine czV (t := 0) C hP hD hS (by decide) (by decide) (Nat.le_of_ble_eq_true rfl) zf_0_9 zd_0_0 rfl rfl dX0_init_6 (fun H locs hP hD hS => ?_)
  refine lv_aload_n hx hb dX0_init_9 rfl (lv_at hl 0 rfl) ?_
  refine lv_bipush (v := 6) hx hb dX0_init_10 (by decide) ?_
  refine czA (t := 1) (u := 0) (N := 6) (a0 := (6, .inl (fun _ => 0))) C hP hD hS (by decide) (by decide) (Nat.le_of_ble_eq_true rfl) zf_0_15 zd_0_1 za_int rfl rfl (by decide) (fun _ => rfl) ⟨by decide, by decide, by decide⟩ ⟨Nat.le_of_ble_eq_true rfl, Nat.le_of_ble_eq_true rfl⟩ dX0_init_12 dX0_init_14 (fun q1 H locs hP hD hS => ?_)
  refine lv_aload_n hx hb dX0_init_17 rfl (lv_at hl 0 rfl) ?_
  refine lv_bipush (v := 6) hx hb dX0_init_18 (by decide) ?_
  refine czA (t := 2) (u := 0) (N := 6) (a0 := (6, .inl (fun _ => 0))) C hP hD hS (by decide) (by decide) (Nat.le_of_ble_eq_true rfl) zf_0_19 zd_0_2 za_int rfl rfl (by decide) (fun _ => rfl) ⟨by decide, by decide, by decide⟩ ⟨Nat.le_of_ble_eq_true rfl, Nat.le_of_ble_eq_true rfl⟩ dX0_init_20 dX0_init_22 (fun q2 H locs hP hD hS => ?_)
  refine lv_aload_n hx hb dX0_init_25 rfl (lv_at hl 0 rfl) ?_
  refine lv_bipush (v := 6) hx hb dX0_init_26 (by decide) ?_
  refine czA (t := 3) (u := 0) (N := 6) (a0 := (6, .inl (fun _ => 0))) C hP hD hS (by decide) (by decide) (Nat.le_of_ble_eq_true rfl) zf_0_22 zd_0_3 za_int rfl rfl (by decide) (fun _ => rfl) ⟨by decide, by decide, by decide⟩ ⟨Nat.le_of_ble_eq_true rfl, Nat.le_of_ble_eq_true rfl⟩ dX0_init_28 dX0_init_30 (fun q3 H locs hP hD hS => ?_)
  refine lv_aload_n hx hb dX0_init_33 rfl (lv_at hl 0 rfl) ?_
  refine lv_bipush (v := 24) hx hb dX0_init_34 (by decide) ?_
  refine czA (t := 4) (u := 0) (N := 24) (a0 := (24, .inl (fun _ => 0))) C hP hD hS (by decide) (by decide) (Nat.le_of_ble_eq_true rfl) zf_0_25 zd_0_4 za_int rfl rfl (by decide) (fun _ => rfl) ⟨by decide, by decide, by decide⟩ ⟨Nat.le_of_ble_eq_true rfl, Nat.le_of_ble_eq_true rfl⟩ dX0_init_36 dX0_init_38 (fun q4 H locs hP hD hS => ?_)
  refine lv_aload_n hx hb dX0_init_41 rfl (lv_at hl 0 rfl) ?_
  refine lv_sipush (v := 144) hx hb dX0_init_42 (by decide) ?_
  refine czA (t := 5) (u := 0) (N := 144) (a0 := (144, .inl (fun _ => 0))) C hP hD hS (by decide) (by decide) (Nat.le_of_ble_eq_true rfl) zf_0_28 zd_0_5 za_int rfl rfl (by decide) (fun _ => rfl) ⟨by decide, by decide, by decide⟩ ⟨Nat.le_of_ble_eq_true rfl, Nat.le_of_ble_eq_true rfl⟩ dX0_init_45 dX0_init_47 (fun q5 H locs hP hD hS => ?_)
  refine lv_aload_n hx hb dX0_init_50 rfl (lv_at hl 0 rfl) ?_
  refine lv_sipush (v := 144) hx hb dX0_init_51 (by decide) ?_
  refine czA (t := 6) (u := 0) (N := 144) (a0 := (144, .inl (fun _ => 0))) C hP hD hS (by decide) (by decide) (Nat.le_of_ble_eq_true rfl) zf_0_31 zd_0_6 za_int rfl rfl (by decide) (fun _ => rfl) ⟨by decide, by decide, by decide⟩ ⟨Nat.le_of_ble_eq_true rfl, Nat.le_of_ble_eq_true rfl⟩ dX0_init_54 dX0_init_56 (fun q6 H locs hP hD hS => ?_)
  refine lv_aload_n hx hb dX0_init_59 rfl (lv_at hl 0 rfl) ?_
  refine czC (k2 := 2) (rest := [.ref h0]) C hl.1 hP hD hS (by decide) zk_0_34 zi_2 zt_2 zfs_2 (ct_2 l) ⟨Nat.le_of_ble_eq_true rfl, Nat.le_of_ble_eq_true rfl⟩ dX0_init_60 dX0_init_63 dX0_init_64 (Nat.le_of_ble_eq_true rfl) (Or.inr ⟨_, va_cnB 0 hts (wsI_good zc_2) rfl rfl rfl hNW.1 (hts _ (lwg_of zt_2 rfl)) (by decide +kernel) ⟨Nat.le_of_ble_eq_true rfl, Nat.le_of_ble_eq_true rfl⟩, rfl, hts _ (lwg_of zm_2 rfl)⟩) (fun q7 H locs hP hD hS => ?_)
  rw [List.cons_append] at hP hD
  refine czP (t := 7) C hP hD hS (by decide) (by decide) (Nat.le_of_ble_eq_true rfl) zf_0_37 zd_0_7 rfl rfl dX0_init_67 (fun H locs hP hD hS => ?_)
  refine lv_aload_n hx hb dX0_init_70 rfl (lv_at hl 0 rfl) ?_
  refine lv_sipush (v := 200) hx hb dX0_init_71 (by decide) ?_
  refine czA (t := 8) (u := 0) (N := 200) (a0 := (200, .inl (fun _ => 0))) C hP hD hS (by decide) (by decide) (Nat.le_of_ble_eq_true rfl) zf_0_41 zd_0_8 za_int rfl rfl (by decide) (fun _ => rfl) ⟨by decide, by decide, by decide⟩ ⟨Nat.le_of_ble_eq_true rfl, Nat.le_of_ble_eq_true rfl⟩ dX0_init_74 dX0_init_76 (fun q12 H locs hP hD hS => ?_)
  refine lv_aload_n hx hb dX0_init_79 rfl (lv_at hl 0 rfl) ?_
  refine lv_iconst (v := 0) hx hb dX0_init_80 (by decide) ?_
  refine czV (t := 9) C hP hD hS (by decide) (by decide) (Nat.le_of_ble_eq_true rfl) zf_0_44 zd_0_9 rfl rfl dX0_init_81 (fun H locs hP hD hS => ?_)
  refine lv_aload_n hx hb dX0_init_84 rfl (lv_at hl 0 rfl) ?_
  refine lv_iconst (v := (-1)) hx hb dX0_init_85 (by decide) ?_
  refine czV (t := 10) C hP hD hS (by decide) (by decide) (Nat.le_of_ble_eq_true rfl) zf_0_47 zd_0_10 rfl rfl dX0_init_86 (fun H locs hP hD hS => ?_)
  refine lv_aload_n hx hb dX0_init_89 rfl (lv_at hl 0 rfl) ?_
  refine lv_bipush (v := 6) hx hb dX0_init_90 (by decide) ?_
  refine czA (t := 11) (u := 0) (N := 6) (a0 := (6, .inl (fun _ => 0))) C hP hD hS (by decide) (by decide) (Nat.le_of_ble_eq_true rfl) zf_0_50 zd_0_11 za_int rfl rfl (by decide) (fun _ => rfl) ⟨by decide, by decide, by decide⟩ ⟨Nat.le_of_ble_eq_true rfl, Nat.le_of_ble_eq_true rfl⟩ dX0_init_92 dX0_init_94 (fun q13 H locs hP hD hS => ?_)
  refine lv_aload_n hx hb dX0_init_97 rfl (lv_at hl 0 rfl) ?_
  refine va_get (D := (dC, dI)) (ci := 0) (v := .ref q13) (ref := (Tc 0 11).1) (C := cN 0) (T := Tc 0) (N := nS 0) hx hb hts (uws_in (by decide)) hown hK hP 0 rfl (vcl (by decide)) 11 (by decide) (hts _ (lwg_of zf_0_50 rfl)) (fun _ h9 => h9) rfl dX0_init_98 ?_
  refine lv_iconst (v := -1) hx hb dX0_init_101 (by decide) ?_
  rw [← List.cons_append] at hP hD
  refine czFill C hl.1 hP hD hS rfl ⟨Nat.le_of_ble_eq_true rfl, Nat.le_of_ble_eq_true rfl⟩ ⟨Nat.le_of_ble_eq_true rfl, Nat.le_of_ble_eq_true rfl⟩ dX0_init_102 (fun H locs hP hD hS => ?_)
  refine W.widen (k := 13) (n := 620) (Nat.le_of_ble_eq_true rfl) (Nat.le_of_ble_eq_true rfl) ?_
  exact W.vret hx hb hr (fun t ht hW => ⟨⟨fun i => ([h0, q1, q2, q3, q4, q5, q6, (q7 0), (q7 1), (q7 2), (q7 3), (q7 4), q12, q13] : List Nat).getD i 0, rfl, rfl, by rw [ht]; exact hP, hD⟩, hS.F ht⟩) hS.2.2 dX0_init_105 hlocks
def wB_5 (cy : Nat → ClassId) (q : Nat → Nat) : va_W := [(q 0, .inr (5, [.ref (q 1), .ref (q 15), .ref (q 16), .ref (q 17), .ref (q 25), .ref (q 30), .ref (q 31), .ref (q 32), .int (-1), .ref (q 33), .ref (q 34), .ref (q 35), .ref (q 37), .long 0, .long 1])), (q 1, .inr (0, [.int 0, .ref (q 2), .ref (q 3), .ref (q 4), .ref (q 5), .ref (q 6), .ref (q 7), .ref (q 8), .ref (q 13), .int 0, .int (-1), .ref (q 14)])), (q 2, .inl (cy 0, 6, .inl (fun _ => 0))), (q 3, .inl (cy 0, 6, .inl (fun _ => 0))), (q 4, .inl (cy 0, 6, .inl (fun _ => 0))), (q 5, .inl (cy 0, 24, .inl (fun _ => 0))), (q 6, .inl (cy 0, 144, .inl (fun _ => 0))), (q 7, .inl (cy 0, 144, .inl (fun _ => 0))), (q 8, .inr (2, [.ref (q 9), .ref (q 10), .ref (q 11), .ref (q 12)])), (q 9, .inl (cy 0, 20, .inl (fun _ => 0))), (q 10, .inl (cy 0, 20, .inl (fun _ => 0))), (q 11, .inl (cy 0, 20, .inl (fun _ => 0))), (q 12, .inl (cy 0, 20, .inl (fun _ => 0))), (q 13, .inl (cy 0, 200, .inl (fun _ => 0))), (q 14, .inl (cy 0, 6, .inl fillF)), (q 15, .inl (cy 3, 2, .inr (.inr (.inr (.inr (fun _ => none)))))), (q 16, .inl (cy 0, 3, .inl (fun _ => 0))), (q 17, .inr (4, [.ref (q 18), .ref (q 19), .ref (q 20), .ref (q 21), .ref (q 22), .ref (q 23), .int 0, .ref (q 24), .null, .int 0, .int 0, .int 0, .int 0])), (q 18, .inl (cy 0, 6, .inl (fun _ => 0))), (q 19, .inl (cy 0, 20, .inl (fun _ => 0))), (q 20, .inl (cy 0, 20, .inl (fun _ => 0))), (q 21, .inl (cy 0, 6, .inl (fun _ => 0))), (q 22, .inl (cy 0, 1080, .inl (fun _ => 0))), (q 23, .inl (cy 0, 1080, .inl (fun _ => 0))), (q 24, .inl (cy 2, 144, .inl (fun _ => 0))), (q 25, .inr (2, [.ref (q 26), .ref (q 27), .ref (q 28), .ref (q 29)])), (q 26, .inl (cy 0, 20, .inl (fun _ => 0))), (q 27, .inl (cy 0, 20, .inl (fun _ => 0))), (q 28, .inl (cy 0, 20, .inl (fun _ => 0))), (q 29, .inl (cy 0, 20, .inl (fun _ => 0))), (q 30, .inl (cy 0, 6, .inl (fun _ => 0))), (q 31, .inl (cy 2, 892, .inl (fun _ => 0))), (q 32, .inl (cy 0, 4, .inl (fun _ => 0))), (q 33, .inl (cy 1, 144, .inr (.inl (fun _ => 0)))), (q 34, .inl (cy 1, 144, .inr (.inl (fun _ => 0)))), (q 35, .inr (3, [.ref (q 36), .null, .int 0, .int 0, .int 0])), (q 36, .inl (cy 0, 5, .inl (fun _ => 0))), (q 37, .inr (1, [.int 0, .int 0, .ref (q 38), .ref (q 39), .ref (q 40), .ref (q 41), .ref (q 42), .ref (q 43), .ref (q 44), .ref (q 45), .ref (q 46)])), (q 38, .inl (cy 0, 14, .inl (fun _ => 0))), (q 39, .inl (cy 0, 14, .inl (fun _ => 0))), (q 40, .inl (cy 0, 14, .inl (fun _ => 0))), (q 41, .inl (cy 0, 14, .inl (fun _ => 0))), (q 42, .inl (cy 0, 14, .inl (fun _ => 0))), (q 43, .inl (cy 0, 36, .inl (fun _ => 0))), (q 44, .inl (cy 0, 36, .inl (fun _ => 0))), (q 45, .inl (cy 0, 64, .inl (fun _ => 0))), (q 46, .inl (cy 0, 64, .inl (fun _ => 0)))]
theorem zfs_5 : ∀ j, j < nS 5 → defaultValue (tyc 5 j) = vp_V [.null, .null, .null, .null, .null, .null, .null, .null, .int 0, .null, .null, .null, .null, .long 0, .long 0] j := by decide +kernel
set_option maxRecDepth 100000 in
set_option maxHeartbeats 4000000 in
theorem ct_5 (l : Launch) : CtOK l 5 yX5_init cX5_init 1 [.null, .null, .null, .null, .null, .null, .null, .null, .int 0, .null, .null, .null, .null, .long 0, .long 0] wB_5 { frames := 3, cells := 46, slots := 4571, locals := 55 } 46 4571 := by
  refine ct_of (by decide) ⟨rfl, rfl⟩ (by decide) (fun p e s m below meth c dC dI cy h0 A ls C hr hlocks hP hD hS hl => ?_)
  obtain ⟨hx, hb, hml, hown, hts, hK, hNW, hin, hA⟩ := id C
  refine lv_aload_n hx hb dX5_init_0 rfl (lv_at hl 0 rfl) ?_
  refine W.objInit hx hb hown (hts _ (lwg_of zl_5 rfl)) (hts _ (lwg_of zo_i rfl)) (hts _ (lwg_of zo_c rfl)) rfl (by rw [hml]; exact hl.1) rfl dX5_init_1 (Nat.le_of_ble_eq_true rfl) (Nat.le_of_ble_eq_true rfl) ?_
  refine W.eq (g2 := F0 m 4 ls []) rfl ?_
  refine lv_aload_n hx hb dX5_init_4 rfl (lv_at hl 0 rfl) ?_
  refine czC (k2 := 0) (rest := [.ref h0]) C hl.1 hP hD hS (by decide) zk_5_9 zi_0 zt_0 zfs_0 (ct_0 l) ⟨Nat.le_of_ble_eq_true rfl, Nat.le_of_ble_eq_true rfl⟩ dX5_init_5 dX5_init_8 dX5_init_9 (Nat.le_of_ble_eq_true rfl) (Or.inl (cwI 0 hts (wsI_good zc_0) rfl rfl rfl (hts _ (lwg_of zt_0 rfl)) (hts _ (lwg_of zn_5_11 rfl)) (hts _ (lwg_of zm_0 rfl)) rfl (by decide +kernel) ⟨Nat.le_of_ble_eq_true rfl, Nat.le_of_ble_eq_true rfl⟩)) (fun q1 H locs hP hD hS => ?_)
  rw [List.cons_append] at hP hD
  refine czP (t := 0) C hP hD hS (by decide) (by decide) (Nat.le_of_ble_eq_true rfl) zf_5_12 zd_5_0 rfl rfl dX5_init_12 (fun H locs hP hD hS => ?_)
  refine lv_aload_n hx hb dX5_init_15 rfl (lv_at hl 0 rfl) ?_
  refine lv_iconst (v := 2) hx hb dX5_init_16 (by decide) ?_
  refine czQ (t := 1) (N := 2) C hP hD hS (by decide) (by decide) (Nat.le_of_ble_eq_true rfl) zf_5_16 zd_5_1 zk_5_9 ⟨by decide, by decide, by decide⟩ ⟨Nat.le_of_ble_eq_true rfl, Nat.le_of_ble_eq_true rfl⟩ dX5_init_17 dX5_init_20 (fun q15 H locs hP hD hS => ?_)
  refine lv_aload_n hx hb dX5_init_23 rfl (lv_at hl 0 rfl) ?_
  refine lv_iconst (v := 3) hx hb dX5_init_24 (by decide) ?_
  refine czA (t := 2) (u := 0) (N := 3) (a0 := (3, .inl (fun _ => 0))) C hP hD hS (by decide) (by decide) (Nat.le_of_ble_eq_true rfl) zf_5_20 zd_5_2 za_int rfl rfl (by decide) (fun _ => rfl) ⟨by decide, by decide, by decide⟩ ⟨Nat.le_of_ble_eq_true rfl, Nat.le_of_ble_eq_true rfl⟩ dX5_init_25 dX5_init_27 (fun q16 H locs hP hD hS => ?_)
  refine lv_aload_n hx hb dX5_init_30 rfl (lv_at hl 0 rfl) ?_
  refine czC (k2 := 4) (rest := [.ref h0]) C hl.1 hP hD hS (by decide) zk_5_24 zi_4 zt_4 zfs_4 (ct_4 l) ⟨Nat.le_of_ble_eq_true rfl, Nat.le_of_ble_eq_true rfl⟩ dX5_init_31 dX5_init_34 dX5_init_35 (Nat.le_of_ble_eq_true rfl) (Or.inr ⟨_, va_cnB 0 hts (wsI_good zc_4) rfl rfl rfl hNW.2.1 (hts _ (lwg_of zt_4 rfl)) (by decide +kernel) ⟨Nat.le_of_ble_eq_true rfl, Nat.le_of_ble_eq_true rfl⟩, rfl, hts _ (lwg_of zm_4 rfl)⟩) (fun q17 H locs hP hD hS => ?_)
  rw [List.cons_append] at hP hD
  refine czP (t := 3) C hP hD hS (by decide) (by decide) (Nat.le_of_ble_eq_true rfl) zf_5_27 zd_5_3 rfl rfl dX5_init_38 (fun H locs hP hD hS => ?_)
  refine lv_aload_n hx hb dX5_init_41 rfl (lv_at hl 0 rfl) ?_
  refine czC (k2 := 2) (rest := [.ref h0]) C hl.1 hP hD hS (by decide) zk_5_31 zi_2 zt_2 zfs_2 (ct_2 l) ⟨Nat.le_of_ble_eq_true rfl, Nat.le_of_ble_eq_true rfl⟩ dX5_init_42 dX5_init_45 dX5_init_46 (Nat.le_of_ble_eq_true rfl) (Or.inr ⟨_, va_cnB 0 hts (wsI_good zc_2) rfl rfl rfl hNW.2.2.1 (hts _ (lwg_of zt_2 rfl)) (by decide +kernel) ⟨Nat.le_of_ble_eq_true rfl, Nat.le_of_ble_eq_true rfl⟩, rfl, hts _ (lwg_of zm_2 rfl)⟩) (fun q25 H locs hP hD hS => ?_)
  rw [List.cons_append] at hP hD
  refine czP (t := 4) C hP hD hS (by decide) (by decide) (Nat.le_of_ble_eq_true rfl) zf_5_34 zd_5_4 rfl rfl dX5_init_49 (fun H locs hP hD hS => ?_)
  refine lv_aload_n hx hb dX5_init_52 rfl (lv_at hl 0 rfl) ?_
  refine lv_bipush (v := 6) hx hb dX5_init_53 (by decide) ?_
  refine czA (t := 5) (u := 0) (N := 6) (a0 := (6, .inl (fun _ => 0))) C hP hD hS (by decide) (by decide) (Nat.le_of_ble_eq_true rfl) zf_5_38 zd_5_5 za_int rfl rfl (by decide) (fun _ => rfl) ⟨by decide, by decide, by decide⟩ ⟨Nat.le_of_ble_eq_true rfl, Nat.le_of_ble_eq_true rfl⟩ dX5_init_55 dX5_init_57 (fun q30 H locs hP hD hS => ?_)
  refine lv_aload_n hx hb dX5_init_60 rfl (lv_at hl 0 rfl) ?_
  refine lv_sipush (v := 892) hx hb dX5_init_61 (by decide) ?_
  refine czA (t := 6) (u := 2) (N := 892) (a0 := (892, .inl (fun _ => 0))) C hP hD hS (by decide) (by decide) (Nat.le_of_ble_eq_true rfl) zf_5_41 zd_5_6 za_boolean rfl rfl (by decide) (fun _ => rfl) ⟨by decide, by decide, by decide⟩ ⟨Nat.le_of_ble_eq_true rfl, Nat.le_of_ble_eq_true rfl⟩ dX5_init_64 dX5_init_66 (fun q31 H locs hP hD hS => ?_)
  refine lv_aload_n hx hb dX5_init_69 rfl (lv_at hl 0 rfl) ?_
  refine lv_iconst (v := 4) hx hb dX5_init_70 (by decide) ?_
  refine czA (t := 7) (u := 0) (N := 4) (a0 := (4, .inl (fun _ => 0))) C hP hD hS (by decide) (by decide) (Nat.le_of_ble_eq_true rfl) zf_5_45 zd_5_7 za_int rfl rfl (by decide) (fun _ => rfl) ⟨by decide, by decide, by decide⟩ ⟨Nat.le_of_ble_eq_true rfl, Nat.le_of_ble_eq_true rfl⟩ dX5_init_71 dX5_init_73 (fun q32 H locs hP hD hS => ?_)
  refine lv_aload_n hx hb dX5_init_76 rfl (lv_at hl 0 rfl) ?_
  refine lv_iconst (v := (-1)) hx hb dX5_init_77 (by decide) ?_
  refine czV (t := 8) C hP hD hS (by decide) (by decide) (Nat.le_of_ble_eq_true rfl) zf_5_48 zd_5_8 rfl rfl dX5_init_78 (fun H locs hP hD hS => ?_)
  refine lv_aload_n hx hb dX5_init_81 rfl (lv_at hl 0 rfl) ?_
  refine lv_sipush (v := 144) hx hb dX5_init_82 (by decide) ?_
  refine czA (t := 9) (u := 1) (N := 144) (a0 := (144, .inr (.inl (fun _ => 0)))) C hP hD hS (by decide) (by decide) (Nat.le_of_ble_eq_true rfl) zf_5_52 zd_5_9 za_long rfl rfl (by decide) (fun _ => rfl) ⟨by decide, by decide, by decide⟩ ⟨Nat.le_of_ble_eq_true rfl, Nat.le_of_ble_eq_true rfl⟩ dX5_init_85 dX5_init_87 (fun q33 H locs hP hD hS => ?_)
  refine lv_aload_n hx hb dX5_init_90 rfl (lv_at hl 0 rfl) ?_
  refine lv_sipush (v := 144) hx hb dX5_init_91 (by decide) ?_
  refine czA (t := 10) (u := 1) (N := 144) (a0 := (144, .inr (.inl (fun _ => 0)))) C hP hD hS (by decide) (by decide) (Nat.le_of_ble_eq_true rfl) zf_5_56 zd_5_10 za_long rfl rfl (by decide) (fun _ => rfl) ⟨by decide, by decide, by decide⟩ ⟨Nat.le_of_ble_eq_true rfl, Nat.le_of_ble_eq_true rfl⟩ dX5_init_94 dX5_init_96 (fun q34 H locs hP hD hS => ?_)
  refine lv_aload_n hx hb dX5_init_99 rfl (lv_at hl 0 rfl) ?_
  refine czC (k2 := 3) (rest := [.ref h0]) C hl.1 hP hD hS (by decide) zk_5_59 zi_3 zt_3 zfs_3 (ct_3 l) ⟨Nat.le_of_ble_eq_true rfl, Nat.le_of_ble_eq_true rfl⟩ dX5_init_100 dX5_init_103 dX5_init_104 (Nat.le_of_ble_eq_true rfl) (Or.inr ⟨_, va_cnB 0 hts (wsI_good zc_3) rfl rfl rfl hNW.2.2.2.1 (hts _ (lwg_of zt_3 rfl)) (by decide +kernel) ⟨Nat.le_of_ble_eq_true rfl, Nat.le_of_ble_eq_true rfl⟩, rfl, hts _ (lwg_of zm_3 rfl)⟩) (fun q35 H locs hP hD hS => ?_)
  rw [List.cons_append] at hP hD
  refine czP (t := 11) C hP hD hS (by decide) (by decide) (Nat.le_of_ble_eq_true rfl) zf_5_62 zd_5_11 rfl rfl dX5_init_107 (fun H locs hP hD hS => ?_)
  refine lv_aload_n hx hb dX5_init_110 rfl (lv_at hl 0 rfl) ?_
  refine czC (k2 := 1) (rest := [.ref h0]) C hl.1 hP hD hS (by decide) zk_5_66 zi_1 zt_1 zfs_1 (ct_1 l) ⟨Nat.le_of_ble_eq_true rfl, Nat.le_of_ble_eq_true rfl⟩ dX5_init_111 dX5_init_114 dX5_init_115 (Nat.le_of_ble_eq_true rfl) (Or.inr ⟨_, va_cnB 0 hts (wsI_good zc_1) rfl rfl rfl hNW.2.2.2.2.1 (hts _ (lwg_of zt_1 rfl)) (by decide +kernel) ⟨Nat.le_of_ble_eq_true rfl, Nat.le_of_ble_eq_true rfl⟩, rfl, hts _ (lwg_of zm_1 rfl)⟩) (fun q37 H locs hP hD hS => ?_)
  rw [List.cons_append] at hP hD
  refine czP (t := 12) C hP hD hS (by decide) (by decide) (Nat.le_of_ble_eq_true rfl) zf_5_69 zd_5_12 rfl rfl dX5_init_118 (fun H locs hP hD hS => ?_)
  refine lv_aload_n hx hb dX5_init_121 rfl (lv_at hl 0 rfl) ?_
  refine lv_lconst (v := 0) hx hb dX5_init_122 (by decide) ?_
  refine czV (t := 13) C hP hD hS (by decide) (by decide) (Nat.le_of_ble_eq_true rfl) zf_5_73 zd_5_13 rfl rfl dX5_init_123 (fun H locs hP hD hS => ?_)
  refine lv_aload_n hx hb dX5_init_126 rfl (lv_at hl 0 rfl) ?_
  refine lv_lconst (v := 1) hx hb dX5_init_127 (by decide) ?_
  refine czV (t := 14) C hP hD hS (by decide) (by decide) (Nat.le_of_ble_eq_true rfl) zf_5_77 zd_5_14 rfl rfl dX5_init_128 (fun H locs hP hD hS => ?_)
  refine W.widen (k := 46) (n := 4571) (Nat.le_of_ble_eq_true rfl) (Nat.le_of_ble_eq_true rfl) ?_
  exact W.vret hx hb hr (fun t ht hW => ⟨⟨fun i => ([h0, (q1 0), (q1 1), (q1 2), (q1 3), (q1 4), (q1 5), (q1 6), (q1 7), (q1 8), (q1 9), (q1 10), (q1 11), (q1 12), (q1 13), q15, q16, (q17 0), (q17 1), (q17 2), (q17 3), (q17 4), (q17 5), (q17 6), (q17 7), (q25 0), (q25 1), (q25 2), (q25 3), (q25 4), q30, q31, q32, q33, q34, (q35 0), (q35 1), (q37 0), (q37 1), (q37 2), (q37 3), (q37 4), (q37 5), (q37 6), (q37 7), (q37 8), (q37 9)] : List Nat).getD i 0, rfl, rfl, by rw [ht]; exact hP, hD⟩, hS.F ht⟩) hS.2.2 dX5_init_131 hlocks
