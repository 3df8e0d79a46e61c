/-! The reference's constructor. -/
set_option maxRecDepth 100000 in
set_option maxHeartbeats 4000000 in
theorem mdl_tail {p : Program} {l : Launch} {e : Env} {R : Room} {s : State} {m : MethodId} {args : Array Value} {below : List Frame} {meth : Method} {c : Code} {H : Heap} {locs : List Loc} {cells slots : Nat} {Q : State → Prop} {dC : Nat → ClassId} {dI : Nat → Nat → Nat} {cy : Nat → ClassId} {A : Nat → Prop} {ls : Array Slot} {h0 q1 : Nat} {FS : List Value} {REST : va_W} (C : Ci p s m args meth c dC dI cy A 6 cX6_init 2) (hP : va_P (dC, dI) vwCl ((h0, .inr (6, FS)) :: (q1, .inl (cy 0, 600, .inl (fun _ => 0))) :: REST) H) (hD : va_D A ((h0, .inr (6, FS)) :: (q1, .inl (cy 0, 600, .inl (fun _ => 0))) :: REST)) (hS : va_S A s.heap H locs) (hl : lv_has ls 2 [(0, .ref h0)]) (hFS : FS[0]? = some (.ref q1)) (kk : ∀ (H1 : Heap) (locs1 : List Loc) (ls1 : Array Slot), va_P (dC, dI) vwCl ((h0, .inr (6, FS)) :: (q1, .inl (cy 0, 600, .inl bookF)) :: REST) H1 → va_D A ((h0, .inr (6, FS)) :: (q1, .inl (cy 0, 600, .inl bookF)) :: REST) → va_S A s.heap H1 locs1 → W p l e R s m args below meth c H1 locs1 cells slots Q (F0 m 183 ls1 [.ref h0])) : W p l e R s m args below meth c H locs cells slots Q (F0 m 152 ls [.ref h0]) := by
  obtain ⟨hx, hb, hml, hown, hts, hK, hNW, hin, hA⟩ := id C
  refine va_get (D := (dC, dI)) (ci := 6) (v := .ref q1) (ref := (Tc 6 0).1) (C := cN 6) (T := Tc 6) (N := nS 6) hx hb hts (uws_in (by decide)) hown hK hP 0 rfl (vcl (by decide)) 0 (by decide) (hts _ (lwg_of zf_6_7 rfl)) (fun _ h9 => h9) hFS dX6_init_152 ?_
  refine lv_iconst (v := 2) hx hb dX6_init_155 (by decide) ?_
  refine lv_iconst (v := -1) hx hb dX6_init_156 (by decide) ?_
  refine va_iast hx hb hK hP hD hS 1 0 rfl ty_int (by unfold vp_in; decide) dX6_init_157 (fun H locs hP hD hS => ?_)
  refine lv_iconst (v := 0) hx hb dX6_init_158 (by decide) ?_
  refine lv_istore_n (lv' := [(1, .int 0), (0, .ref h0)]) hx hb dX6_init_159 rfl hl (by decide) rfl (fun ls hl => ?_)
  refine lv_iload_n hx hb dX6_init_160 rfl (lv_at hl 0 rfl) ?_
  refine lv_bipush (v := 6) hx hb dX6_init_161 (by decide) ?_
  refine lv_icmp_ge (tgt := 182) hx hb dX6_init_163 (by decide) (fun q => absurd q (by decide)) (fun _ => ?_)
  refine lv_aload_n hx hb dX6_init_166 rfl (lv_at hl 1 rfl) ?_
  refine va_get (D := (dC, dI)) (ci := 6) (v := .ref q1) (ref := (Tc 6 0).1) (C := cN 6) (T := Tc 6) (N := nS 6) hx hb hts (uws_in (by decide)) hown hK hP 0 rfl (vcl (by decide)) 0 (by decide) (hts _ (lwg_of zf_6_7 rfl)) (fun _ h9 => h9) hFS dX6_init_167 ?_
  refine lv_bipush (v := 24) hx hb dX6_init_170 (by decide) ?_
  refine lv_iload_n hx hb dX6_init_172 rfl (lv_at hl 0 rfl) ?_
  refine lv_iadd hx hb dX6_init_173 ?_
  refine lv_iconst (v := -1) hx hb dX6_init_174 (by decide) ?_
  refine va_iast hx hb hK hP hD hS 1 0 rfl ty_int (by unfold vp_in; decide) dX6_init_175 (fun H locs hP hD hS => ?_)
  refine lv_iinc (v := 1) (lv' := [(1, .int 1), (0, .ref h0)]) hx hb dX6_init_176 hl (k := 0) rfl (by decide) (by decide) rfl (fun ls hl => ?_)
  refine lv_goto (tgt := 160) hx hb dX6_init_179 (by decide) ?_
  refine lv_iload_n hx hb dX6_init_160 rfl (lv_at hl 0 rfl) ?_
  refine lv_bipush (v := 6) hx hb dX6_init_161 (by decide) ?_
  refine lv_icmp_ge (tgt := 182) hx hb dX6_init_163 (by decide) (fun q => absurd q (by decide)) (fun _ => ?_)
  refine lv_aload_n hx hb dX6_init_166 rfl (lv_at hl 1 rfl) ?_
  refine va_get (D := (dC, dI)) (ci := 6) (v := .ref q1) (ref := (Tc 6 0).1) (C := cN 6) (T := Tc 6) (N := nS 6) hx hb hts (uws_in (by decide)) hown hK hP 0 rfl (vcl (by decide)) 0 (by decide) (hts _ (lwg_of zf_6_7 rfl)) (fun _ h9 => h9) hFS dX6_init_167 ?_
  refine lv_bipush (v := 24) hx hb dX6_init_170 (by decide) ?_
  refine lv_iload_n hx hb dX6_init_172 rfl (lv_at hl 0 rfl) ?_
  refine lv_iadd hx hb dX6_init_173 ?_
  refine lv_iconst (v := -1) hx hb dX6_init_174 (by decide) ?_
  refine va_iast hx hb hK hP hD hS 1 0 rfl ty_int (by unfold vp_in; decide) dX6_init_175 (fun H locs hP hD hS => ?_)
  refine lv_iinc (v := 2) (lv' := [(1, .int 2), (0, .ref h0)]) hx hb dX6_init_176 hl (k := 0) rfl (by decide) (by decide) rfl (fun ls hl => ?_)
  refine lv_goto (tgt := 160) hx hb dX6_init_179 (by decide) ?_
  refine lv_iload_n hx hb dX6_init_160 rfl (lv_at hl 0 rfl) ?_
  refine lv_bipush (v := 6) hx hb dX6_init_161 (by decide) ?_
  refine lv_icmp_ge (tgt := 182) hx hb dX6_init_163 (by decide) (fun q => absurd q (by decide)) (fun _ => ?_)
  refine lv_aload_n hx hb dX6_init_166 rfl (lv_at hl 1 rfl) ?_
  refine va_get (D := (dC, dI)) (ci := 6) (v := .ref q1) (ref := (Tc 6 0).1) (C := cN 6) (T := Tc 6) (N := nS 6) hx hb hts (uws_in (by decide)) hown hK hP 0 rfl (vcl (by decide)) 0 (by decide) (hts _ (lwg_of zf_6_7 rfl)) (fun _ h9 => h9) hFS dX6_init_167 ?_
  refine lv_bipush (v := 24) hx hb dX6_init_170 (by decide) ?_
  refine lv_iload_n hx hb dX6_init_172 rfl (lv_at hl 0 rfl) ?_
  refine lv_iadd hx hb dX6_init_173 ?_
  refine lv_iconst (v := -1) hx hb dX6_init_174 (by decide) ?_
  refine va_iast hx hb hK hP hD hS 1 0 rfl ty_int (by unfold vp_in; decide) dX6_init_175 (fun H locs hP hD hS => ?_)
  refine lv_iinc (v := 3) (lv' := [(1, .int 3), (0, .ref h0)]) hx hb dX6_init_176 hl (k := 0) rfl (by decide) (by decide) rfl (fun ls hl => ?_)
  refine lv_goto (tgt := 160) hx hb dX6_init_179 (by decide) ?_
  refine lv_iload_n hx hb dX6_init_160 rfl (lv_at hl 0 rfl) ?_
  refine lv_bipush (v := 6) hx hb dX6_init_161 (by decide) ?_
  refine lv_icmp_ge (tgt := 182) hx hb dX6_init_163 (by decide) (fun q => absurd q (by decide)) (fun _ => ?_)
  refine lv_aload_n hx hb dX6_init_166 rfl (lv_at hl 1 rfl) ?_
  refine va_get (D := (dC, dI)) (ci := 6) (v := .ref q1) (ref := (Tc 6 0).1) (C := cN 6) (T := Tc 6) (N := nS 6) hx hb hts (uws_in (by decide)) hown hK hP 0 rfl (vcl (by decide)) 0 (by decide) (hts _ (lwg_of zf_6_7 rfl)) (fun _ h9 => h9) hFS dX6_init_167 ?_
  refine lv_bipush (v := 24) hx hb dX6_init_170 (by decide) ?_
  refine lv_iload_n hx hb dX6_init_172 rfl (lv_at hl 0 rfl) ?_
  refine lv_iadd hx hb dX6_init_173 ?_
  refine lv_iconst (v := -1) hx hb dX6_init_174 (by decide) ?_
  refine va_iast hx hb hK hP hD hS 1 0 rfl ty_int (by unfold vp_in; decide) dX6_init_175 (fun H locs hP hD hS => ?_)
  refine lv_iinc (v := 4) (lv' := [(1, .int 4), (0, .ref h0)]) hx hb dX6_init_176 hl (k := 0) rfl (by decide) (by decide) rfl (fun ls hl => ?_)
  refine lv_goto (tgt := 160) hx hb dX6_init_179 (by decide) ?_
  refine lv_iload_n hx hb dX6_init_160 rfl (lv_at hl 0 rfl) ?_
  refine lv_bipush (v := 6) hx hb dX6_init_161 (by decide) ?_
  refine lv_icmp_ge (tgt := 182) hx hb dX6_init_163 (by decide) (fun q => absurd q (by decide)) (fun _ => ?_)
  refine lv_aload_n hx hb dX6_init_166 rfl (lv_at hl 1 rfl) ?_
  refine va_get (D := (dC, dI)) (ci := 6) (v := .ref q1) (ref := (Tc 6 0).1) (C := cN 6) (T := Tc 6) (N := nS 6) hx hb hts (uws_in (by decide)) hown hK hP 0 rfl (vcl (by decide)) 0 (by decide) (hts _ (lwg_of zf_6_7 rfl)) (fun _ h9 => h9) hFS dX6_init_167 ?_
  refine lv_bipush (v := 24) hx hb dX6_init_170 (by decide) ?_
  refine lv_iload_n hx hb dX6_init_172 rfl (lv_at hl 0 rfl) ?_
  refine lv_iadd hx hb dX6_init_173 ?_
  refine lv_iconst (v := -1) hx hb dX6_init_174 (by decide) ?_
  refine va_iast hx hb hK hP hD hS 1 0 rfl ty_int (by unfold vp_in; decide) dX6_init_175 (fun H locs hP hD hS => ?_)
  refine lv_iinc (v := 5) (lv' := [(1, .int 5), (0, .ref h0)]) hx hb dX6_init_176 hl (k := 0) rfl (by decide) (by decide) rfl (fun ls hl => ?_)
  refine lv_goto (tgt := 160) hx hb dX6_init_179 (by decide) ?_
  refine lv_iload_n hx hb dX6_init_160 rfl (lv_at hl 0 rfl) ?_
  refine lv_bipush (v := 6) hx hb dX6_init_161 (by decide) ?_
  refine lv_icmp_ge (tgt := 182) hx hb dX6_init_163 (by decide) (fun q => absurd q (by decide)) (fun _ => ?_)
  refine lv_aload_n hx hb dX6_init_166 rfl (lv_at hl 1 rfl) ?_
  refine va_get (D := (dC, dI)) (ci := 6) (v := .ref q1) (ref := (Tc 6 0).1) (C := cN 6) (T := Tc 6) (N := nS 6) hx hb hts (uws_in (by decide)) hown hK hP 0 rfl (vcl (by decide)) 0 (by decide) (hts _ (lwg_of zf_6_7 rfl)) (fun _ h9 => h9) hFS dX6_init_167 ?_
  refine lv_bipush (v := 24) hx hb dX6_init_170 (by decide) ?_
  refine lv_iload_n hx hb dX6_init_172 rfl (lv_at hl 0 rfl) ?_
  refine lv_iadd hx hb dX6_init_173 ?_
  refine lv_iconst (v := -1) hx hb dX6_init_174 (by decide) ?_
  refine va_iast hx hb hK hP hD hS 1 0 rfl ty_int (by unfold vp_in; decide) dX6_init_175 (fun H locs hP hD hS => ?_)
  refine lv_iinc (v := 6) (lv' := [(1, .int 6), (0, .ref h0)]) hx hb dX6_init_176 hl (k := 0) rfl (by decide) (by decide) rfl (fun ls hl => ?_)
  refine lv_goto (tgt := 160) hx hb dX6_init_179 (by decide) ?_
  refine lv_iload_n hx hb dX6_init_160 rfl (lv_at hl 0 rfl) ?_
  refine lv_bipush (v := 6) hx hb dX6_init_161 (by decide) ?_
  refine lv_icmp_ge (tgt := 182) hx hb dX6_init_163 (by decide) (fun _ => ?_) (fun q => absurd (by decide) q)
  refine lv_aload_n hx hb dX6_init_182 rfl (lv_at hl 1 rfl) ?_
  exact kk H locs ls hP hD hS
def wB_6 (cy : Nat → ClassId) (q : Nat → Nat) : va_W := [(q 0, .inr (6, [.ref (q 1), .ref (q 2), .ref (q 3), .ref (q 4), .long 0, .long 1, .ref (q 5), .ref (q 6), .ref (q 7), .ref (q 8), .int 0, .ref (q 9), .int 0, .ref (q 10), .ref (q 11), .int 0, .int 0, .ref (q 12), .ref (q 13), .int 0, .int 0, .int 0, .int 0, .ref (q 14), .int 0, .ref (q 15), .ref (q 16), .ref (q 17), .ref (q 18)])), (q 1, .inl (cy 0, 600, .inl bookF)), (q 2, .inl (cy 0, 1200, .inl (fun _ => 0))), (q 3, .inl (cy 2, 2, .inl (fun _ => 0))), (q 4, .inl (cy 0, 3, .inl (fun _ => 0))), (q 5, .inl (cy 0, 6, .inl (fun _ => 0))), (q 6, .inl (cy 0, 6, .inl (fun _ => 0))), (q 7, .inl (cy 0, 126, .inl (fun _ => 0))), (q 8, .inl (cy 0, 4320, .inl (fun _ => 0))), (q 9, .inl (cy 0, 20, .inl (fun _ => 0))), (q 10, .inl (cy 1, 144, .inr (.inl (fun _ => 0)))), (q 11, .inl (cy 1, 144, .inr (.inl (fun _ => 0)))), (q 12, .inl (cy 0, 4, .inl (fun _ => 0))), (q 13, .inl (cy 0, 60, .inl (fun _ => 0))), (q 14, .inl (cy 0, 200, .inl (fun _ => 0))), (q 15, .inl (cy 0, 36, .inl (fun _ => 0))), (q 16, .inl (cy 2, 40, .inl (fun _ => 0))), (q 17, .inl (cy 0, 64, .inl (fun _ => 0))), (q 18, .inl (cy 0, 6, .inl (fun _ => 0)))]
theorem zfs_6 : ∀ j, j < nS 6 → defaultValue (tyc 6 j) = vp_V [.null, .null, .null, .null, .long 0, .long 0, .null, .null, .null, .null, .int 0, .null, .int 0, .null, .null, .int 0, .int 0, .null, .null, .int 0, .int 0, .int 0, .int 0, .null, .int 0, .null, .null, .null, .null] j := by decide +kernel
set_option maxRecDepth 100000 in
set_option maxHeartbeats 4000000 in
theorem ct_6 (l : Launch) : CtOK l 6 yX6_init cX6_init 2 [.null, .null, .null, .null, .long 0, .long 0, .null, .null, .null, .null, .int 0, .null, .int 0, .null, .null, .int 0, .int 0, .null, .null, .int 0, .int 0, .int 0, .int 0, .null, .int 0, .null, .null, .null, .null] wB_6 { frames := 1, cells := 18, slots := 6981, locals := 12 } 18 6981 := by
  refine ct_of (by decide) ⟨rfl, rfl⟩ (by decide) (fun p e s m below meth c dC dI cy h0 A ls C hr hlocks hP hD hS hl => ?_)
  obtain ⟨hx, hb, hml, hown, hts, hK, hNW, hin, hA⟩ := id C
  refine lv_aload_n hx hb dX6_init_0 rfl (lv_at hl 0 rfl) ?_
  refine W.objInit hx hb hown (hts _ (lwg_of zl_6 rfl)) (hts _ (lwg_of zo_i rfl)) (hts _ (lwg_of zo_c rfl)) rfl (by rw [hml]; exact hl.1) rfl dX6_init_1 (Nat.le_of_ble_eq_true rfl) (Nat.le_of_ble_eq_true rfl) ?_
  refine W.eq (g2 := F0 m 4 ls []) rfl ?_
  refine lv_aload_n hx hb dX6_init_4 rfl (lv_at hl 0 rfl) ?_
  refine lv_sipush (v := 600) hx hb dX6_init_5 (by decide) ?_
  refine czA (t := 0) (u := 0) (N := 600) (a0 := (600, .inl (fun _ => 0))) C hP hD hS (by decide) (by decide) (Nat.le_of_ble_eq_true rfl) zf_6_7 zd_6_0 za_int rfl rfl (by decide) (fun _ => rfl) ⟨by decide, by decide, by decide⟩ ⟨Nat.le_of_ble_eq_true rfl, Nat.le_of_ble_eq_true rfl⟩ dX6_init_8 dX6_init_10 (fun q1 H locs hP hD hS => ?_)
  refine lv_aload_n hx hb dX6_init_13 rfl (lv_at hl 0 rfl) ?_
  refine lv_sipush (v := 1200) hx hb dX6_init_14 (by decide) ?_
  refine czA (t := 1) (u := 0) (N := 1200) (a0 := (1200, .inl (fun _ => 0))) C hP hD hS (by decide) (by decide) (Nat.le_of_ble_eq_true rfl) zf_6_13 zd_6_1 za_int rfl rfl (by decide) (fun _ => rfl) ⟨by decide, by decide, by decide⟩ ⟨Nat.le_of_ble_eq_true rfl, Nat.le_of_ble_eq_true rfl⟩ dX6_init_17 dX6_init_19 (fun q2 H locs hP hD hS => ?_)
  refine lv_aload_n hx hb dX6_init_22 rfl (lv_at hl 0 rfl) ?_
  refine lv_iconst (v := 2) hx hb dX6_init_23 (by decide) ?_
  refine czA (t := 2) (u := 2) (N := 2) (a0 := (2, .inl (fun _ => 0))) C hP hD hS (by decide) (by decide) (Nat.le_of_ble_eq_true rfl) zf_6_16 zd_6_2 za_boolean rfl rfl (by decide) (fun _ => rfl) ⟨by decide, by decide, by decide⟩ ⟨Nat.le_of_ble_eq_true rfl, Nat.le_of_ble_eq_true rfl⟩ dX6_init_24 dX6_init_26 (fun q3 H locs hP hD hS => ?_)
  refine lv_aload_n hx hb dX6_init_29 rfl (lv_at hl 0 rfl) ?_
  refine lv_iconst (v := 3) hx hb dX6_init_30 (by decide) ?_
  refine czA (t := 3) (u := 0) (N := 3) (a0 := (3, .inl (fun _ => 0))) C hP hD hS (by decide) (by decide) (Nat.le_of_ble_eq_true rfl) zf_6_20 zd_6_3 za_int rfl rfl (by decide) (fun _ => rfl) ⟨by decide, by decide, by decide⟩ ⟨Nat.le_of_ble_eq_true rfl, Nat.le_of_ble_eq_true rfl⟩ dX6_init_31 dX6_init_33 (fun q4 H locs hP hD hS => ?_)
  refine lv_aload_n hx hb dX6_init_36 rfl (lv_at hl 0 rfl) ?_
  refine lv_bipush (v := 6) hx hb dX6_init_37 (by decide) ?_
  refine czA (t := 6) (u := 0) (N := 6) (a0 := (6, .inl (fun _ => 0))) C hP hD hS (by decide) (by decide) (Nat.le_of_ble_eq_true rfl) zf_6_23 zd_6_6 za_int rfl rfl (by decide) (fun _ => rfl) ⟨by decide, by decide, by decide⟩ ⟨Nat.le_of_ble_eq_true rfl, Nat.le_of_ble_eq_true rfl⟩ dX6_init_39 dX6_init_41 (fun q5 H locs hP hD hS => ?_)
  refine lv_aload_n hx hb dX6_init_44 rfl (lv_at hl 0 rfl) ?_
  refine lv_bipush (v := 6) hx hb dX6_init_45 (by decide) ?_
  refine czA (t := 7) (u := 0) (N := 6) (a0 := (6, .inl (fun _ => 0))) C hP hD hS (by decide) (by decide) (Nat.le_of_ble_eq_true rfl) zf_6_26 zd_6_7 za_int rfl rfl (by decide) (fun _ => rfl) ⟨by decide, by decide, by decide⟩ ⟨Nat.le_of_ble_eq_true rfl, Nat.le_of_ble_eq_true rfl⟩ dX6_init_47 dX6_init_49 (fun q6 H locs hP hD hS => ?_)
  refine lv_aload_n hx hb dX6_init_52 rfl (lv_at hl 0 rfl) ?_
  refine lv_bipush (v := 126) hx hb dX6_init_53 (by decide) ?_
  refine czA (t := 8) (u := 0) (N := 126) (a0 := (126, .inl (fun _ => 0))) C hP hD hS (by decide) (by decide) (Nat.le_of_ble_eq_true rfl) zf_6_29 zd_6_8 za_int rfl rfl (by decide) (fun _ => rfl) ⟨by decide, by decide, by decide⟩ ⟨Nat.le_of_ble_eq_true rfl, Nat.le_of_ble_eq_true rfl⟩ dX6_init_55 dX6_init_57 (fun q7 H locs hP hD hS => ?_)
  refine lv_aload_n hx hb dX6_init_60 rfl (lv_at hl 0 rfl) ?_
  refine lv_sipush (v := 4320) hx hb dX6_init_61 (by decide) ?_
  refine czA (t := 9) (u := 0) (N := 4320) (a0 := (4320, .inl (fun _ => 0))) C hP hD hS (by decide) (by decide) (Nat.le_of_ble_eq_true rfl) zf_6_32 zd_6_9 za_int rfl rfl (by decide) (fun _ => rfl) ⟨by decide, by decide, by decide⟩ ⟨Nat.le_of_ble_eq_true rfl, Nat.le_of_ble_eq_true rfl⟩ dX6_init_64 dX6_init_66 (fun q8 H locs hP hD hS => ?_)
  refine lv_aload_n hx hb dX6_init_69 rfl (lv_at hl 0 rfl) ?_
  refine lv_bipush (v := 20) hx hb dX6_init_70 (by decide) ?_
  refine czA (t := 11) (u := 0) (N := 20) (a0 := (20, .inl (fun _ => 0))) C hP hD hS (by decide) (by decide) (Nat.le_of_ble_eq_true rfl) zf_6_35 zd_6_11 za_int rfl rfl (by decide) (fun _ => rfl) ⟨by decide, by decide, by decide⟩ ⟨Nat.le_of_ble_eq_true rfl, Nat.le_of_ble_eq_true rfl⟩ dX6_init_72 dX6_init_74 (fun q9 H locs hP hD hS => ?_)
  refine lv_aload_n hx hb dX6_init_77 rfl (lv_at hl 0 rfl) ?_
  refine lv_sipush (v := 144) hx hb dX6_init_78 (by decide) ?_
  refine czA (t := 13) (u := 1) (N := 144) (a0 := (144, .inr (.inl (fun _ => 0)))) C hP hD hS (by decide) (by decide) (Nat.le_of_ble_eq_true rfl) zf_6_38 zd_6_13 za_long rfl rfl (by decide) (fun _ => rfl) ⟨by decide, by decide, by decide⟩ ⟨Nat.le_of_ble_eq_true rfl, Nat.le_of_ble_eq_true rfl⟩ dX6_init_81 dX6_init_83 (fun q10 H locs hP hD hS => ?_)
  refine lv_aload_n hx hb dX6_init_86 rfl (lv_at hl 0 rfl) ?_
  refine lv_sipush (v := 144) hx hb dX6_init_87 (by decide) ?_
  refine czA (t := 14) (u := 1) (N := 144) (a0 := (144, .inr (.inl (fun _ => 0)))) C hP hD hS (by decide) (by decide) (Nat.le_of_ble_eq_true rfl) zf_6_42 zd_6_14 za_long rfl rfl (by decide) (fun _ => rfl) ⟨by decide, by decide, by decide⟩ ⟨Nat.le_of_ble_eq_true rfl, Nat.le_of_ble_eq_true rfl⟩ dX6_init_90 dX6_init_92 (fun q11 H locs hP hD hS => ?_)
  refine lv_aload_n hx hb dX6_init_95 rfl (lv_at hl 0 rfl) ?_
  refine lv_iconst (v := 4) hx hb dX6_init_96 (by decide) ?_
  refine czA (t := 17) (u := 0) (N := 4) (a0 := (4, .inl (fun _ => 0))) C hP hD hS (by decide) (by decide) (Nat.le_of_ble_eq_true rfl) zf_6_45 zd_6_17 za_int rfl rfl (by decide) (fun _ => rfl) ⟨by decide, by decide, by decide⟩ ⟨Nat.le_of_ble_eq_true rfl, Nat.le_of_ble_eq_true rfl⟩ dX6_init_97 dX6_init_99 (fun q12 H locs hP hD hS => ?_)
  refine lv_aload_n hx hb dX6_init_102 rfl (lv_at hl 0 rfl) ?_
  refine lv_bipush (v := 60) hx hb dX6_init_103 (by decide) ?_
  refine czA (t := 18) (u := 0) (N := 60) (a0 := (60, .inl (fun _ => 0))) C hP hD hS (by decide) (by decide) (Nat.le_of_ble_eq_true rfl) zf_6_48 zd_6_18 za_int rfl rfl (by decide) (fun _ => rfl) ⟨by decide, by decide, by decide⟩ ⟨Nat.le_of_ble_eq_true rfl, Nat.le_of_ble_eq_true rfl⟩ dX6_init_105 dX6_init_107 (fun q13 H locs hP hD hS => ?_)
  refine lv_aload_n hx hb dX6_init_110 rfl (lv_at hl 0 rfl) ?_
  refine lv_sipush (v := 200) hx hb dX6_init_111 (by decide) ?_
  refine czA (t := 23) (u := 0) (N := 200) (a0 := (200, .inl (fun _ => 0))) C hP hD hS (by decide) (by decide) (Nat.le_of_ble_eq_true rfl) zf_6_51 zd_6_23 za_int rfl rfl (by decide) (fun _ => rfl) ⟨by decide, by decide, by decide⟩ ⟨Nat.le_of_ble_eq_true rfl, Nat.le_of_ble_eq_true rfl⟩ dX6_init_114 dX6_init_116 (fun q14 H locs hP hD hS => ?_)
  refine lv_aload_n hx hb dX6_init_119 rfl (lv_at hl 0 rfl) ?_
  refine lv_bipush (v := 36) hx hb dX6_init_120 (by decide) ?_
  refine czA (t := 25) (u := 0) (N := 36) (a0 := (36, .inl (fun _ => 0))) C hP hD hS (by decide) (by decide) (Nat.le_of_ble_eq_true rfl) zf_6_54 zd_6_25 za_int rfl rfl (by decide) (fun _ => rfl) ⟨by decide, by decide, by decide⟩ ⟨Nat.le_of_ble_eq_true rfl, Nat.le_of_ble_eq_true rfl⟩ dX6_init_122 dX6_init_124 (fun q15 H locs hP hD hS => ?_)
  refine lv_aload_n hx hb dX6_init_127 rfl (lv_at hl 0 rfl) ?_
  refine lv_bipush (v := 40) hx hb dX6_init_128 (by decide) ?_
  refine czA (t := 26) (u := 2) (N := 40) (a0 := (40, .inl (fun _ => 0))) C hP hD hS (by decide) (by decide) (Nat.le_of_ble_eq_true rfl) zf_6_57 zd_6_26 za_boolean rfl rfl (by decide) (fun _ => rfl) ⟨by decide, by decide, by decide⟩ ⟨Nat.le_of_ble_eq_true rfl, Nat.le_of_ble_eq_true rfl⟩ dX6_init_130 dX6_init_132 (fun q16 H locs hP hD hS => ?_)
  refine lv_aload_n hx hb dX6_init_135 rfl (lv_at hl 0 rfl) ?_
  refine lv_bipush (v := 64) hx hb dX6_init_136 (by decide) ?_
  refine czA (t := 27) (u := 0) (N := 64) (a0 := (64, .inl (fun _ => 0))) C hP hD hS (by decide) (by decide) (Nat.le_of_ble_eq_true rfl) zf_6_60 zd_6_27 za_int rfl rfl (by decide) (fun _ => rfl) ⟨by decide, by decide, by decide⟩ ⟨Nat.le_of_ble_eq_true rfl, Nat.le_of_ble_eq_true rfl⟩ dX6_init_138 dX6_init_140 (fun q17 H locs hP hD hS => ?_)
  refine lv_aload_n hx hb dX6_init_143 rfl (lv_at hl 0 rfl) ?_
  refine lv_bipush (v := 6) hx hb dX6_init_144 (by decide) ?_
  refine czA (t := 28) (u := 0) (N := 6) (a0 := (6, .inl (fun _ => 0))) C hP hD hS (by decide) (by decide) (Nat.le_of_ble_eq_true rfl) zf_6_63 zd_6_28 za_int rfl rfl (by decide) (fun _ => rfl) ⟨by decide, by decide, by decide⟩ ⟨Nat.le_of_ble_eq_true rfl, Nat.le_of_ble_eq_true rfl⟩ dX6_init_146 dX6_init_148 (fun q18 H locs hP hD hS => ?_)
  refine lv_aload_n hx hb dX6_init_151 rfl (lv_at hl 0 rfl) ?_
  have hP : va_P (dC, dI) vwCl [(h0, .inr (6, [.ref q1, .ref q2, .ref q3, .ref q4, .long 0, .long 0, .ref q5, .ref q6, .ref q7, .ref q8, .int 0, .ref q9, .int 0, .ref q10, .ref q11, .int 0, .int 0, .ref q12, .ref q13, .int 0, .int 0, .int 0, .int 0, .ref q14, .int 0, .ref q15, .ref q16, .ref q17, .ref q18])), (q1, .inl (cy 0, 600, .inl (fun _ => 0))), (q2, .inl (cy 0, 1200, .inl (fun _ => 0))), (q3, .inl (cy 2, 2, .inl (fun _ => 0))), (q4, .inl (cy 0, 3, .inl (fun _ => 0))), (q5, .inl (cy 0, 6, .inl (fun _ => 0))), (q6, .inl (cy 0, 6, .inl (fun _ => 0))), (q7, .inl (cy 0, 126, .inl (fun _ => 0))), (q8, .inl (cy 0, 4320, .inl (fun _ => 0))), (q9, .inl (cy 0, 20, .inl (fun _ => 0))), (q10, .inl (cy 1, 144, .inr (.inl (fun _ => 0)))), (q11, .inl (cy 1, 144, .inr (.inl (fun _ => 0)))), (q12, .inl (cy 0, 4, .inl (fun _ => 0))), (q13, .inl (cy 0, 60, .inl (fun _ => 0))), (q14, .inl (cy 0, 200, .inl (fun _ => 0))), (q15, .inl (cy 0, 36, .inl (fun _ => 0))), (q16, .inl (cy 2, 40, .inl (fun _ => 0))), (q17, .inl (cy 0, 64, .inl (fun _ => 0))), (q18, .inl (cy 0, 6, .inl (fun _ => 0)))] H := hP
  have hD : va_D A [(h0, .inr (6, [.ref q1, .ref q2, .ref q3, .ref q4, .long 0, .long 0, .ref q5, .ref q6, .ref q7, .ref q8, .int 0, .ref q9, .int 0, .ref q10, .ref q11, .int 0, .int 0, .ref q12, .ref q13, .int 0, .int 0, .int 0, .int 0, .ref q14, .int 0, .ref q15, .ref q16, .ref q17, .ref q18])), (q1, .inl (cy 0, 600, .inl (fun _ => 0))), (q2, .inl (cy 0, 1200, .inl (fun _ => 0))), (q3, .inl (cy 2, 2, .inl (fun _ => 0))), (q4, .inl (cy 0, 3, .inl (fun _ => 0))), (q5, .inl (cy 0, 6, .inl (fun _ => 0))), (q6, .inl (cy 0, 6, .inl (fun _ => 0))), (q7, .inl (cy 0, 126, .inl (fun _ => 0))), (q8, .inl (cy 0, 4320, .inl (fun _ => 0))), (q9, .inl (cy 0, 20, .inl (fun _ => 0))), (q10, .inl (cy 1, 144, .inr (.inl (fun _ => 0)))), (q11, .inl (cy 1, 144, .inr (.inl (fun _ => 0)))), (q12, .inl (cy 0, 4, .inl (fun _ => 0))), (q13, .inl (cy 0, 60, .inl (fun _ => 0))), (q14, .inl (cy 0, 200, .inl (fun _ => 0))), (q15, .inl (cy 0, 36, .inl (fun _ => 0))), (q16, .inl (cy 2, 40, .inl (fun _ => 0))), (q17, .inl (cy 0, 64, .inl (fun _ => 0))), (q18, .inl (cy 0, 6, .inl (fun _ => 0)))] := hD
  refine mdl_tail C hP hD hS hl rfl (fun H locs ls hP hD hS => ?_)
  refine lv_lconst (v := 1) hx hb dX6_init_183 (by decide) ?_
  refine czV (t := 5) C hP hD hS (by decide) (by decide) (Nat.le_of_ble_eq_true rfl) zf_6_66 zd_6_5 rfl rfl dX6_init_184 (fun H locs hP hD hS => ?_)
  refine W.widen (k := 18) (n := 6981) (Nat.le_of_ble_eq_true rfl) (Nat.le_of_ble_eq_true rfl) ?_
  exact W.vret hx hb hr (fun t ht hW => ⟨⟨fun i => ([h0, q1, q2, q3, q4, q5, q6, q7, q8, q9, q10, q11, q12, q13, q14, q15, q16, q17, q18] : List Nat).getD i 0, rfl, rfl, by rw [ht]; exact hP, hD⟩, hS.F ht⟩) hS.2.2 dX6_init_187 hlocks
