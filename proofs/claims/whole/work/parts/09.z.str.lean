/-! Strings: length and charAt of a string constant. -/
theorem dJ0_length_8abf5_0 : decode cJ0_length_8abf5 0 = .ok (.aload_n 0, 1) := by decide +kernel
theorem dJ0_length_8abf5_1 : decode cJ0_length_8abf5 1 = .ok (.getfield 9, 3) := by decide +kernel
theorem dJ0_length_8abf5_4 : decode cJ0_length_8abf5 4 = .ok (.arraylength, 1) := by decide +kernel
theorem dJ0_length_8abf5_5 : decode cJ0_length_8abf5 5 = .ok (.aload_n 0, 1) := by decide +kernel
theorem dJ0_length_8abf5_6 : decode cJ0_length_8abf5 6 = .ok (.invokevirtual 335, 3) := by decide +kernel
theorem dJ0_length_8abf5_9 : decode cJ0_length_8abf5 9 = .ok (.ishr, 1) := by decide +kernel
theorem dJ0_length_8abf5_10 : decode cJ0_length_8abf5 10 = .ok (.ireturn, 1) := by decide +kernel
theorem dJ0_charAt_5068e_0 : decode cJ0_charAt_5068e 0 = .ok (.aload_n 0, 1) := by decide +kernel
theorem dJ0_charAt_5068e_1 : decode cJ0_charAt_5068e 1 = .ok (.invokevirtual 492, 3) := by decide +kernel
theorem dJ0_charAt_5068e_4 : decode cJ0_charAt_5068e 4 = .ok (.ifCond .eq 12, 3) := by decide +kernel
theorem dJ0_charAt_5068e_7 : decode cJ0_charAt_5068e 7 = .ok (.aload_n 0, 1) := by decide +kernel
theorem dJ0_charAt_5068e_8 : decode cJ0_charAt_5068e 8 = .ok (.getfield 9, 3) := by decide +kernel
theorem dJ0_charAt_5068e_11 : decode cJ0_charAt_5068e 11 = .ok (.iload_n 1, 1) := by decide +kernel
theorem dJ0_charAt_5068e_12 : decode cJ0_charAt_5068e 12 = .ok (.invokestatic 495, 3) := by decide +kernel
theorem dJ0_charAt_5068e_15 : decode cJ0_charAt_5068e 15 = .ok (.ireturn, 1) := by decide +kernel
theorem dJ0_charAt_5068e_16 : decode cJ0_charAt_5068e 16 = .ok (.aload_n 0, 1) := by decide +kernel
theorem dJ0_charAt_5068e_17 : decode cJ0_charAt_5068e 17 = .ok (.getfield 9, 3) := by decide +kernel
theorem dJ0_charAt_5068e_20 : decode cJ0_charAt_5068e 20 = .ok (.iload_n 1, 1) := by decide +kernel
theorem dJ0_charAt_5068e_21 : decode cJ0_charAt_5068e 21 = .ok (.invokestatic 498, 3) := by decide +kernel
theorem dJ0_charAt_5068e_24 : decode cJ0_charAt_5068e 24 = .ok (.ireturn, 1) := by decide +kernel
theorem dJ0_coder_7d493_0 : decode cJ0_coder_7d493 0 = .ok (.getstatic 38, 3) := by decide +kernel
theorem dJ0_coder_7d493_3 : decode cJ0_coder_7d493 3 = .ok (.ifCond .eq 10, 3) := by decide +kernel
theorem dJ0_coder_7d493_6 : decode cJ0_coder_7d493 6 = .ok (.aload_n 0, 1) := by decide +kernel
theorem dJ0_coder_7d493_7 : decode cJ0_coder_7d493 7 = .ok (.getfield 15, 3) := by decide +kernel
theorem dJ0_coder_7d493_10 : decode cJ0_coder_7d493 10 = .ok (.goto 4, 3) := by decide +kernel
theorem dJ0_coder_7d493_13 : decode cJ0_coder_7d493 13 = .ok (.iconst 1, 1) := by decide +kernel
theorem dJ0_coder_7d493_14 : decode cJ0_coder_7d493 14 = .ok (.ireturn, 1) := by decide +kernel
theorem dJ0_isLatin1_aae02_0 : decode cJ0_isLatin1_aae02 0 = .ok (.getstatic 38, 3) := by decide +kernel
theorem dJ0_isLatin1_aae02_3 : decode cJ0_isLatin1_aae02 3 = .ok (.ifCond .eq 14, 3) := by decide +kernel
theorem dJ0_isLatin1_aae02_6 : decode cJ0_isLatin1_aae02 6 = .ok (.aload_n 0, 1) := by decide +kernel
theorem dJ0_isLatin1_aae02_7 : decode cJ0_isLatin1_aae02 7 = .ok (.getfield 15, 3) := by decide +kernel
theorem dJ0_isLatin1_aae02_10 : decode cJ0_isLatin1_aae02 10 = .ok (.ifCond .ne 7, 3) := by decide +kernel
theorem dJ0_isLatin1_aae02_13 : decode cJ0_isLatin1_aae02 13 = .ok (.iconst 1, 1) := by decide +kernel
theorem dJ0_isLatin1_aae02_14 : decode cJ0_isLatin1_aae02 14 = .ok (.goto 4, 3) := by decide +kernel
theorem dJ0_isLatin1_aae02_17 : decode cJ0_isLatin1_aae02 17 = .ok (.iconst 0, 1) := by decide +kernel
theorem dJ0_isLatin1_aae02_18 : decode cJ0_isLatin1_aae02 18 = .ok (.ireturn, 1) := by decide +kernel
theorem dJ0_checkIndex_df160_0 : decode cJ0_checkIndex_df160 0 = .ok (.iload_n 0, 1) := by decide +kernel
theorem dJ0_checkIndex_df160_1 : decode cJ0_checkIndex_df160 1 = .ok (.iload_n 1, 1) := by decide +kernel
theorem dJ0_checkIndex_df160_2 : decode cJ0_checkIndex_df160 2 = .ok (.getstatic 1053, 3) := by decide +kernel
theorem dJ0_checkIndex_df160_5 : decode cJ0_checkIndex_df160 5 = .ok (.invokestatic 1059, 3) := by decide +kernel
theorem dJ0_checkIndex_df160_8 : decode cJ0_checkIndex_df160 8 = .ok (.pop, 1) := by decide +kernel
theorem dJ0_checkIndex_df160_9 : decode cJ0_checkIndex_df160 9 = .ok (.return_, 1) := by decide +kernel
theorem dJ1_charAt_3b067_0 : decode cJ1_charAt_3b067 0 = .ok (.iload_n 1, 1) := by decide +kernel
theorem dJ1_charAt_3b067_1 : decode cJ1_charAt_3b067 1 = .ok (.aload_n 0, 1) := by decide +kernel
theorem dJ1_charAt_3b067_2 : decode cJ1_charAt_3b067 2 = .ok (.arraylength, 1) := by decide +kernel
theorem dJ1_charAt_3b067_3 : decode cJ1_charAt_3b067 3 = .ok (.invokestatic 9, 3) := by decide +kernel
theorem dJ1_charAt_3b067_6 : decode cJ1_charAt_3b067 6 = .ok (.aload_n 0, 1) := by decide +kernel
theorem dJ1_charAt_3b067_7 : decode cJ1_charAt_3b067 7 = .ok (.iload_n 1, 1) := by decide +kernel
theorem dJ1_charAt_3b067_8 : decode cJ1_charAt_3b067 8 = .ok (.baload, 1) := by decide +kernel
theorem dJ1_charAt_3b067_9 : decode cJ1_charAt_3b067 9 = .ok (.sipush 255, 3) := by decide +kernel
theorem dJ1_charAt_3b067_12 : decode cJ1_charAt_3b067 12 = .ok (.iand, 1) := by decide +kernel
theorem dJ1_charAt_3b067_13 : decode cJ1_charAt_3b067 13 = .ok (.i2c, 1) := by decide +kernel
theorem dJ1_charAt_3b067_14 : decode cJ1_charAt_3b067 14 = .ok (.ireturn, 1) := by decide +kernel
theorem dJ3_checkIndex_8e157_0 : decode cJ3_checkIndex_8e157 0 = .ok (.iload_n 0, 1) := by decide +kernel
theorem dJ3_checkIndex_8e157_1 : decode cJ3_checkIndex_8e157 1 = .ok (.ifCond .lt 8, 3) := by decide +kernel
theorem dJ3_checkIndex_8e157_4 : decode cJ3_checkIndex_8e157 4 = .ok (.iload_n 0, 1) := by decide +kernel
theorem dJ3_checkIndex_8e157_5 : decode cJ3_checkIndex_8e157 5 = .ok (.iload_n 1, 1) := by decide +kernel
theorem dJ3_checkIndex_8e157_6 : decode cJ3_checkIndex_8e157 6 = .ok (.if_icmp .lt 10, 3) := by decide +kernel
theorem dJ3_checkIndex_8e157_9 : decode cJ3_checkIndex_8e157 9 = .ok (.aload_n 2, 1) := by decide +kernel
theorem dJ3_checkIndex_8e157_10 : decode cJ3_checkIndex_8e157 10 = .ok (.iload_n 0, 1) := by decide +kernel
theorem dJ3_checkIndex_8e157_11 : decode cJ3_checkIndex_8e157 11 = .ok (.iload_n 1, 1) := by decide +kernel
theorem dJ3_checkIndex_8e157_12 : decode cJ3_checkIndex_8e157 12 = .ok (.invokestatic 95, 3) := by decide +kernel
theorem dJ3_checkIndex_8e157_15 : decode cJ3_checkIndex_8e157 15 = .ok (.athrow, 1) := by decide +kernel
theorem dJ3_checkIndex_8e157_16 : decode cJ3_checkIndex_8e157 16 = .ok (.iload_n 0, 1) := by decide +kernel
theorem dJ3_checkIndex_8e157_17 : decode cJ3_checkIndex_8e157 17 = .ok (.ireturn, 1) := by decide +kernel
def NoA : Nat → Prop := fun _ => False
def sfl (i : Nat) : Nat := ([5, 4] : List Nat).getD i 0
def sfc (i j : Nat) : Int32 := (sby.getD i []).getD j 0
def wsT (y : MethodName) (cc : ByteArray) (n : Nat) (r : Option FieldType) : List Cond := .code y cc n r :: lwg
/-- what is known of a string constant: its own cell, its bytes, the two statics -/
def SF (i k w : Nat) (U : State) (H : Heap) : Prop := va_O "java/lang/String" k NoA U H ∧ va_OF "java/lang/String" "coder" "B" (.int 0) k NoA U H ∧ va_OF "java/lang/String" "value" "[B" (.ref w) k NoA U H ∧ va_T .byte w (sfl i) (fun j => .int (sfc i j)) NoA U H ∧ va_Z "java/lang/String" "COMPACT_STRINGS" "Z" (.int 1) NoA U H ∧ va_Zq "jdk/internal/util/Preconditions" "SIOOBE_FORMATTER" "Ljava/util/function/BiFunction;" NoA U H
theorem SF.moved {i k w : Nat} {u U : State} {H : Heap} (hvm : u.vm.Alike U.vm) (h : SF i k w u H) : SF i k w U H :=
  ⟨va_O.moved hvm h.1, va_OF.moved hvm h.2.1, va_OF.moved hvm h.2.2.1, va_T.moved hvm h.2.2.2.1, va_Z.moved hvm h.2.2.2.2.1, va_Zq.moved hvm h.2.2.2.2.2⟩
theorem SF.kept {i k w : Nat} {U : State} {H H1 : Heap} (h : SF i k w U H) (hq : ∀ a : Nat, a < H.size → H1[a]? = H[a]?) : SF i k w U H1 :=
  ⟨h.1.kept (fun a x _ => hq a x), h.2.1.kept (fun a x _ => hq a x), h.2.2.1.kept (fun a x _ => hq a x), h.2.2.2.1.kept (fun a x _ => hq a x), h.2.2.2.2.1.kept (fun a x _ => hq a x), h.2.2.2.2.2.kept (fun a x _ => hq a x)⟩
theorem SF.go {i k w : Nat} {s U : State} {H : Heap} {locs : List Loc} (h : SF i k w s s.heap) (hS : va_S NoA s.heap H locs) (hU : U.heap = H) (hW : s.WarmedH U.vm) : SF i k w U U.heap := by
  rw [hU]
  exact (h.kept (fun a x => hS.2.1 a x (fun z => z))).moved hW.alike
def PcS (av : List Value) (i k w : Nat) : Array Value → State → Prop := va_Pc av (fun U => SF i k w U U.heap)
def QcS (x : Int32) : Array Value → State → Outcome → State → Prop := va_Qi (fun r (_ : Unit) => r = x) (fun _ _ => True) NoA
theorem PcS_blind {av : List Value} {i k w : Nat} : FrameBlind (PcS av i k w) := by
  intro v U g mk q
  exact ⟨q.1, SF.moved (u := U) (U := U.calling g mk v) (Vm.Alike.refl U.vm) q.2⟩
theorem PcS_go {av : List Value} {i k w : Nat} {s : State} {H : Heap} {locs : List Loc} (h : SF i k w s s.heap) (hS : va_S NoA s.heap H locs) : ∀ U : State, U.heap = H → s.WarmedH U.vm → PcS av i k w av.toArray U := fun _ hU hW => ⟨rfl, h.go hS hU hW⟩
theorem gc_T {w : Cond} {ws : List Cond} (h : w ∈ lwg) (hs : GoodIn lwg ws) : GoodIn lwg (w :: ws) := by
  intro x hx
  rcases List.mem_cons.mp hx with rfl | q
  · exact lwg_good _ h
  · exact hs _ q
theorem wsT_good {y : MethodName} {cc : ByteArray} {n : Nat} {r : Option FieldType} (h : Cond.code y cc n r ∈ lw_tbl) : GoodIn lwg (wsT y cc n r) := gc_T (lwg_of h rfl) (fun w hw => lwg_good _ hw)
theorem xs_69 : Cond.initialized RJ0 ∈ lw_tbl := List.mem_of_getElem? (i := 69) (by decide +kernel)
theorem xs_70 : Cond.initialized RJ1 ∈ lw_tbl := List.mem_of_getElem? (i := 70) (by decide +kernel)
theorem xs_71 : Cond.initialized RJ3 ∈ lw_tbl := List.mem_of_getElem? (i := 71) (by decide +kernel)
theorem xs_672 : Cond.methodLink (cN 3) 86 yJ0_length_8abf5 ∈ lw_tbl := List.mem_of_getElem? (i := 673) (by decide +kernel)
theorem xs_673 : Cond.instanceMethod yJ0_length_8abf5 ∈ lw_tbl := List.mem_of_getElem? (i := 674) (by decide +kernel)
theorem xs_674 : Cond.selects RJ0 yJ0_length_8abf5 yJ0_length_8abf5 ∈ lw_tbl := List.mem_of_getElem? (i := 675) (by decide +kernel)
theorem xs_675 : Cond.code yJ0_length_8abf5 cJ0_length_8abf5 1 (some .int) ∈ lw_tbl := List.mem_of_getElem? (i := 676) (by decide +kernel)
theorem xs_676 : Cond.methodLink RJ0 335 yJ0_coder_7d493 ∈ lw_tbl := List.mem_of_getElem? (i := 677) (by decide +kernel)
theorem xs_677 : Cond.instanceMethod yJ0_coder_7d493 ∈ lw_tbl := List.mem_of_getElem? (i := 678) (by decide +kernel)
theorem xs_678 : Cond.selects RJ0 yJ0_coder_7d493 yJ0_coder_7d493 ∈ lw_tbl := List.mem_of_getElem? (i := 679) (by decide +kernel)
theorem xs_679 : Cond.code yJ0_coder_7d493 cJ0_coder_7d493 1 (some .byte) ∈ lw_tbl := List.mem_of_getElem? (i := 680) (by decide +kernel)
theorem xs_680 : Cond.fieldLink RJ0 38 RJ0 "COMPACT_STRINGS" "Z" ∈ lw_tbl := List.mem_of_getElem? (i := 681) (by decide +kernel)
theorem xs_682 : Cond.methodLink (cN 3) 91 yJ0_charAt_5068e ∈ lw_tbl := List.mem_of_getElem? (i := 683) (by decide +kernel)
theorem xs_683 : Cond.instanceMethod yJ0_charAt_5068e ∈ lw_tbl := List.mem_of_getElem? (i := 684) (by decide +kernel)
theorem xs_684 : Cond.selects RJ0 yJ0_charAt_5068e yJ0_charAt_5068e ∈ lw_tbl := List.mem_of_getElem? (i := 685) (by decide +kernel)
theorem xs_685 : Cond.code yJ0_charAt_5068e cJ0_charAt_5068e 2 (some .char) ∈ lw_tbl := List.mem_of_getElem? (i := 686) (by decide +kernel)
theorem xs_686 : Cond.methodLink RJ0 492 yJ0_isLatin1_aae02 ∈ lw_tbl := List.mem_of_getElem? (i := 687) (by decide +kernel)
theorem xs_687 : Cond.instanceMethod yJ0_isLatin1_aae02 ∈ lw_tbl := List.mem_of_getElem? (i := 688) (by decide +kernel)
theorem xs_688 : Cond.selects RJ0 yJ0_isLatin1_aae02 yJ0_isLatin1_aae02 ∈ lw_tbl := List.mem_of_getElem? (i := 689) (by decide +kernel)
theorem xs_689 : Cond.code yJ0_isLatin1_aae02 cJ0_isLatin1_aae02 1 (some .boolean) ∈ lw_tbl := List.mem_of_getElem? (i := 690) (by decide +kernel)
theorem xs_690 : Cond.methodLink RJ0 495 yJ1_charAt_3b067 ∈ lw_tbl := List.mem_of_getElem? (i := 691) (by decide +kernel)
theorem xs_691 : Cond.static yJ1_charAt_3b067 ∈ lw_tbl := List.mem_of_getElem? (i := 692) (by decide +kernel)
theorem xs_692 : Cond.code yJ1_charAt_3b067 cJ1_charAt_3b067 2 (some .char) ∈ lw_tbl := List.mem_of_getElem? (i := 693) (by decide +kernel)
theorem xs_693 : Cond.methodLink RJ1 9 yJ0_checkIndex_df160 ∈ lw_tbl := List.mem_of_getElem? (i := 694) (by decide +kernel)
theorem xs_694 : Cond.static yJ0_checkIndex_df160 ∈ lw_tbl := List.mem_of_getElem? (i := 695) (by decide +kernel)
theorem xs_695 : Cond.code yJ0_checkIndex_df160 cJ0_checkIndex_df160 2 none ∈ lw_tbl := List.mem_of_getElem? (i := 696) (by decide +kernel)
theorem xs_696 : Cond.fieldLink RJ0 1053 RJ3 "SIOOBE_FORMATTER" "Ljava/util/function/BiFunction;" ∈ lw_tbl := List.mem_of_getElem? (i := 697) (by decide +kernel)
theorem xs_698 : Cond.methodLink RJ0 1059 yJ3_checkIndex_8e157 ∈ lw_tbl := List.mem_of_getElem? (i := 699) (by decide +kernel)
theorem xs_699 : Cond.static yJ3_checkIndex_8e157 ∈ lw_tbl := List.mem_of_getElem? (i := 700) (by decide +kernel)
theorem xs_700 : Cond.code yJ3_checkIndex_8e157 cJ3_checkIndex_8e157 3 (some .int) ∈ lw_tbl := List.mem_of_getElem? (i := 701) (by decide +kernel)
theorem xs_1237 : Cond.fieldLink RJ0 9 RJ0 "value" "[B" ∈ lw_tbl := List.mem_of_getElem? (i := 1238) (by decide +kernel)
theorem xs_1238 : Cond.fieldLink RJ0 15 RJ0 "coder" "B" ∈ lw_tbl := List.mem_of_getElem? (i := 1239) (by decide +kernel)
def rmZ (f n : Nat) : Room := { frames := f, cells := 0, slots := 0, locals := n }
/-- the frame of a small method: what every body of these starts from -/
theorem mt_of {l : Launch} {y : MethodName} {cc : ByteArray} {n : Nat} {ret : Option FieldType} {rm : Room} {own : String} {av : List Value} {i k w : Nat} {Qc : Array Value → State → Outcome → State → Prop} (hy : plainName y.cls = true) (ho : y.cls = own) (hn : (lg_sl av).length ≤ n)
    (body : ∀ (p : Program) (e : Env) (s : State) (m : MethodId) (below : List Frame) (meth : Method) (c : Code) (ls : Array Slot), p.tables.exec = Jvm.exec → c.code = cc → c.maxLocals = n → s.vm.findClass own = some m.cls → (∀ w ∈ lwg, w.before av.toArray s = true) → meth.sig.returnType = ret → meth.locks = false → SF i k w s s.heap → va_S NoA s.heap s.heap [] → lv_has ls n (lv_args 0 av) → W p l e (headSpec (wsT y cc n ret) rm).room s m av.toArray below meth c s.heap [] 0 0 (MQ below Qc av.toArray s 0 0 NoA) (F0 m 0 ls [])) : Met l y (wsT y cc n ret) rm (PcS av i k w) Qc 0 0 NoA := by
  refine Met.ofW (cc := cc) (maxL := n) (ret := ret) hy rfl ?_
  intro p e s m args below meth c s₁ B hml hv
  obtain ⟨rfl, hF⟩ := hv
  have hts := atoms_spec (ws := wsT y cc n ret) B.pre
  have hown : s.vm.findClass y.cls = some m.cls := findClass_of_methodNamed B.named
  rw [ho] at hown
  have hl := lv_entry av (n := n) hn
  rw [lg_entry_eq]
  generalize (lg_sl av ++ List.replicate (n - (lg_sl av).length) Slot.unset).toArray = ls at hl ⊢
  exact body p e s m below meth c ls B.exec B.bytes hml hown (fun w hw => hts w (List.mem_cons_of_mem _ hw)) B.returns B.notSynchronized hF va_S.rf hl
set_option maxRecDepth 100000 in
theorem coder_ok (l : Launch) {i k w : Nat} : Met l yJ0_coder_7d493 (wsT yJ0_coder_7d493 cJ0_coder_7d493 1 (some .byte)) (rmZ 0 0) (PcS [.ref k] i k w) (QcS 0) 0 0 NoA := by
  refine mt_of (own := RJ0) (by decide +kernel) rfl (Nat.le_of_ble_eq_true rfl) (fun p e s m below meth c ls hx hb hml hown hts hr hlocks hF hS hl => ?_)
  have hl : lv_has ls 1 [(0, .ref k)] := hl
  obtain ⟨h1, h2, h3, h4, h5, h6⟩ := hF
  refine va_gets hx hb h5 hS hown (hts _ (lwg_of xs_680 rfl)) (fun _ h => h) dJ0_coder_7d493_0 ?_
  refine lv_if_eq (tgt := 13) hx hb dJ0_coder_7d493_3 (by decide) (fun q => absurd q (by decide)) (fun _ => ?_)
  refine lv_aload_n hx hb dJ0_coder_7d493_6 rfl (lv_at hl 0 rfl) ?_
  refine vk_getf hx hb h2 hS hown (hts _ (lwg_of xs_1238 rfl)) (fun _ h => h) dJ0_coder_7d493_7 ?_
  refine lv_goto (tgt := 14) hx hb dJ0_coder_7d493_10 (by decide) ?_
  exact W.zret (v := 0) (ty := .byte) hx hb hr rfl (fun t ht hW => ⟨⟨0, (), rfl, rfl, trivial⟩, hS.F ht⟩) hS.2.2 dJ0_coder_7d493_14 hlocks
set_option maxRecDepth 100000 in
theorem latin_ok (l : Launch) {i k w : Nat} : Met l yJ0_isLatin1_aae02 (wsT yJ0_isLatin1_aae02 cJ0_isLatin1_aae02 1 (some .boolean)) (rmZ 0 0) (PcS [.ref k] i k w) (QcS 1) 0 0 NoA := by
  refine mt_of (own := RJ0) (by decide +kernel) rfl (Nat.le_of_ble_eq_true rfl) (fun p e s m below meth c ls hx hb hml hown hts hr hlocks hF hS hl => ?_)
  have hl : lv_has ls 1 [(0, .ref k)] := hl
  obtain ⟨h1, h2, h3, h4, h5, h6⟩ := hF
  refine va_gets hx hb h5 hS hown (hts _ (lwg_of xs_680 rfl)) (fun _ h => h) dJ0_isLatin1_aae02_0 ?_
  refine lv_if_eq (tgt := 17) hx hb dJ0_isLatin1_aae02_3 (by decide) (fun q => absurd q (by decide)) (fun _ => ?_)
  refine lv_aload_n hx hb dJ0_isLatin1_aae02_6 rfl (lv_at hl 0 rfl) ?_
  refine vk_getf hx hb h2 hS hown (hts _ (lwg_of xs_1238 rfl)) (fun _ h => h) dJ0_isLatin1_aae02_7 ?_
  refine lv_if_ne (tgt := 17) hx hb dJ0_isLatin1_aae02_10 (by decide) (fun q => absurd rfl q) (fun _ => ?_)
  refine lv_iconst (v := 1) hx hb dJ0_isLatin1_aae02_13 (by decide) ?_
  refine lv_goto (tgt := 18) hx hb dJ0_isLatin1_aae02_14 (by decide) ?_
  exact W.zret (v := 1) (ty := .boolean) hx hb hr rfl (fun t ht hW => ⟨⟨1, (), rfl, rfl, trivial⟩, hS.F ht⟩) hS.2.2 dJ0_isLatin1_aae02_18 hlocks
set_option maxRecDepth 100000 in
theorem length_ok (l : Launch) {i k w : Nat} (hi : i < 2) : Met l yJ0_length_8abf5 (wsT yJ0_length_8abf5 cJ0_length_8abf5 1 (some .int)) (rmZ 1 20) (PcS [.ref k] i k w) (QcS (Int32.ofNat (sfl i))) 0 0 NoA := by
  refine mt_of (own := RJ0) (by decide +kernel) rfl (Nat.le_of_ble_eq_true rfl) (fun p e s m below meth c ls hx hb hml hown hts hr hlocks hF hS hl => ?_)
  have hl : lv_has ls 1 [(0, .ref k)] := hl
  obtain ⟨h1, h2, h3, h4, h5, h6⟩ := id hF
  refine lv_aload_n hx hb dJ0_length_8abf5_0 rfl (lv_at hl 0 rfl) ?_
  refine vk_getf hx hb h3 hS hown (hts _ (lwg_of xs_1237 rfl)) (fun _ h => h) dJ0_length_8abf5_1 ?_
  refine va_tlen hx hb h4 hS rfl dJ0_length_8abf5_4 ?_
  refine lv_aload_n hx hb dJ0_length_8abf5_5 rfl (lv_at hl 0 rfl) ?_
  have hG : GoodIn lwg (wsV RJ0 335 RJ0 yJ0_coder_7d493 (wsT yJ0_coder_7d493 cJ0_coder_7d493 1 (some .byte))) := by
    unfold wsV
    exact gc_T (lwg_of xs_676 rfl) (gc_T (lwg_of xs_677 rfl) (gc_T (lwg_of xs_678 rfl) (gc_T (lwg_of xs_69 rfl) (wsT_good xs_679))))
  have hcw := cwV (R := (headSpec (wsT yJ0_length_8abf5 cJ0_length_8abf5 1 (some .int)) (rmZ 1 20)).room) (s := s) (args := [Value.ref k].toArray) (rm := rmZ 0 0) (mc := 0) (ms := 0) 0 hts hG rfl rfl rfl ⟨rfl, by decide +kernel⟩ ⟨Nat.le_of_ble_eq_true rfl, Nat.le_of_ble_eq_true rfl⟩
  refine va_calli (rest := [.int (Int32.ofNat (sfl i))]) (va_runV (b := k) (As := []) ⟨hx, hb, hml, hown, hts⟩ (coder_ok l) hcw ⟨PcS_blind, va_Orecv h1 hS, PcS_go hF hS⟩ rfl rfl hl.1 rfl (lv_room (Nat.le_of_ble_eq_true rfl)) dJ0_length_8abf5_6 ⟨Nat.le_of_ble_eq_true rfl, Nat.le_of_ble_eq_true rfl⟩) hS (fun q _ h => h) (fun q h => h) (fun r u t H1 locs1 ht hal hpost hB hz hk1 hS1 => ?_)
  obtain rfl : r = 0 := hpost
  refine lv_ishr hx hb dJ0_length_8abf5_9 ?_
  have e0 : (Int32.ofNat (sfl i)) >>> ((0 : Int32) &&& 31) = Int32.ofNat (sfl i) := by
    rcases (show i = 0 ∨ i = 1 by omega) with rfl | rfl <;> decide
  rw [e0]
  exact W.iret (v := Int32.ofNat (sfl i)) hx hb hr (fun t ht hW => ⟨⟨_, (), rfl, rfl, trivial⟩, hS1.F ht⟩) hS1.2.2 dJ0_length_8abf5_10 hlocks
set_option maxRecDepth 100000 in
theorem pcheck_ok (l : Launch) {i k w : Nat} {j n : Int32} {v : Value} (hv : v = .null ∨ ∃ t, v = .ref t) (h0 : ¬ j < 0) (hn : j < n) : Met l yJ3_checkIndex_8e157 (wsT yJ3_checkIndex_8e157 cJ3_checkIndex_8e157 3 (some .int)) (rmZ 0 0) (PcS [.int j, .int n, v] i k w) (QcS j) 0 0 NoA := by
  refine mt_of (own := RJ3) (by decide +kernel) rfl (by rcases hv with rfl | ⟨t, rfl⟩ <;> exact Nat.le_of_ble_eq_true rfl) (fun p e s m below meth c ls hx hb hml hown hts hr hlocks hF hS hl => ?_)
  have hl : lv_has ls 3 [(0, .int j), (1, .int n), (2, v)] := by rcases hv with rfl | ⟨t, rfl⟩ <;> exact hl
  refine lv_iload_n hx hb dJ3_checkIndex_8e157_0 rfl (lv_at hl 0 rfl) ?_
  refine lv_if_lt (tgt := 9) hx hb dJ3_checkIndex_8e157_1 (by decide) (fun q => absurd q h0) (fun _ => ?_)
  refine lv_iload_n hx hb dJ3_checkIndex_8e157_4 rfl (lv_at hl 0 rfl) ?_
  refine lv_iload_n hx hb dJ3_checkIndex_8e157_5 rfl (lv_at hl 1 rfl) ?_
  refine lv_icmp_lt (tgt := 16) hx hb dJ3_checkIndex_8e157_6 (by decide) (fun _ => ?_) (fun q => absurd hn q)
  refine lv_iload_n hx hb dJ3_checkIndex_8e157_16 rfl (lv_at hl 0 rfl) ?_
  exact W.iret (v := j) hx hb hr (fun t ht hW => ⟨⟨j, (), rfl, rfl, trivial⟩, hS.F ht⟩) hS.2.2 dJ3_checkIndex_8e157_17 hlocks
def QcV0 : Array Value → State → Outcome → State → Prop := va_Qv (fun _ : Unit => True) (fun _ _ => True) NoA
set_option maxRecDepth 100000 in
theorem check_ok (l : Launch) {i k w : Nat} {j n : Int32} (h0 : ¬ j < 0) (hn : j < n) : Met l yJ0_checkIndex_df160 (wsT yJ0_checkIndex_df160 cJ0_checkIndex_df160 2 none) (rmZ 1 22) (PcS [.int j, .int n] i k w) QcV0 0 0 NoA := by
  refine mt_of (own := RJ0) (by decide +kernel) rfl (Nat.le_of_ble_eq_true rfl) (fun p e s m below meth c ls hx hb hml hown hts hr hlocks hF hS hl => ?_)
  have hl : lv_has ls 2 [(0, .int j), (1, .int n)] := hl
  obtain ⟨h1, h2, h3, h4, h5, h6⟩ := id hF
  refine lv_iload_n hx hb dJ0_checkIndex_df160_0 rfl (lv_at hl 0 rfl) ?_
  refine lv_iload_n hx hb dJ0_checkIndex_df160_1 rfl (lv_at hl 1 rfl) ?_
  obtain ⟨v, hv, hz⟩ : ∃ v : Value, (v = .null ∨ ∃ t, v = .ref t) ∧ va_Z "jdk/internal/util/Preconditions" "SIOOBE_FORMATTER" "Ljava/util/function/BiFunction;" v NoA s s.heap := by
    rcases h6 with h | ⟨t, h⟩
    · exact ⟨_, Or.inl rfl, h⟩
    · exact ⟨_, Or.inr ⟨t, rfl⟩, h⟩
  refine va_gets hx hb hz hS hown (hts _ (lwg_of xs_696 rfl)) (fun _ h => h) dJ0_checkIndex_df160_2 ?_
  have hG : GoodIn lwg (va_wsS RJ0 1059 yJ3_checkIndex_8e157 (wsT yJ3_checkIndex_8e157 cJ3_checkIndex_8e157 3 (some .int))) := by
    unfold va_wsS
    exact gc_T (lwg_of xs_698 rfl) (gc_T (lwg_of xs_699 rfl) (gc_T (lwg_of xs_71 rfl) (wsT_good xs_700)))
  have hcw := va_cwS (R := (headSpec (wsT yJ0_checkIndex_df160 cJ0_checkIndex_df160 2 none) (rmZ 1 22)).room) (s := s) (args := [Value.int j, .int n].toArray) (rm := rmZ 0 0) (mc := 0) (ms := 0) 3 hts hG rfl rfl rfl (by decide +kernel) ⟨Nat.le_of_ble_eq_true rfl, Nat.le_of_ble_eq_true rfl⟩
  refine va_calli (rest := []) (va_runS (As := [.int j, .int n, v]) ⟨hx, hb, hml, hown, hts⟩ (pcheck_ok l hv h0 hn) hcw ⟨PcS_blind, PcS_go hF hS⟩ rfl rfl hl.1 rfl (lv_room (Nat.zero_le _)) dJ0_checkIndex_df160_5 ⟨Nat.le_of_ble_eq_true rfl, Nat.le_of_ble_eq_true rfl⟩) hS (fun q _ h => h) (fun q h => h) (fun r u t H1 locs1 ht hal hpost hB hz hk1 hS1 => ?_)
  refine lv_pop hx hb dJ0_checkIndex_df160_8 rfl ?_
  exact W.vret hx hb hr (fun t ht hW => ⟨⟨(), rfl, trivial, trivial⟩, hS1.F ht⟩) hS1.2.2 dJ0_checkIndex_df160_9 hlocks
theorem sf_ilt {i : Nat} {j : Int32} (hi : i < 2) (hj : vp_in j (sfl i)) : ¬ j < 0 ∧ j < Int32.ofNat (sfl i) := by
  have h1 := vp_in_iff.mp hj
  have h2 : (Int32.ofNat (sfl i)).toInt = (sfl i : Int) := by rcases (show i = 0 ∨ i = 1 by omega) with rfl | rfl <;> decide
  refine ⟨fun h => ?_, Int32.lt_iff_toInt_lt.mpr (by omega)⟩
  have h3 := Int32.lt_iff_toInt_lt.mp h
  have h4 : (0 : Int32).toInt = 0 := by decide
  omega
set_option maxRecDepth 100000 in
theorem lchar_ok (l : Launch) {i k w : Nat} {j : Int32} (hi : i < 2) (hj : vp_in j (sfl i)) : Met l yJ1_charAt_3b067 (wsT yJ1_charAt_3b067 cJ1_charAt_3b067 2 (some .char)) (rmZ 2 43) (PcS [.ref w, .int j] i k w) (QcS (sfc i j.toNatClampNeg &&& 255)) 0 0 NoA := by
  obtain ⟨j0, jn⟩ := sf_ilt hi hj
  refine mt_of (own := RJ1) (by decide +kernel) rfl (Nat.le_of_ble_eq_true rfl) (fun p e s m below meth c ls hx hb hml hown hts hr hlocks hF hS hl => ?_)
  have hl : lv_has ls 2 [(0, .ref w), (1, .int j)] := hl
  obtain ⟨h1, h2, h3, h4, h5, h6⟩ := id hF
  refine lv_iload_n hx hb dJ1_charAt_3b067_0 rfl (lv_at hl 1 rfl) ?_
  refine lv_aload_n hx hb dJ1_charAt_3b067_1 rfl (lv_at hl 0 rfl) ?_
  refine va_tlen hx hb h4 hS rfl dJ1_charAt_3b067_2 ?_
  have hG : GoodIn lwg (va_wsS RJ1 9 yJ0_checkIndex_df160 (wsT yJ0_checkIndex_df160 cJ0_checkIndex_df160 2 none)) := by
    unfold va_wsS
    exact gc_T (lwg_of xs_693 rfl) (gc_T (lwg_of xs_694 rfl) (gc_T (lwg_of xs_69 rfl) (wsT_good xs_695)))
  have hcw := va_cwS (R := (headSpec (wsT yJ1_charAt_3b067 cJ1_charAt_3b067 2 (some .char)) (rmZ 2 43)).room) (s := s) (args := [Value.ref w, .int j].toArray) (rm := rmZ 1 22) (mc := 0) (ms := 0) 2 hts hG rfl rfl rfl (by decide +kernel) ⟨Nat.le_of_ble_eq_true rfl, Nat.le_of_ble_eq_true rfl⟩
  refine va_callv (rest := []) (va_runS (As := [.int j, .int (Int32.ofNat (sfl i))]) ⟨hx, hb, hml, hown, hts⟩ (check_ok l j0 jn) hcw ⟨PcS_blind, PcS_go hF hS⟩ rfl rfl hl.1 rfl (lv_room (Nat.zero_le _)) dJ1_charAt_3b067_3 ⟨Nat.le_of_ble_eq_true rfl, Nat.le_of_ble_eq_true rfl⟩) hS (fun q _ h => h) (fun q h => h) (fun u t H1 locs1 ht hal hpost hB hz hk1 hS1 => ?_)
  refine lv_aload_n hx hb dJ1_charAt_3b067_6 rfl (lv_at hl 0 rfl) ?_
  refine lv_iload_n hx hb dJ1_charAt_3b067_7 rfl (lv_at hl 1 rfl) ?_
  refine va_tb hx hb h4 hS1 hj rfl dJ1_charAt_3b067_8 ?_
  refine lv_sipush (v := 255) hx hb dJ1_charAt_3b067_9 (by decide) ?_
  refine lv_iand hx hb dJ1_charAt_3b067_12 ?_
  refine lv_i2c hx hb dJ1_charAt_3b067_13 (sc_c2 _) ?_
  exact W.zret (v := sfc i j.toNatClampNeg &&& 255) (ty := .char) hx hb hr (sc_nar _) (fun t ht hW => ⟨⟨_, (), rfl, rfl, trivial⟩, hS1.F ht⟩) hS1.2.2 dJ1_charAt_3b067_14 hlocks
set_option maxRecDepth 100000 in
theorem char_ok (l : Launch) {i k w : Nat} {j : Int32} (hi : i < 2) (hj : vp_in j (sfl i)) : Met l yJ0_charAt_5068e (wsT yJ0_charAt_5068e cJ0_charAt_5068e 2 (some .char)) (rmZ 3 64) (PcS [.ref k, .int j] i k w) (QcS (sfc i j.toNatClampNeg &&& 255)) 0 0 NoA := by
  refine mt_of (own := RJ0) (by decide +kernel) rfl (Nat.le_of_ble_eq_true rfl) (fun p e s m below meth c ls hx hb hml hown hts hr hlocks hF hS hl => ?_)
  have hl : lv_has ls 2 [(0, .ref k), (1, .int j)] := hl
  obtain ⟨h1, h2, h3, h4, h5, h6⟩ := id hF
  refine lv_aload_n hx hb dJ0_charAt_5068e_0 rfl (lv_at hl 0 rfl) ?_
  have hG : GoodIn lwg (wsV RJ0 492 RJ0 yJ0_isLatin1_aae02 (wsT yJ0_isLatin1_aae02 cJ0_isLatin1_aae02 1 (some .boolean))) := by
    unfold wsV
    exact gc_T (lwg_of xs_686 rfl) (gc_T (lwg_of xs_687 rfl) (gc_T (lwg_of xs_688 rfl) (gc_T (lwg_of xs_69 rfl) (wsT_good xs_689))))
  have hcw := cwV (R := (headSpec (wsT yJ0_charAt_5068e cJ0_charAt_5068e 2 (some .char)) (rmZ 3 64)).room) (s := s) (args := [Value.ref k, .int j].toArray) (rm := rmZ 0 0) (mc := 0) (ms := 0) 0 hts hG rfl rfl rfl ⟨rfl, by decide +kernel⟩ ⟨Nat.le_of_ble_eq_true rfl, Nat.le_of_ble_eq_true rfl⟩
  refine va_calli (rest := []) (va_runV (b := k) (As := []) ⟨hx, hb, hml, hown, hts⟩ (latin_ok l) hcw ⟨PcS_blind, va_Orecv h1 hS, PcS_go hF hS⟩ rfl rfl hl.1 rfl (lv_room (Nat.zero_le _)) dJ0_charAt_5068e_1 ⟨Nat.le_of_ble_eq_true rfl, Nat.le_of_ble_eq_true rfl⟩) hS (fun q _ h => h) (fun q h => h) (fun r u t H1 locs1 ht hal hpost hB hz hk1 hS1 => ?_)
  obtain rfl : r = 1 := hpost
  refine lv_if_eq (tgt := 16) hx hb dJ0_charAt_5068e_4 (by decide) (fun q => absurd q (by decide)) (fun _ => ?_)
  refine lv_aload_n hx hb dJ0_charAt_5068e_7 rfl (lv_at hl 0 rfl) ?_
  refine vk_getf hx hb h3 hS1 hown (hts _ (lwg_of xs_1237 rfl)) (fun _ h => h) dJ0_charAt_5068e_8 ?_
  refine lv_iload_n hx hb dJ0_charAt_5068e_11 rfl (lv_at hl 1 rfl) ?_
  have hG2 : GoodIn lwg (va_wsS RJ0 495 yJ1_charAt_3b067 (wsT yJ1_charAt_3b067 cJ1_charAt_3b067 2 (some .char))) := by
    unfold va_wsS
    exact gc_T (lwg_of xs_690 rfl) (gc_T (lwg_of xs_691 rfl) (gc_T (lwg_of xs_70 rfl) (wsT_good xs_692)))
  have hcw2 := va_cwS (R := (headSpec (wsT yJ0_charAt_5068e cJ0_charAt_5068e 2 (some .char)) (rmZ 3 64)).room) (s := s) (args := [Value.ref k, .int j].toArray) (rm := rmZ 2 43) (mc := 0) (ms := 0) 2 hts hG2 rfl rfl rfl (by decide +kernel) ⟨Nat.le_of_ble_eq_true rfl, Nat.le_of_ble_eq_true rfl⟩
  refine va_calli (rest := []) (va_runS (As := [.ref w, .int j]) ⟨hx, hb, hml, hown, hts⟩ (lchar_ok l (k := k) hi hj) hcw2 ⟨PcS_blind, PcS_go hF hS1⟩ rfl rfl hl.1 rfl (lv_room (Nat.zero_le _)) dJ0_charAt_5068e_12 ⟨Nat.le_of_ble_eq_true rfl, Nat.le_of_ble_eq_true rfl⟩) hS1 (fun q _ h => h) (fun q h => h) (fun r u t H2 locs2 ht hal hpost hB hz hk1 hS2 => ?_)
  obtain rfl : r = sfc i j.toNatClampNeg &&& 255 := hpost
  exact W.zret (v := sfc i j.toNatClampNeg &&& 255) (ty := .char) hx hb hr (sc_nar _) (fun t ht hW => ⟨⟨_, (), rfl, rfl, trivial⟩, hS2.F ht⟩) hS2.2.2 dJ0_charAt_5068e_15 hlocks
theorem SF_of {a : Nat → Nat} {A : Nat → Prop} {s : State} {H : Heap} {locs : List Loc} {adV : Nat → Nat} {i : Nat} (hi : i < 2) (hK : vk_S 2 [5, 4] sby (fun i => a (900 + i)) adV A s s.heap) (hZ : va_Z "java/lang/String" "COMPACT_STRINGS" "Z" (.int 1) A s s.heap) (hQ : va_Zq "jdk/internal/util/Preconditions" "SIOOBE_FORMATTER" "Ljava/util/function/BiFunction;" A s s.heap) (hS : va_S A s.heap H locs) : ∀ U : State, U.heap = H → s.WarmedH U.vm → SF i (a (900 + i)) (adV i) U U.heap := by
  intro U hU hW
  obtain ⟨k1, k2, k3, k4⟩ := hK.1 i hi
  have hn : ∀ q, NoA q → A q := fun q h => h.elim
  rw [hU]
  refine SF.moved hW.alike ⟨(k1.kept hS.2.1).narrow hn, (k2.kept hS.2.1).narrow hn, (k3.kept hS.2.1).narrow hn, (k4.kept hS.2.1).narrow hn, (hZ.kept hS.2.1).narrow hn, (hQ.kept hS.2.1).narrow hn⟩
theorem P_keep {dC : Nat → ClassId} {dI : Nat → Nat → Nat} {cy : Nat → ClassId} {a : Nat → Nat} {A : Nat → Prop} {s : State} {y : Nat} {ls : List AV} {σ : Sg} {H H1 : Heap} {locs locs1 : List Loc} {rl : Array Slot} (hr : Rl dC dI cy a A s y ls σ H locs rl) (hk : ∀ q : Nat, q < H.size → ¬ NoA q → H1[q]? = H[q]?) (hS1 : va_S A s.heap H1 locs1) : Rl dC dI cy a A s y ls σ H1 locs1 rl := by
  obtain ⟨hP, hD, hS, hL⟩ := hr
  refine ⟨hP.kept (fun k q h => ?_), hD, hS1, hL⟩
  by_cases hq : q.1 < H.size
  · exact hk q.1 hq (fun z => z)
  · exfalso
    have h1 := hP k q h
    obtain ⟨b, e⟩ := q
    rcases e with e | e
    · have h2 : H[b]? = some (vp_cell e.1 e.2) := h1
      exact hq (Array.getElem?_eq_some_iff.mp h2).1
    · obtain ⟨r, -, cell, h2, -⟩ := h1
      exact hq (Array.getElem?_eq_some_iff.mp h2).1
