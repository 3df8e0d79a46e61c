def mPl : List Nat := [1, 3, 3, 3, 3, 3, 1, 1, 0, 0, 1, 1, 0, 1, 3, 3, 2, 1, 0, 5, 1, 1, 2, 1, 1, 2, 1, 2, 0, 2, 2, 0, 1, 0, 3, 3, 0, 5, 1, 1, 2, 2, 1, 3, 1, 1, 1, 1, 3, 2, 3, 1, 0, 3, 2, 2, 5, 1, 2, 2, 2, 1, 2, 3, 4, 3, 0, 1, 2, 5, 3, 1, 3, 2, 2, 2, 2, 0, 0, 1, 2, 1, 0, 1, 1, 1, 1, 1, 0, 2, 1, 1, 2, 1, 3, 4, 2, 1, 3, 1, 0, 2, 2, 3, 2, 0, 0, 0, 2, 2, 1, 1, 1, 2, 2, 1, 3, 2, 2, 5, 5, 1, 1, 1, 2, 2, 2, 1, 2, 4, 2, 2, 1, 1, 2, 3, 4, 3, 0, 0, 1, 1, 2, 5, 3, 1, 3, 0, 1, 2, 2, 2, 2, 0, 2, 0, 2, 2, 0, 0, 0, 1, 2, 1, 2, 1, 1, 0, 1, 1, 1, 1, 1, 1, 0, 1, 1, 2, 2, 1]
def mP (y : Nat) : Nat := mPl.getD y 0
def rcd (k : Nat) : Jvm.ClassFile.Cond := match k with
  | 0 => .eq
  | 1 => .ne
  | 2 => .lt
  | 3 => .ge
  | 4 => .gt
  | _ => .le
def rIb (k : Nat) : Instr := match k with
  | 0 => .iadd
  | 1 => .isub
  | 2 => .imul
  | 3 => .idiv
  | 4 => .irem
  | 5 => .iand
  | 6 => .ior
  | 7 => .ixor
  | 8 => .ishl
  | 9 => .ishr
  | _ => .iushr
def rLb (k : Nat) : Instr := match k with
  | 0 => .ladd
  | 1 => .lsub
  | 2 => .lmul
  | 3 => .ldiv
  | 4 => .lrem
  | 5 => .land
  | _ => .lor
/-- the machine's own instruction, and its length, of a row of a program -/
def rI (pc op : Nat) (v : Int) (k t : Nat) (tb : List (Int × Nat)) : Instr × Nat := match op with
  | 0 => match k with
    | 0 => (.iconst v, 1)
    | 1 => (.bipush v, 2)
    | 2 => (.sipush v, 3)
    | 3 => (.ldc t, 2)
    | _ => (.ldc_w t, 3)
  | 1 => match k with
    | 0 => (.lconst (if v = 0 then 0 else 1), 1)
    | _ => (.ldc2_w t, 3)
  | 2 => (.aconst_null, 1)
  | 3 => if h : t = 0 ∧ k < 4 then (.iload_n ⟨k, h.2⟩, 1) else (.iload k, 2)
  | 4 => if h : t = 0 ∧ k < 4 then (.lload_n ⟨k, h.2⟩, 1) else (.lload k, 2)
  | 5 => if h : t = 0 ∧ k < 4 then (.aload_n ⟨k, h.2⟩, 1) else (.aload k, 2)
  | 6 => if h : t = 0 ∧ k < 4 then (.istore_n ⟨k, h.2⟩, 1) else (.istore k, 2)
  | 7 => if h : t = 0 ∧ k < 4 then (.lstore_n ⟨k, h.2⟩, 1) else (.lstore k, 2)
  | 8 => if h : t = 0 ∧ k < 4 then (.astore_n ⟨k, h.2⟩, 1) else (.astore k, 2)
  | 9 => (.iinc k v, 3)
  | 10 => (rIb k, 1)
  | 11 => (rLb k, 1)
  | 12 => (if k = 0 then .lshl else .lshr, 1)
  | 13 => (.ineg, 1)
  | 14 => (.i2l, 1)
  | 15 => (.l2i, 1)
  | 16 => (.lcmp, 1)
  | 17 => (.dup, 1)
  | 18 => (.dup2, 1)
  | 19 => (.ifCond (rcd k) ((t : Int) - pc), 3)
  | 20 => (.if_icmp (rcd k) ((t : Int) - pc), 3)
  | 21 => (.goto ((t : Int) - pc), 3)
  | 22 => (.ifnull ((t : Int) - pc), 3)
  | 23 => (.ifnonnull ((t : Int) - pc), 3)
  | 25 => (.iaload, 1)
  | 26 => (.laload, 1)
  | 27 => (.baload, 1)
  | 28 => (.aaload, 1)
  | 29 => (.iastore, 1)
  | 30 => (.lastore, 1)
  | 31 => (.bastore, 1)
  | 32 => (.arraylength, 1)
  | 33 => (.getfield v.toNat, 3)
  | 34 => (.putfield v.toNat, 3)
  | 35 => (if mS k then .invokestatic v.toNat else .invokevirtual v.toNat, 3)
  | 36 => (.invokestatic v.toNat, 3)
  | 37 => (match k with
    | 0 => .return_
    | 1 => .ireturn
    | 2 => .ireturn
    | 3 => .lreturn
    | _ => .areturn, 1)
  | 38 => (.ldc v.toNat, 2)
  | 39 => (.invokevirtual v.toNat, 3)
  | 40 => (.invokevirtual v.toNat, 3)
  | 41 => (.iaload, 1)
  | 42 => (.arraylength, 1)
  | 43 => (.invokestatic v.toNat, 3)
  | 44 => (.invokestatic v.toNat, 3)
  | _ => (.nop, 0)
def conse : Int → List (Int × Nat) → Bool
  | _, [] => true
  | v, e :: r => decide (e.1 = v) && conse (v + 1) r
def sc (y op : Nat) (v : Int) (k t : Nat) (tb : List (Int × Nat)) : Bool := match op with
  | 0 => match k with
    | 0 => true
    | 1 => decide (-128 ≤ v ∧ v < 128)
    | 2 => decide (-32768 ≤ v ∧ v < 32768)
    | _ => kLl.contains (mO y, t, v, 0)
  | 1 => match k with
    | 0 => decide (v = 0 ∨ v = 1)
    | _ => kLl.contains (mO y, t, v, 1)
  | 12 => decide (k < 2)
  | 33 => fLl.contains (mO y, v.toNat, k, t) && decide (k < 7 ∧ t < nS k)
  | 34 => fLl.contains (mO y, v.toNat, k, t) && decide (k < 7 ∧ t < nS k)
  | 35 => (cLl.contains (mO y, v.toNat, k) || nsl.contains (mO y, v.toNat, k)) && decide (k < mLaw ∧ t = mP k + (if mS k then 0 else 1))
  | 36 => sLl.contains (mO y, v.toNat)
  | 37 => decide (k = mR y)
  | 38 => decide (mO y = 3 ∧ ((v = 78 ∧ k = 900) ∨ (v = 84 ∧ k = 901)))
  | 39 => decide (mO y = 3 ∧ v = 86)
  | 40 => decide (mO y = 3 ∧ v = 91)
  | 41 => decide (y = mLaw)
  | 42 => decide (y = mLaw)
  | 43 => xLl.contains (mO y, v.toNat)
  | 44 => nLl.contains (mO y, v.toNat)
  | _ => true
def okD (y pc nx op : Nat) (v : Int) (k t : Nat) (tb : List (Int × Nat)) : Bool :=
  if op = 24 then
    if k = 0 then decide (decode (mB y) pc = .ok (.tableswitch ((t : Int) - pc) v (v + tb.length - 1) (tb.map (fun e => (e.2 : Int) - pc)).toArray, nx - pc)) && conse v tb
    else decide (decode (mB y) pc = .ok (.lookupswitch ((t : Int) - pc) (tb.map (fun e => (e.1, (e.2 : Int) - pc))).toArray, nx - pc)) && ((tb.zip (tb.drop 1)).all (fun q => decide (q.1.1 < q.2.1)))
  else decide (decode (mB y) pc = .ok (rI pc op v k t tb)) && decide (nx = pc + (rI pc op v k t tb).2)
def okE (y : Nat) (e : Nat × Nat × In) : Bool := okD y e.1 e.2.1 e.2.2.1 e.2.2.2.1 e.2.2.2.2.1 e.2.2.2.2.2.1 e.2.2.2.2.2.2 && sc y e.2.2.1 e.2.2.2.1 e.2.2.2.2.1 e.2.2.2.2.2.1 e.2.2.2.2.2.2
theorem ok_0 : ∀ y, 0 ≤ y → y < 11 → (pgm y).all (okE y) = true := by
  have h : ∀ y ∈ List.range' 0 11, (pgm y).all (okE y) = true := by decide +kernel
  intro y h1 h2
  exact h y (List.mem_range'_1.mpr ⟨h1, by omega⟩)
theorem ok_1 : ∀ y, 11 ≤ y → y < 25 → (pgm y).all (okE y) = true := by
  have h : ∀ y ∈ List.range' 11 14, (pgm y).all (okE y) = true := by decide +kernel
  intro y h1 h2
  exact h y (List.mem_range'_1.mpr ⟨h1, by omega⟩)
theorem ok_2 : ∀ y, 25 ≤ y → y < 37 → (pgm y).all (okE y) = true := by
  have h : ∀ y ∈ List.range' 25 12, (pgm y).all (okE y) = true := by decide +kernel
  intro y h1 h2
  exact h y (List.mem_range'_1.mpr ⟨h1, by omega⟩)
theorem ok_3 : ∀ y, 37 ≤ y → y < 53 → (pgm y).all (okE y) = true := by
  have h : ∀ y ∈ List.range' 37 16, (pgm y).all (okE y) = true := by decide +kernel
  intro y h1 h2
  exact h y (List.mem_range'_1.mpr ⟨h1, by omega⟩)
theorem ok_4 : ∀ y, 53 ≤ y → y < 68 → (pgm y).all (okE y) = true := by
  have h : ∀ y ∈ List.range' 53 15, (pgm y).all (okE y) = true := by decide +kernel
  intro y h1 h2
  exact h y (List.mem_range'_1.mpr ⟨h1, by omega⟩)
theorem ok_5 : ∀ y, 68 ≤ y → y < 78 → (pgm y).all (okE y) = true := by
  have h : ∀ y ∈ List.range' 68 10, (pgm y).all (okE y) = true := by decide +kernel
  intro y h1 h2
  exact h y (List.mem_range'_1.mpr ⟨h1, by omega⟩)
theorem ok_6 : ∀ y, 78 ≤ y → y < 97 → (pgm y).all (okE y) = true := by
  have h : ∀ y ∈ List.range' 78 19, (pgm y).all (okE y) = true := by decide +kernel
  intro y h1 h2
  exact h y (List.mem_range'_1.mpr ⟨h1, by omega⟩)
theorem ok_7 : ∀ y, 97 ≤ y → y < 118 → (pgm y).all (okE y) = true := by
  have h : ∀ y ∈ List.range' 97 21, (pgm y).all (okE y) = true := by decide +kernel
  intro y h1 h2
  exact h y (List.mem_range'_1.mpr ⟨h1, by omega⟩)
theorem ok_8 : ∀ y, 118 ≤ y → y < 129 → (pgm y).all (okE y) = true := by
  have h : ∀ y ∈ List.range' 118 11, (pgm y).all (okE y) = true := by decide +kernel
  intro y h1 h2
  exact h y (List.mem_range'_1.mpr ⟨h1, by omega⟩)
theorem ok_9 : ∀ y, 129 ≤ y → y < 135 → (pgm y).all (okE y) = true := by
  have h : ∀ y ∈ List.range' 129 6, (pgm y).all (okE y) = true := by decide +kernel
  intro y h1 h2
  exact h y (List.mem_range'_1.mpr ⟨h1, by omega⟩)
theorem ok_10 : ∀ y, 135 ≤ y → y < 143 → (pgm y).all (okE y) = true := by
  have h : ∀ y ∈ List.range' 135 8, (pgm y).all (okE y) = true := by decide +kernel
  intro y h1 h2
  exact h y (List.mem_range'_1.mpr ⟨h1, by omega⟩)
theorem ok_11 : ∀ y, 143 ≤ y → y < 151 → (pgm y).all (okE y) = true := by
  have h : ∀ y ∈ List.range' 143 8, (pgm y).all (okE y) = true := by decide +kernel
  intro y h1 h2
  exact h y (List.mem_range'_1.mpr ⟨h1, by omega⟩)
theorem ok_12 : ∀ y, 151 ≤ y → y < 158 → (pgm y).all (okE y) = true := by
  have h : ∀ y ∈ List.range' 151 7, (pgm y).all (okE y) = true := by decide +kernel
  intro y h1 h2
  exact h y (List.mem_range'_1.mpr ⟨h1, by omega⟩)
theorem ok_13 : ∀ y, 158 ≤ y → y < 167 → (pgm y).all (okE y) = true := by
  have h : ∀ y ∈ List.range' 158 9, (pgm y).all (okE y) = true := by decide +kernel
  intro y h1 h2
  exact h y (List.mem_range'_1.mpr ⟨h1, by omega⟩)
theorem ok_14 : ∀ y, 167 ≤ y → y < 175 → (pgm y).all (okE y) = true := by
  have h : ∀ y ∈ List.range' 167 8, (pgm y).all (okE y) = true := by decide +kernel
  intro y h1 h2
  exact h y (List.mem_range'_1.mpr ⟨h1, by omega⟩)
theorem ok_15 : ∀ y, 175 ≤ y → y < 179 → (pgm y).all (okE y) = true := by
  have h : ∀ y ∈ List.range' 175 4, (pgm y).all (okE y) = true := by decide +kernel
  intro y h1 h2
  exact h y (List.mem_range'_1.mpr ⟨h1, by omega⟩)
