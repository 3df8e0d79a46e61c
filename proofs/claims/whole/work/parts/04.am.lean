/-! The abstract machine: ints and longs as whole numbers, cells by number, a state of cells sg. Pure: nothing of the JVM here. -/
abbrev AV : Type := Option (Int ⊕ Int ⊕ Nat)
abbrev vI (x : Int) : AV := some (Sum.inl x)
abbrev vL (x : Int) : AV := some (Sum.inr (Sum.inl x))
abbrev vR (k : Nat) : AV := some (Sum.inr (Sum.inr k))
abbrev Sg : Type := Nat → Int → Int
abbrev St : Type := Nat × List AV × List AV × Sg
abbrev SR : Type := St ⊕ (Nat × List AV × (AV → Sg → St)) ⊕ (AV × Sg)
def mAt (y : Nat) : Mt := mtab.getD y (⟨"", "", ""⟩, code, 0, 0, 0, false, [])
def mN (y : Nat) : MethodName := (mAt y).1
def mB (y : Nat) : ByteArray := (mAt y).2.1
def mL (y : Nat) : Nat := (mAt y).2.2.1
def mR (y : Nat) : Nat := (mAt y).2.2.2.1
def mO (y : Nat) : Nat := (mAt y).2.2.2.2.1
def mS (y : Nat) : Bool := (mAt y).2.2.2.2.2.1
def pgm (y : Nat) : Pg := (mAt y).2.2.2.2.2.2
def fnd : Pg → Nat → Option (Nat × In)
  | [], _ => none
  | e :: r, pc => if e.1 = pc then some e.2 else fnd r pc
def up (σ : Sg) (k : Nat) (i v : Int) : Sg := fun k' i' => if k' = k ∧ i' = i then v else σ k' i'
def cpy (σ : Sg) (a : Nat) (sp : Int) (b : Nat) (dp n : Int) : Sg := fun k i => if k = b ∧ dp ≤ i ∧ i < dp + n then σ a (sp + (i - dp)) else σ k i
def lk : List (Nat × Nat × Nat) → Nat → Nat × Nat
  | [], _ => (9, 0)
  | e :: r, k => if e.1 = k then e.2 else lk r k
def kl (σ : Sg) : List (Nat × Nat × Nat) := kBl ++ ((if σ 16 0 = 60 then kI0 else []) ++ (if σ 16 1 = 80 then kI1 else []))
def kn (σ : Sg) (k : Nat) : Nat × Nat := lk (kl σ) k
def tpf : List (Nat × Nat × Nat) → Nat → Nat → Nat
  | [], _, _ => 0
  | e :: r, k, j => if e.1 = k ∧ e.2.1 = j then e.2.2 else tpf r k j
def tp (k j : Nat) : Nat := tpf tPl k j
def sT (c j : Nat) : Nat := (sTl.getD c []).getD j 9
def nS (c : Nat) : Nat := (sTl.getD c []).length
def al (σ : Sg) (c o : Nat) : Int := if (kn σ o).1 = c then ((kn σ o).2 : Int) else 0
def w32 (x : Int) : Int := (Int32.ofInt x).toInt
def w64 (x : Int) : Int := (Int64.ofInt x).toInt
def div32 (x y : Int) : Int := (Int32.ofInt x / Int32.ofInt y).toInt
def rem32 (x y : Int) : Int := (Int32.ofInt x - Int32.ofInt x / Int32.ofInt y * Int32.ofInt y).toInt
def and32 (x y : Int) : Int := (Int32.ofInt x &&& Int32.ofInt y).toInt
def or32 (x y : Int) : Int := (Int32.ofInt x ||| Int32.ofInt y).toInt
def xor32 (x y : Int) : Int := (Int32.ofInt x ^^^ Int32.ofInt y).toInt
def shl32 (x y : Int) : Int := (Int32.ofInt x <<< (Int32.ofInt y &&& 31)).toInt
def shr32 (x y : Int) : Int := (Int32.ofInt x >>> (Int32.ofInt y &&& 31)).toInt
def ushr32 (x y : Int) : Int := ((Int32.ofInt x).toUInt32 >>> ((Int32.ofInt y).toUInt32 &&& Int32.toUInt32 31)).toInt32.toInt
def div64 (x y : Int) : Int := (Int64.ofInt x / Int64.ofInt y).toInt
def rem64 (x y : Int) : Int := (Int64.ofInt x - Int64.ofInt x / Int64.ofInt y * Int64.ofInt y).toInt
def and64 (x y : Int) : Int := (Int64.ofInt x &&& Int64.ofInt y).toInt
def or64 (x y : Int) : Int := (Int64.ofInt x ||| Int64.ofInt y).toInt
def shl64 (x y : Int) : Int := (Int64.ofInt x <<< ((Int32.ofInt y).toInt64 &&& 63)).toInt
def shr64 (x y : Int) : Int := (Int64.ofInt x >>> ((Int32.ofInt y).toInt64 &&& 63)).toInt
def ib (k : Nat) (x y : Int) : Option Int :=
  match k with
  | 0 => some (x + y)
  | 1 => some (x - y)
  | 2 => some (x * y)
  | 3 => if w32 y = 0 then none else some (div32 x y)
  | 4 => if w32 y = 0 then none else some (rem32 x y)
  | 5 => some (and32 x y)
  | 6 => some (or32 x y)
  | 7 => some (xor32 x y)
  | 8 => some (shl32 x y)
  | 9 => some (shr32 x y)
  | 10 => some (ushr32 x y)
  | _ => none
def lb (k : Nat) (x y : Int) : Option Int :=
  match k with
  | 0 => some (x + y)
  | 1 => some (x - y)
  | 2 => some (x * y)
  | 3 => if w64 y = 0 then none else some (div64 x y)
  | 4 => if w64 y = 0 then none else some (rem64 x y)
  | 5 => some (and64 x y)
  | 6 => some (or64 x y)
  | _ => none
def lsf (k : Nat) (x y : Int) : Option Int :=
  match k with
  | 0 => some (shl64 x y)
  | 1 => some (shr64 x y)
  | _ => none
def cmpL (x y : Int) : Int := if w64 x > w64 y then 1 else if w64 x = w64 y then 0 else -1
def cnd (k : Nat) (x y : Int) : Bool :=
  match k with
  | 0 => decide (x = y)
  | 1 => decide (x ≠ y)
  | 2 => decide (x < y)
  | 3 => decide (y ≤ x)
  | 4 => decide (y < x)
  | _ => decide (x ≤ y)
def swt : List (Int × Nat) → Nat → Int → Nat
  | [], d, _ => d
  | e :: r, d, x => if x = e.1 then e.2 else swt r d x
def psh (r : AV) (st : List AV) : List AV := match r with
  | none => st
  | some v => some v :: st
def rcv (σ : Sg) (k : Nat) (args : List AV) : Bool :=
  if mS k then true else match args with
    | some (.inr (.inr o)) :: _ => decide (kn σ o = (0, mO k))
    | _ => false
def fvl (σ : Sg) (o c j : Nat) : AV := match sT c j with
  | 0 => vI (σ o j)
  | 1 => vL (σ o j)
  | 2 => vR (tp o j)
  | _ => vR (σ o j).toNat
def sln (o : Nat) : Int := if o = 900 then 5 else 4
def sch (o : Nat) (i : Int) : Int := if o = 900 then ([99, 108, 97, 105, 109] : List Int).getD i.toNat 0 else ([98, 97, 99, 107] : List Int).getD i.toNat 0
def exe (d nx op : Nat) (v : Int) (k t : Nat) (tb : List (Int × Nat)) (ls st : List AV) (σ : Sg) : Option SR :=
  match op with
  | 0 => some (.inl (nx, ls, vI v :: st, σ))
  | 1 => some (.inl (nx, ls, vL v :: st, σ))
  | 2 => some (.inl (nx, ls, vR 0 :: st, σ))
  | 3 => match ls[k]? with
    | some (some (.inl x)) => some (.inl (nx, ls, vI x :: st, σ))
    | _ => none
  | 4 => match ls[k]?, ls[k + 1]? with
    | some (some (.inr (.inl x))), some none => some (.inl (nx, ls, vL x :: st, σ))
    | _, _ => none
  | 5 => match ls[k]? with
    | some (some (.inr (.inr o))) => if o = 0 then none else some (.inl (nx, ls, vR o :: st, σ))
    | _ => none
  | 6 => match st with
    | some (.inl x) :: r => if k < ls.length then some (.inl (nx, ls.set k (vI x), r, σ)) else none
    | _ => none
  | 7 => match st with
    | some (.inr (.inl x)) :: r => if k + 1 < ls.length then some (.inl (nx, (ls.set k (vL x)).set (k + 1) none, r, σ)) else none
    | _ => none
  | 8 => match st with
    | some (.inr (.inr o)) :: r => if o = 0 then none else if k < ls.length then some (.inl (nx, ls.set k (vR o), r, σ)) else none
    | _ => none
  | 9 => match ls[k]? with
    | some (some (.inl x)) => some (.inl (nx, ls.set k (vI (x + v)), st, σ))
    | _ => none
  | 10 => match st with
    | some (.inl y) :: some (.inl x) :: r => (ib k x y).map (fun z => .inl (nx, ls, vI z :: r, σ))
    | _ => none
  | 11 => match st with
    | some (.inr (.inl y)) :: some (.inr (.inl x)) :: r => (lb k x y).map (fun z => .inl (nx, ls, vL z :: r, σ))
    | _ => none
  | 12 => match st with
    | some (.inl y) :: some (.inr (.inl x)) :: r => (lsf k x y).map (fun z => .inl (nx, ls, vL z :: r, σ))
    | _ => none
  | 13 => match st with
    | some (.inl x) :: r => some (.inl (nx, ls, vI (-x) :: r, σ))
    | _ => none
  | 14 => match st with
    | some (.inl x) :: r => some (.inl (nx, ls, vL (w32 x) :: r, σ))
    | _ => none
  | 15 => match st with
    | some (.inr (.inl x)) :: r => some (.inl (nx, ls, vI x :: r, σ))
    | _ => none
  | 16 => match st with
    | some (.inr (.inl y)) :: some (.inr (.inl x)) :: r => some (.inl (nx, ls, vI (cmpL x y) :: r, σ))
    | _ => none
  | 17 => match st with
    | some (.inl x) :: r => some (.inl (nx, ls, vI x :: vI x :: r, σ))
    | some (.inr (.inr x)) :: r => some (.inl (nx, ls, vR x :: vR x :: r, σ))
    | _ => none
  | 18 => match st with
    | some (.inl y) :: some (.inr (.inr x)) :: r => some (.inl (nx, ls, vI y :: vR x :: vI y :: vR x :: r, σ))
    | _ => none
  | 19 => match st with
    | some (.inl x) :: r => some (.inl (if cnd k (w32 x) 0 = true then (t, ls, r, σ) else (nx, ls, r, σ)))
    | _ => none
  | 20 => match st with
    | some (.inl y) :: some (.inl x) :: r => some (.inl (if cnd k (w32 x) (w32 y) = true then (t, ls, r, σ) else (nx, ls, r, σ)))
    | _ => none
  | 21 => some (.inl (t, ls, st, σ))
  | 22 => match st with
    | some (.inr (.inr o)) :: r => some (.inl (if o = 0 then (t, ls, r, σ) else (nx, ls, r, σ)))
    | _ => none
  | 23 => match st with
    | some (.inr (.inr o)) :: r => some (.inl (if o = 0 then (nx, ls, r, σ) else (t, ls, r, σ)))
    | _ => none
  | 24 => match st with
    | some (.inl x) :: r => some (.inl (swt tb t (w32 x), ls, r, σ))
    | _ => none
  | 25 => match st with
    | some (.inl i) :: some (.inr (.inr o)) :: r => if 0 ≤ w32 i ∧ w32 i < al σ 1 o then some (.inl (nx, ls, vI (σ o (w32 i)) :: r, σ)) else none
    | _ => none
  | 26 => match st with
    | some (.inl i) :: some (.inr (.inr o)) :: r => if 0 ≤ w32 i ∧ w32 i < al σ 2 o then some (.inl (nx, ls, vL (σ o (w32 i)) :: r, σ)) else none
    | _ => none
  | 27 => match st with
    | some (.inl i) :: some (.inr (.inr o)) :: r => if 0 ≤ w32 i ∧ w32 i < al σ 3 o then some (.inl (nx, ls, vI (σ o (w32 i)) :: r, σ)) else none
    | _ => none
  | 28 => match st with
    | some (.inl i) :: some (.inr (.inr o)) :: r => if 0 ≤ w32 i ∧ w32 i < al σ 4 o then some (.inl (nx, ls, vR (σ o (w32 i)).toNat :: r, σ)) else none
    | _ => none
  | 29 => match st with
    | some (.inl x) :: some (.inl i) :: some (.inr (.inr o)) :: r => if 0 ≤ w32 i ∧ w32 i < al σ 1 o then some (.inl (nx, ls, r, up σ o (w32 i) x)) else none
    | _ => none
  | 30 => match st with
    | some (.inr (.inl x)) :: some (.inl i) :: some (.inr (.inr o)) :: r => if 0 ≤ w32 i ∧ w32 i < al σ 2 o then some (.inl (nx, ls, r, up σ o (w32 i) x)) else none
    | _ => none
  | 31 => match st with
    | some (.inl x) :: some (.inl i) :: some (.inr (.inr o)) :: r => if (0 ≤ w32 i ∧ w32 i < al σ 3 o) ∧ (x = 0 ∨ x = 1) then some (.inl (nx, ls, r, up σ o (w32 i) x)) else none
    | _ => none
  | 32 => match st with
    | some (.inr (.inr o)) :: r => if (kn σ o).1 = 1 ∨ (kn σ o).1 = 2 then some (.inl (nx, ls, vI (kn σ o).2 :: r, σ)) else none
    | _ => none
  | 33 => match st with
    | some (.inr (.inr o)) :: r => if kn σ o = (0, k) then some (.inl (nx, ls, fvl σ o k t :: r, σ)) else none
    | _ => none
  | 34 => match st with
    | some (.inl x) :: some (.inr (.inr o)) :: r => if kn σ o = (0, k) ∧ sT k t = 0 then some (.inl (nx, ls, r, up σ o t x)) else none
    | some (.inr (.inl x)) :: some (.inr (.inr o)) :: r => if kn σ o = (0, k) ∧ sT k t = 1 then some (.inl (nx, ls, r, up σ o t x)) else none
    | some (.inr (.inr x)) :: some (.inr (.inr o)) :: r => if kn σ o = (0, k) ∧ sT k t = 3 then some (.inl (nx, ls, r, up σ o t x)) else none
    | _ => none
  | 35 => if (t ≤ st.length ∧ (st.drop t).length ≤ 4) ∧ rcv σ k (st.take t).reverse = true then some (.inr (.inl (k, (st.take t).reverse, fun r σ' => (nx, ls, psh r (st.drop t), σ')))) else none
  | 36 => match st with
    | some (.inl n) :: some (.inl dp) :: some (.inr (.inr b)) :: some (.inl sp) :: some (.inr (.inr a)) :: r =>
      if (k = 1 ∨ k = 2) ∧ 0 ≤ w32 sp ∧ 0 ≤ w32 dp ∧ 0 ≤ w32 n ∧ w32 sp + w32 n ≤ al σ k a ∧ w32 dp + w32 n ≤ al σ k b ∧ a ≠ b ∧ r.length ≤ 4 ∧ 0 < al σ k a ∧ 0 < al σ k b then some (.inl (nx, ls, r, cpy σ a (w32 sp) b (w32 dp) (w32 n))) else none
    | _ => none
  | 37 => match k, st with
    | 0, [] => some (.inr (.inr (none, σ)))
    | 1, [some (.inl x)] => some (.inr (.inr (vI x, σ)))
    | 2, [some (.inl x)] => if x = 0 ∨ x = 1 then some (.inr (.inr (vI x, σ))) else none
    | 3, [some (.inr (.inl x))] => some (.inr (.inr (vL x, σ)))
    | 4, [some (.inr (.inr o))] => if o = 0 then none else some (.inr (.inr (vR o, σ)))
    | _, _ => none
  | 38 => some (.inl (nx, ls, vR k :: st, σ))
  | 39 => match st with
    | some (.inr (.inr o)) :: r => if (o = 900 ∨ o = 901) ∧ r.length ≤ 4 ∧ 6 ≤ d then some (.inl (nx, ls, vI (sln o) :: r, σ)) else none
    | _ => none
  | 40 => match st with
    | some (.inl i) :: some (.inr (.inr o)) :: r => if (o = 900 ∨ o = 901) ∧ 0 ≤ w32 i ∧ w32 i < sln o ∧ r.length ≤ 4 ∧ 6 ≤ d then some (.inl (nx, ls, vI (sch o (w32 i)) :: r, σ)) else none
    | _ => none
  | 41 => match st with
    | some (.inl i) :: some (.inr (.inr o)) :: r => if o = 999 ∧ 0 ≤ w32 i ∧ w32 i < σ 999 (-1) then some (.inl (nx, ls, vI (σ 999 (w32 i)) :: r, σ)) else none
    | _ => none
  | 42 => match st with
    | some (.inr (.inr o)) :: r => if o = 999 then some (.inl (nx, ls, vI (σ 999 (-1)) :: r, σ)) else none
    | _ => none
  | 43 => match st with
    | some (.inl y) :: some (.inl x) :: r => if r.length ≤ 4 then some (.inl (nx, ls, vI (if w32 x < w32 y then y else x) :: r, σ)) else none
    | _ => none
  | 44 => match st with
    | some (.inl y) :: some (.inl x) :: r => if r.length ≤ 4 then some (.inl (nx, ls, vI (if w32 y < w32 x then y else x) :: r, σ)) else none
    | _ => none
  | _ => none
def stp (d y : Nat) (s : St) : Option SR :=
  match fnd (pgm y) s.1 with
  | none => none
  | some (nx, op, v, k, t, tb) => exe d nx op v k t tb s.2.1 s.2.2.1 s.2.2.2
def flt (args : List AV) : List AV := args.flatMap (fun v => match v with
  | some (.inr (.inl x)) => [vL x, none]
  | v => [v])
def lay (y : Nat) (args : List AV) : List AV := flt args ++ List.replicate (mL y - (flt args).length) none
abbrev ER : Type := Nat → List AV → Sg → AV → Sg → Prop
def sg (d : Nat) (E : ER) (y : Nat) : Nat → St → St → Prop
  | 0, s, s' => s = s'
  | n + 1, s, s' => match stp d y s with
    | some (.inl s1) => sg d E y n s1 s'
    | some (.inr (.inl c)) => ∃ r σ1, E c.1 c.2.1 s.2.2.2 r σ1 ∧ sg d E y n (c.2.2 r σ1) s'
    | _ => False
def Ev : Nat → ER
  | 0 => fun _ _ _ _ _ => False
  | d + 1 => fun y args σ r σ' => (flt args).length ≤ mL y ∧ ∃ n s', sg d (Ev d) y n (0, lay y args, [], σ) s' ∧ stp d y s' = some (.inr (.inr (r, σ')))
def Rn (d y pc : Nat) (ls st : List AV) (σ : Sg) (Q : AV → Sg → Prop) : Prop :=
  ∃ n s' r σ', sg d (Ev d) y n (pc, ls, st, σ) s' ∧ stp d y s' = some (.inr (.inr (r, σ'))) ∧ Q r σ'
/-- one answer: runs are functions -/
theorem sg_det {d y : Nat} {E : ER} (hE : ∀ k a σ r σ' r2 σ2, E k a σ r σ' → E k a σ r2 σ2 → r = r2 ∧ σ' = σ2) :
    ∀ (n m : Nat) (s s1 s2 : St) (q1 q2 : AV × Sg), sg d E y n s s1 → stp d y s1 = some (.inr (.inr q1)) → sg d E y m s s2 → stp d y s2 = some (.inr (.inr q2)) → q1 = q2 := by
  intro n
  induction n with
  | zero =>
    intro m s s1 s2 q1 q2 h1 e1 h2 e2
    cases h1
    cases m with
    | zero => cases h2; rw [e1] at e2; simpa using e2
    | succ m => simp only [sg, e1] at h2
  | succ n ih =>
    intro m s s1 s2 q1 q2 h1 e1 h2 e2
    cases m with
    | zero => cases h2; simp only [sg, e2] at h1
    | succ m =>
      simp only [sg] at h1 h2
      split at h1
      · rename_i s3 e3
        rw [e3] at h2
        exact ih m s3 s1 s2 q1 q2 h1 e1 h2 e2
      · rename_i c e3
        rw [e3] at h2
        obtain ⟨r, σ1, a1, a2⟩ := h1
        obtain ⟨r', σ1', b1, b2⟩ := h2
        obtain ⟨rfl, rfl⟩ := hE _ _ _ _ _ _ _ a1 b1
        exact ih m _ s1 s2 q1 q2 a2 e1 b2 e2
      · exact h1.elim
theorem Ev_det : ∀ (d k : Nat) (a : List AV) (σ : Sg) (r : AV) (σ' : Sg) (r2 : AV) (σ2 : Sg), Ev d k a σ r σ' → Ev d k a σ r2 σ2 → r = r2 ∧ σ' = σ2 := by
  intro d
  induction d with
  | zero => intro k a σ r σ' r2 σ2 h; exact h.elim
  | succ d ih =>
    intro k a σ r σ' r2 σ2 h1 h2
    obtain ⟨-, n, s1, a1, a2⟩ := h1
    obtain ⟨-, m, s2, b1, b2⟩ := h2
    have := sg_det (fun k a σ r σ' r2 σ2 => ih k a σ r σ' r2 σ2) n m _ s1 s2 (r, σ') (r2, σ2) a1 a2 b1 b2
    simpa using this
theorem Rn_nx {d y pc : Nat} {ls st : List AV} {σ : Sg} {Q : AV → Sg → Prop} {pc' : Nat} {ls' st' : List AV} {σ' : Sg} (h : stp d y (pc, ls, st, σ) = some (.inl (pc', ls', st', σ'))) : Rn d y pc ls st σ Q ↔ Rn d y pc' ls' st' σ' Q := by
  constructor
  · rintro ⟨n, s', r, σ1, h1, h2, h3⟩
    cases n with
    | zero => cases h1; rw [h] at h2; cases h2
    | succ n =>
      simp only [sg, h] at h1
      exact ⟨n, s', r, σ1, h1, h2, h3⟩
  · rintro ⟨n, s', r, σ1, h1, h2, h3⟩
    exact ⟨n + 1, s', r, σ1, by simp only [sg, h]; exact h1, h2, h3⟩
theorem Rn_call {d y pc : Nat} {ls st : List AV} {σ : Sg} {Q : AV → Sg → Prop} {k : Nat} {a : List AV} {f : AV → Sg → St} (h : stp d y (pc, ls, st, σ) = some (.inr (.inl (k, a, f)))) : Rn d y pc ls st σ Q ↔ ∃ r σ1, Ev d k a σ r σ1 ∧ Rn d y (f r σ1).1 (f r σ1).2.1 (f r σ1).2.2.1 (f r σ1).2.2.2 Q := by
  constructor
  · rintro ⟨n, s', r, σ1, h1, h2, h3⟩
    cases n with
    | zero => cases h1; rw [h] at h2; cases h2
    | succ n =>
      simp only [sg, h] at h1
      obtain ⟨r0, σ0, e1, e2⟩ := h1
      exact ⟨r0, σ0, e1, n, s', r, σ1, e2, h2, h3⟩
  · rintro ⟨r0, σ0, e1, n, s', r, σ1, e2, h2, h3⟩
    exact ⟨n + 1, s', r, σ1, by simp only [sg, h]; exact ⟨r0, σ0, e1, e2⟩, h2, h3⟩
theorem Rn_ret {d y pc : Nat} {ls st : List AV} {σ : Sg} {Q : AV → Sg → Prop} {r : AV} {σ' : Sg} (h : stp d y (pc, ls, st, σ) = some (.inr (.inr (r, σ')))) : Rn d y pc ls st σ Q ↔ Q r σ' := by
  constructor
  · rintro ⟨n, s', r1, σ1, h1, h2, h3⟩
    cases n with
    | zero => cases h1; rw [h] at h2; cases h2; exact h3
    | succ n => simp only [sg, h] at h1
  · intro hq
    exact ⟨0, _, r, σ', rfl, h, hq⟩
theorem Rn_no {d y pc : Nat} {ls st : List AV} {σ : Sg} {Q : AV → Sg → Prop} (h : stp d y (pc, ls, st, σ) = none) : Rn d y pc ls st σ Q ↔ False := by
  constructor
  · rintro ⟨n, s', r1, σ1, h1, h2, h3⟩
    cases n with
    | zero => cases h1; rw [h] at h2; cases h2
    | succ n => simp only [sg, h] at h1
  · exact False.elim
theorem Rn_mono {d y pc : Nat} {ls st : List AV} {σ : Sg} {Q Q' : AV → Sg → Prop} (h : Rn d y pc ls st σ Q) (hq : ∀ r σ', Q r σ' → Q' r σ') : Rn d y pc ls st σ Q' := by
  obtain ⟨n, s', r, σ1, h1, h2, h3⟩ := h
  exact ⟨n, s', r, σ1, h1, h2, hq _ _ h3⟩
/-- a call's answer, out of a run of its body -/
theorem Ev_of {d y : Nat} {args : List AV} {σ : Sg} {Q : AV → Sg → Prop} (hl : (flt args).length ≤ mL y) (h : Rn d y 0 (lay y args) [] σ Q) : ∃ r σ', Ev (d + 1) y args σ r σ' ∧ Q r σ' := by
  obtain ⟨n, s', r, σ1, h1, h2, h3⟩ := h
  exact ⟨r, σ1, ⟨hl, n, s', h1, h2⟩, h3⟩
theorem Ev_is {d y : Nat} {args : List AV} {σ : Sg} {r0 : AV} {σ0 : Sg} (hl : (flt args).length ≤ mL y) (h : Rn d y 0 (lay y args) [] σ (fun r σ' => r = r0 ∧ σ' = σ0)) : Ev (d + 1) y args σ r0 σ0 := by
  obtain ⟨r, σ', h1, rfl, rfl⟩ := Ev_of hl h
  exact h1
/-- a call whose answer is known goes on from there -/
theorem Ev_ex {d y : Nat} {args : List AV} {σ : Sg} {r0 : AV} {σ0 : Sg} (h : Ev d y args σ r0 σ0) {P : AV → Sg → Prop} : (∃ r σ', Ev d y args σ r σ' ∧ P r σ') ↔ P r0 σ0 := by
  constructor
  · rintro ⟨r, σ', h1, h2⟩
    obtain ⟨rfl, rfl⟩ := Ev_det _ _ _ _ _ _ _ _ h h1
    exact h2
  · intro hp
    exact ⟨r0, σ0, h, hp⟩
