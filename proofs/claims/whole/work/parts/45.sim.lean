/-! Two walks alike in where stones lie. -/
def sm (n : Int) (x y : RS) : Prop := x.1 = y.1 ∧ x.2.1 = y.2.1 ∧ x.2.2.1 = y.2.2.1 ∧ ∀ t, 0 ≤ t → t < n → x.2.2.2.1 t = y.2.2.2.1 t
theorem rst_sm {b b' : Int → Int} {p nt p' nt' : Int} {x y : RS} (hV : VX b x) (h : sm (b 0) x y) (hb0 : b' 0 = b 0) (hnd : ∀ s, 0 ≤ s → s < b 0 → (ndS b' s x.2.1 ≤ p' ↔ ndS b s x.2.1 ≤ p)) (hc : 0 < x.2.2.1 → nxc (x.2.2.2.1 x.1) x.2.1 ≠ -1 → b' (180 + nxc (x.2.2.2.1 x.1) x.2.1) = b (180 + nxc (x.2.2.2.1 x.1) x.2.1) ∧ (b (180 + nxc (x.2.2.2.1 x.1) x.2.1) ≠ 1 → sAt x.2.2.2.1 (b 0) (nxc (x.2.2.2.1 x.1) x.2.1) = -1 → b' (32 + nxc (x.2.2.2.1 x.1) x.2.1) = b (32 + nxc (x.2.2.2.1 x.1) x.2.1))) : sm (b 0) (rst b p nt x) (rst b' p' nt' y) := by
  obtain ⟨s, w, l, pl, ⟨cnt, lf⟩, mt⟩ := x
  obtain ⟨s2, w2, l2, pl2, ⟨cnt2, lf2⟩, mt2⟩ := y
  obtain ⟨h1, h2, h3, h4⟩ := h
  simp only at h1 h2 h3 h4 hnd hc
  subst h1 h2 h3
  obtain ⟨hs, hw, hl, hP⟩ := hV
  simp only at hs hw hl hP
  have es : pl2 s = pl s := (h4 s hs.1 hs.2.1).symm
  have eA : ∀ c, sAt pl2 (b 0) c = sAt pl (b 0) c := fun c => by
    unfold sAt
    exact itI_congr (fun i a a0 a1 => by rw [h4 i a0 a1]) (by omega)
  simp only [rst, es, hb0, eA]
  by_cases hl0 : l ≤ 0
  · simp only [if_pos hl0]; exact ⟨rfl, rfl, rfl, h4⟩
  simp only [if_neg hl0]
  by_cases hn : nxc (pl s) w = -1
  · have o1 : nxc (pl s) w = -1 ∨ b' (180 + nxc (pl s) w) = 1 := Or.inl hn
    have o2 : nxc (pl s) w = -1 ∨ b (180 + nxc (pl s) w) = 1 := Or.inl hn
    simp only [if_pos o1, if_pos o2]; exact ⟨rfl, rfl, rfl, h4⟩
  obtain ⟨c1, c2⟩ := hc (by omega) hn
  rw [c1]
  by_cases h5 : b (180 + nxc (pl s) w) = 1
  · have o2 : nxc (pl s) w = -1 ∨ b (180 + nxc (pl s) w) = 1 := Or.inr h5
    simp only [if_pos o2]; exact ⟨rfl, rfl, rfl, h4⟩
  have o2 : ¬ (nxc (pl s) w = -1 ∨ b (180 + nxc (pl s) w) = 1) := by omega
  simp only [if_neg o2]
  rcases sAt_cases pl (b 0) (nxc (pl s) w) with ⟨o1, o3⟩ | ⟨o1, o3, o4⟩
  · simp only [if_pos o1, c2 h5 o1]
    refine ⟨rfl, rfl, rfl, fun t a c => ?_⟩
    simp only
    by_cases q : t = s
    · subst q; rw [ufn_s, ufn_s]
    · rw [ufn_o q, ufn_o q]; exact h4 t a c
  · have hon : sAt pl (b 0) (nxc (pl s) w) ≠ -1 := by omega
    simp only [if_neg hon]
    have q := hnd _ o1 o3
    by_cases e : ndS b (sAt pl (b 0) (nxc (pl s) w)) w ≤ p
    · have e' := q.mpr e
      simp only [if_pos e, if_pos e']; exact ⟨rfl, rfl, rfl, h4⟩
    · have e' := fun z => e (q.mp z)
      simp only [if_neg e, if_neg e']; exact ⟨rfl, rfl, rfl, h4⟩
theorem rit_g {b b' : Int → Int} {p nt p' nt' : Int} {C : (Int → Int) → LG → Prop} {hit : LG → Prop} (hb : 0 ≤ b 0 ∧ b 0 ≤ 6) (Hst : ∀ x y, VX b x → sm (b 0) x y → C x.2.2.2.1 x.2.2.2.2.1 → ¬ hit (rst b p nt x).2.2.2.2.1 → sm (b 0) (rst b p nt x) (rst b' p' nt' y) ∧ C (rst b p nt x).2.2.2.1 (rst b p nt x).2.2.2.2.1) (Hm : ∀ x, VX b x → hit x.2.2.2.2.1 → hit (rst b p nt x).2.2.2.2.1) :
    ∀ (k : Nat) (x y : RS), VX b x → sm (b 0) x y → C x.2.2.2.1 x.2.2.2.2.1 → ¬ hit (rit b p nt k x).2.2.2.2.1 → sm (b 0) (rit b p nt k x) (rit b' p' nt' k y) ∧ C (rit b p nt k x).2.2.2.1 (rit b p nt k x).2.2.2.2.1 := by
  intro k
  induction k with
  | zero => intro x y _ h1 h2 _; exact ⟨h1, h2⟩
  | succ k ih =>
    intro x y hV h1 h2 hn
    have hV2 := (rst_vx (p := p) (nt := nt) hb hV).1
    have hn2 : ¬ hit (rst b p nt x).2.2.2.2.1 := fun q => hn (rit_P (P := fun _ g => hit g) hb Hm k _ hV2 q)
    obtain ⟨g1, g2⟩ := Hst x y hV h1 h2 hn2
    exact ih _ _ hV2 g1 g2 hn
theorem nightF_g {b b' : Int → Int} {p nt p' nt' w : Int} {C : (Int → Int) → LG → Prop} {hit : LG → Prop} (hb : 0 ≤ b 0 ∧ b 0 ≤ 6) (hw : 0 ≤ w ∧ w < 4) (hwt : ∀ s, 0 ≤ s → s < b 0 → 1 ≤ b (6 + 3 * s) ∧ b (6 + 3 * s) ≤ 99) (Hst : ∀ x y, VX b x → sm (b 0) x y → C x.2.2.2.1 x.2.2.2.2.1 → ¬ hit (rst b p nt x).2.2.2.2.1 → sm (b 0) (rst b p nt x) (rst b' p' nt' y) ∧ C (rst b p nt x).2.2.2.1 (rst b p nt x).2.2.2.2.1) (Hm : ∀ x, VX b x → hit x.2.2.2.2.1 → hit (rst b p nt x).2.2.2.2.1) (Hs : ∀ s, 0 ≤ s → s < b 0 → stb b' s w p' = stb b s w p) {x y : WS} (hP : PL (b 0) x.1) (hxy : ∀ t, 0 ≤ t → t < b 0 → x.1 t = y.1 t) (hC : C x.1 x.2.1) :
    ∀ k : Nat, (k : Int) ≤ b 0 → ¬ hit (nightF b p nt w x k).2.1 → (∀ t, 0 ≤ t → t < b 0 → (nightF b p nt w x k).1 t = (nightF b' p' nt' w y k).1 t) ∧ C (nightF b p nt w x k).1 (nightF b p nt w x k).2.1 := by
  intro k
  induction k with
  | zero => intro _ _; exact ⟨hxy, hC⟩
  | succ k ih =>
    intro hk hn
    have h2 := nightF_ok (p := p) (nt := nt) hb hw hwt hP k (by omega)
    have ek : ((k + 1 : Nat) : Int) = (k : Int) + 1 := by omega
    have e1 := nightF_s (b := b) (p := p) (nt := nt) (w := w) (x := x) (n := (k : Int)) (by omega)
    have e2 := nightF_s (b := b') (p := p') (nt := nt') (w := w) (x := y) (n := (k : Int)) (by omega)
    rw [ek, e1] at hn
    rw [ek, e1, e2]
    by_cases e : (nightF b p nt w x k).1 k = -1
    · rw [if_pos e] at hn
      obtain ⟨g1, g2⟩ := ih (by omega) hn
      have e' : (nightF b' p' nt' w y k).1 k = -1 := by rw [← g1 k (by omega) (by omega)]; exact e
      rw [if_pos e, if_pos e']
      exact ⟨g1, g2⟩
    · rw [if_neg e] at hn
      unfold rollS at hn
      have hV : VX b ((k : Int), w, stb b k w p, nightF b p nt w x k) := ⟨⟨by simp only; omega, by simp only; omega, e⟩, hw, stb_rg (hwt k (by omega) (by omega)), h2.1⟩
      have hn2 : ¬ hit (nightF b p nt w x k).2.1 := fun q => hn (rit_P (P := fun _ g => hit g) hb Hm 60 _ hV q)
      obtain ⟨g1, g2⟩ := ih (by omega) hn2
      have e' : ¬ (nightF b' p' nt' w y k).1 k = -1 := by rw [← g1 k (by omega) (by omega)]; exact e
      rw [if_neg e, if_neg e']
      unfold rollS
      have g := rit_g hb Hst Hm 60 ((k : Int), w, stb b k w p, nightF b p nt w x k) ((k : Int), w, stb b' k w p', nightF b' p' nt' w y k) hV ⟨rfl, rfl, (Hs k (by omega) (by omega)).symm, g1⟩ g2 hn
      exact ⟨g.1.2.2.2, g.2⟩
theorem wgo_g {b b' wy ps wy' ps' : Int → Int} {f f' : Int} {C : (Int → Int) → LG → Prop} {hit : LG → Prop} {pl pl' : Int → Int} {lg lg' : LG} (hb : 0 ≤ b 0 ∧ b 0 ≤ 6) (hb0 : b' 0 = b 0) (hwt : ∀ s, 0 ≤ s → s < b 0 → 1 ≤ b (6 + 3 * s) ∧ b (6 + 3 * s) ≤ 99) (hP : PL (b 0) pl) (hpl : ∀ t, 0 ≤ t → t < b 0 → pl t = pl' t) (hC : C pl lg) :
    ∀ k : Nat, (∀ i, 0 ≤ i → i < (k : Int) → (0 ≤ wy (f + i) ∧ wy (f + i) < 4) ∧ wy' (f' + i) = wy (f + i) ∧ (∀ x y, VX b x → sm (b 0) x y → C x.2.2.2.1 x.2.2.2.2.1 → ¬ hit (rst b (ps (f + i)) (f + i) x).2.2.2.2.1 → sm (b 0) (rst b (ps (f + i)) (f + i) x) (rst b' (ps' (f' + i)) (f' + i) y) ∧ C (rst b (ps (f + i)) (f + i) x).2.2.2.1 (rst b (ps (f + i)) (f + i) x).2.2.2.2.1) ∧ (∀ x, VX b x → hit x.2.2.2.2.1 → hit (rst b (ps (f + i)) (f + i) x).2.2.2.2.1) ∧ (∀ s, 0 ≤ s → s < b 0 → stb b' s (wy (f + i)) (ps' (f' + i)) = stb b s (wy (f + i)) (ps (f + i)))) → ¬ hit (wgo b wy ps f pl lg k).2 → (∀ t, 0 ≤ t → t < b 0 → (wgo b wy ps f pl lg k).1 t = (wgo b' wy' ps' f' pl' lg' k).1 t) ∧ C (wgo b wy ps f pl lg k).1 (wgo b wy ps f pl lg k).2 := by
  intro k
  induction k with
  | zero => intro _ _; exact ⟨hpl, hC⟩
  | succ k ih =>
    intro hi hn
    obtain ⟨i1, i2, i3, i4, i5⟩ := hi k (by omega) (by omega)
    have h2 := wgo_ok (wy := wy) (ps := ps) (f := f) (pl := pl) (lg := lg) hb hwt hP k (fun i a c => (hi i a (by omega)).1)
    have ek : ((k + 1 : Nat) : Int) = (k : Int) + 1 := by omega
    have e1 := wgo_s (b := b) (wy := wy) (ps := ps) (f := f) (pl := pl) (lg := lg) (m := (k : Int)) (by omega)
    have e2 := wgo_s (b := b') (wy := wy') (ps := ps') (f := f') (pl := pl') (lg := lg') (m := (k : Int)) (by omega)
    rw [ek, e1] at hn
    rw [ek, e1, e2, i2, hb0]
    simp only at hn ⊢
    have q := nightF_P (p := ps (f + k)) (nt := f + k) (w := wy (f + k)) (x := ((wgo b wy ps f pl lg k).1, (wgo b wy ps f pl lg k).2, 0)) (P := fun _ g => hit g) hb i1 hwt h2.1 i4
    have hn2 : ¬ hit (wgo b wy ps f pl lg k).2 := fun z => hn (by
      have q2 := q z (b 0).toNat (by omega)
      rw [Int.toNat_of_nonneg hb.1] at q2
      exact q2)
    obtain ⟨g1, g2⟩ := ih (fun i a c => hi i a (by omega)) hn2
    have g := nightF_g (x := ((wgo b wy ps f pl lg k).1, (wgo b wy ps f pl lg k).2, 0)) (y := ((wgo b' wy' ps' f' pl' lg' k).1, (wgo b' wy' ps' f' pl' lg' k).2, 0)) hb i1 hwt i3 i4 i5 h2.1 g1 g2 (b 0).toNat (by omega)
    rw [Int.toNat_of_nonneg hb.1] at g
    exact g hn
/-- a step leads to c -/
def hitS (c : Int) (lg : LG) : Prop := ∃ j, 0 ≤ j ∧ j < lg.1 ∧ nxc (lg.2 j).2.1 (lg.2 j).2.2.1 = c
theorem hit_mono {b : Int → Int} {p nt c : Int} (x : RS) (h : hitS c x.2.2.2.2.1) : hitS c (rst b p nt x).2.2.2.2.1 := by
  obtain ⟨s, w, l, pl, ⟨cnt, lf⟩, mt⟩ := x
  simp only at h
  simp only [rst]
  split
  · exact h
  split
  · exact h
  split
  · obtain ⟨j, a, d, e⟩ := h
    simp only at d e
    exact ⟨j, a, by simp only; omega, by simp only; rw [ufn_o (by omega)]; exact e⟩
  split
  · exact h
  · exact h
/-- a roll's step into an empty cell is in the log -/
theorem hit_new {b : Int → Int} {p nt : Int} {x : RS} (h0 : 0 ≤ x.2.2.2.2.1.1) (hl : 0 < x.2.2.1) (hn : nxc (x.2.2.2.1 x.1) x.2.1 ≠ -1) (hs : b (180 + nxc (x.2.2.2.1 x.1) x.2.1) ≠ 1) (ha : sAt x.2.2.2.1 (b 0) (nxc (x.2.2.2.1 x.1) x.2.1) = -1) : hitS (nxc (x.2.2.2.1 x.1) x.2.1) (rst b p nt x).2.2.2.2.1 := by
  obtain ⟨s, w, l, pl, ⟨cnt, lf⟩, mt⟩ := x
  simp only at h0 hl hn hs ha
  have hr : rst b p nt (s, w, l, pl, (cnt, lf), mt) = (s, trn w (b (32 + nxc (pl s) w)), if b (32 + nxc (pl s) w) = 3 then 0 else l - 1, ufn pl s (nxc (pl s) w), (cnt + 1, ufn lf cnt (s, pl s, w, nt)), mt) := by
    simp only [rst]; rw [if_neg (by omega), if_neg (by omega), if_pos ha]
  rw [hr]
  exact ⟨cnt, h0, by simp only; omega, by simp only [ufn_s]⟩
theorem rst_pl {b : Int → Int} {p nt c : Int} {x : RS} (hV : VX b x) (h0 : 0 ≤ x.2.2.2.2.1.1) (hC : ∀ t, 0 ≤ t → t < b 0 → x.2.2.2.1 t ≠ c) (hn : ¬ hitS c (rst b p nt x).2.2.2.2.1) : ∀ t, 0 ≤ t → t < b 0 → (rst b p nt x).2.2.2.1 t ≠ c := by
  by_cases hq : 0 < x.2.2.1 ∧ nxc (x.2.2.2.1 x.1) x.2.1 ≠ -1 ∧ b (180 + nxc (x.2.2.2.1 x.1) x.2.1) ≠ 1 ∧ sAt x.2.2.2.1 (b 0) (nxc (x.2.2.2.1 x.1) x.2.1) = -1
  · have h1 := hit_new (p := p) (nt := nt) h0 hq.1 hq.2.1 hq.2.2.1 hq.2.2.2
    have hne : nxc (x.2.2.2.1 x.1) x.2.1 ≠ c := fun z => hn (by rw [z] at h1; exact h1)
    obtain ⟨s, w, l, pl, ⟨cnt, lf⟩, mt⟩ := x
    simp only at hq hne hC
    intro t a d
    simp only [rst]
    rw [if_neg (by omega), if_neg (by omega), if_pos hq.2.2.2]
    simp only
    by_cases q : t = s
    · subst q; rw [ufn_s]; exact hne
    · rw [ufn_o q]; exact hC t a d
  · obtain ⟨s, w, l, pl, ⟨cnt, lf⟩, mt⟩ := x
    simp only at hq hC
    intro t a d
    simp only [rst]
    split
    · exact hC t a d
    rename_i z1
    split
    · exact hC t a d
    rename_i z2
    split
    · rename_i z3
      exact absurd ⟨by omega, fun z => z2 (Or.inl z), fun z => z2 (Or.inr z), z3⟩ hq
    split
    · exact hC t a d
    · exact hC t a d
/-- a book with a stake put into c, with a fence of a kind put into c -/
def stk (b : Int → Int) (c : Int) : Int → Int := fun i => if i = 180 + c then 1 else b i
def fnc (b : Int → Int) (c k : Int) : Int → Int := fun i => if i = 32 + c then k else b i
theorem stk_o {b : Int → Int} {c i : Int} (h : i ≠ 180 + c) : stk b c i = b i := by unfold stk; rw [if_neg h]
theorem fnc_o {b : Int → Int} {c k i : Int} (h : i ≠ 32 + c) : fnc b c k i = b i := by unfold fnc; rw [if_neg h]
theorem stk_at {b : Int → Int} {c : Int} : stk b c (180 + c) = 1 := by unfold stk; rw [if_pos rfl]
theorem fnc_at {b : Int → Int} {c k : Int} : fnc b c k (32 + c) = k := by unfold fnc; rw [if_pos rfl]
theorem stb_c {b b' : Int → Int} {s w p : Int} (h1 : b' (4 + 3 * s) = b (4 + 3 * s)) (h2 : b' (6 + 3 * s) = b (6 + 3 * s)) : stb b' s w p = stb b s w p := by
  unfold stb; rw [ndS_c h1 h2, h2]
theorem vx_nx {b : Int → Int} {x : RS} (hV : VX b x) : -1 ≤ nxc (x.2.2.2.1 x.1) x.2.1 ∧ nxc (x.2.2.2.1 x.1) x.2.1 < 144 := by
  have hs := hV.1
  have q := hV.2.2.2.1 x.1 hs.1 hs.2.1
  exact nxc_rg (by omega) (by omega)
theorem Wk_stk {b : Int → Int} {c k : Int} (hB : BK b) (hc : 0 ≤ c ∧ c < 144) (h0 : b (180 + c) = 0) (hnf : ∀ s, 0 ≤ s → s < b 0 → b (5 + 3 * s) ≠ c) (hk : 0 ≤ k ∧ k ≤ 20) (hn : ¬ hitS c (Wk b k).2) : ∀ t, 0 ≤ t → t < b 0 → (Wk b k).1 t = (Wk (stk b c) k).1 t := by
  have hb := hB.1
  have g := wgo_g (b := b) (b' := stk b c) (wy := wyB b) (ps := psB b) (wy' := wyB (stk b c)) (ps' := psB (stk b c)) (f := 0) (f' := 0) (C := fun pl lg => 0 ≤ lg.1 ∧ ∀ t, 0 ≤ t → t < b 0 → pl t ≠ c) (hit := hitS c) (pl := pl0 b) (pl' := pl0 (stk b c)) (lg := lg0) (lg' := lg0) hB.1 (stk_o (by omega)) (BK_wt hB) (by rw [← plO_n]; exact PLO hB (-1)) (fun t a d => by unfold pl0; rw [stk_o (by omega)]) ⟨Int.le_refl _, hnf⟩ k.toNat (by
    intro i a d
    rw [show (0 : Int) + i = i by omega]
    have e1 : wyB (stk b c) i = wyB b i := by unfold wyB; rw [stk_o (by omega)]
    have e2 : psB (stk b c) i = psB b i := by unfold psB; rw [stk_o (by omega), stk_o (by omega)]
    refine ⟨BK_wy hB i a (by omega), e1, fun x y hV hxy hC hh => ?_, fun x _ h => hit_mono x h, fun s a2 d2 => ?_⟩
    · rw [e2]
      have hr := rst_vx (p := psB b i) (nt := i) hB.1 hV
      have hx := vx_nx hV
      refine ⟨rst_sm hV hxy (stk_o (by omega)) (fun s a2 d2 => by rw [ndS_c (stk_o (by omega)) (stk_o (by omega))]) (fun hl hnx => ?_), by have := hr.2.2.2.1; have := hC.1; omega, rst_pl hV hC.1 hC.2 hh⟩
      by_cases z : nxc (x.2.2.2.1 x.1) x.2.1 = c
      · exfalso
        rcases sAt_cases x.2.2.2.1 (b 0) (nxc (x.2.2.2.1 x.1) x.2.1) with ⟨o1, o2⟩ | ⟨o1, o2, o3⟩
        · have h1 := hit_new (p := psB b i) (nt := i) hC.1 hl hnx (by rw [z, h0]; decide) o1
          rw [z] at h1
          exact hh h1
        · exact hC.2 _ o1 o2 (o3.trans z)
      · exact ⟨stk_o (by omega), fun _ _ => stk_o (by omega)⟩
    · rw [e2]; exact stb_c (stk_o (by omega)) (stk_o (by omega)))
  rw [Int.toNat_of_nonneg hk.1] at g
  exact (g hn).1
theorem Wk_fnc {b : Int → Int} {c kd k : Int} (hB : BK b) (hc : 0 ≤ c ∧ c < 144) (hk : 0 ≤ k ∧ k ≤ 20) (hn : ¬ hitS c (Wk b k).2) : ∀ t, 0 ≤ t → t < b 0 → (Wk b k).1 t = (Wk (fnc b c kd) k).1 t := by
  have hb := hB.1
  have g := wgo_g (b := b) (b' := fnc b c kd) (wy := wyB b) (ps := psB b) (wy' := wyB (fnc b c kd)) (ps' := psB (fnc b c kd)) (f := 0) (f' := 0) (C := fun _ lg => 0 ≤ lg.1) (hit := hitS c) (pl := pl0 b) (pl' := pl0 (fnc b c kd)) (lg := lg0) (lg' := lg0) hB.1 (fnc_o (by omega)) (BK_wt hB) (by rw [← plO_n]; exact PLO hB (-1)) (fun t a d => by unfold pl0; rw [fnc_o (by omega)]) (Int.le_refl _) k.toNat (by
    intro i a d
    rw [show (0 : Int) + i = i by omega]
    have e1 : wyB (fnc b c kd) i = wyB b i := by unfold wyB; rw [fnc_o (by omega)]
    have e2 : psB (fnc b c kd) i = psB b i := by unfold psB; rw [fnc_o (by omega), fnc_o (by omega)]
    refine ⟨BK_wy hB i a (by omega), e1, fun x y hV hxy hC hh => ?_, fun x _ h => hit_mono x h, fun s a2 d2 => ?_⟩
    · rw [e2]
      have hr := rst_vx (p := psB b i) (nt := i) hB.1 hV
      have hx := vx_nx hV
      refine ⟨rst_sm hV hxy (fnc_o (by omega)) (fun s a2 d2 => by rw [ndS_c (fnc_o (by omega)) (fnc_o (by omega))]) (fun hl hnx => ⟨fnc_o (by omega), fun h1 h2 => ?_⟩), by have := hr.2.2.2.1; omega⟩
      by_cases z : nxc (x.2.2.2.1 x.1) x.2.1 = c
      · exfalso
        have h3 := hit_new (p := psB b i) (nt := i) hC hl hnx h1 h2
        rw [z] at h3
        exact hh h3
      · exact fnc_o (by omega)
    · rw [e2]; exact stb_c (fnc_o (by omega)) (fnc_o (by omega)))
  rw [Int.toNat_of_nonneg hk.1] at g
  exact (g hn).1
