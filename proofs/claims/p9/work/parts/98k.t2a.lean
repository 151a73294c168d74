/-! the rest of the relation: what HE KNOWS, COSTS, posts, THE TEXT; a post's codes go alike in both -/
def letL (f : Nat) : Nat := if f = 0 then 105 else if f = 1 then 107 else if f = 2 then 114 else if f = 3 then 118 else if f = 4 then 99 else if f = 5 then 121 else 119
/-- a code of the reference and the class's -/
def CRq (x y : Int32) : Prop := (x = -33 ∧ y = 33) ∨ (x = -38 ∧ y = 38) ∨ (x = -124 ∧ y = 124) ∨ ∃ f s d, f ≤ 6 ∧ s ≤ 2 ∧ d ≤ 99 ∧ x = nI (1000 * f + 100 * s + d) ∧ y = nI (letL f + 256 * (60 + s) + 65536 * d)
set_option maxRecDepth 100000 in
theorem cr_y : ∀ f, f ≤ 6 → ∀ s, s ≤ 2 → ∀ d, d ≤ 99 → (nI (letL f + 256 * (60 + s) + 65536 * d) &&& 255 = nI (letL f) ∧ (nI (letL f + 256 * (60 + s) + 65536 * d) >>> (8 &&& 31)) &&& 255 = nI (60 + s) ∧ nI (letL f + 256 * (60 + s) + 65536 * d) >>> (16 &&& 31) = nI d) := by decide +kernel
set_option maxRecDepth 100000 in
theorem cr_x : ∀ f, f ≤ 6 → ∀ s, s ≤ 2 → ∀ d, d ≤ 99 → (nI (1000 * f + 100 * s + d) / 1000 = nI f ∧ remI (nI (1000 * f + 100 * s + d) / 100) 10 = nI s ∧ remI (nI (1000 * f + 100 * s + d)) 100 = nI d) := by decide +kernel
theorem nI_neL {a b : Nat} (ha : a < 2 ^ 31) (hb : b < 2 ^ 31) (h : a ≠ b) : ¬ nI a = nI b := fun z => h ((nI_eq ha hb).mp z)
theorem f7 {f : Nat} (hf : f ≤ 6) : f = 0 ∨ f = 1 ∨ f = 2 ∨ f = 3 ∨ f = 4 ∨ f = 5 ∨ f = 6 := by omega
theorem knd_e : ∀ x, x ≤ 6 → knd (kcl (nI x)) = nI x := by decide
/-- the fact that a code asks of is the same -/
theorem fact_e {E : It} {L : Nat → Int64} {I : It} {h : Ht} (hE : Inv E) (hY : RY E L I h) {d : Nat} (hd : d < cnt E) {f s n : Nat} (hf : f ≤ 6) (hs2 : s ≤ 2) (hn : n ≤ 99) (y w : Int32) :
    factC I h (dn h d) (nI (letL f + 256 * (60 + s) + 65536 * n)) y w = factF E (nI f) d y w := by
  obtain ⟨g1, g2, g3, g4, g5, g6, g7, g8, g9, g10⟩ := hY.d hd
  obtain ⟨⟨x, hx, ex⟩, -⟩ := inv_d hE hd
  have hk : knd (hs h (dn h d)).1 = E 1 d := by rw [g4, ex]; exact knd_e x hx
  unfold factC
  rw [(cr_y f hf s hs2 n hn).1, g5, g6, g7, g9, hk]
  rcases f7 hf with rfl | rfl | rfl | rfl | rfl | rfl | rfl <;> rfl
theorem test_e {E : It} {L : Nat → Int64} {I : It} {h : Ht} (hE : Inv E) (hY : RY E L I h) {d : Nat} (hd : d < cnt E) {f s n : Nat} (hf : f ≤ 6) (hs2 : s ≤ 2) (hn : n ≤ 99) (y w : Int32) :
    psC I h (dn h d) (nI (letL f + 256 * (60 + s) + 65536 * n)) y w = b2 (testF E (nI (1000 * f + 100 * s + n)) d y w) := by
  have hfa := fact_e hE hY hd hf hs2 hn y w
  obtain ⟨-, c2, c3⟩ := cr_y f hf s hs2 n hn
  obtain ⟨x1, x2, x3⟩ := cr_x f hf s hs2 n hn
  unfold psC testF
  rw [c2, c3, hfa, x1, x2, x3, b2_bI]
  rcases (by omega : s = 0 ∨ s = 1 ∨ s = 2) with rfl | rfl | rfl
  · rw [if_pos (by decide), if_pos (show nI 0 = 0 from rfl)]
    exact bI_iff decide_eq_true_iff.symm
  · rw [if_neg (by decide), if_pos (by decide), if_neg (show ¬ nI 1 = 0 by decide), if_pos (show nI 1 = 1 from rfl)]
    exact bI_iff decide_eq_true_iff.symm
  · rw [if_neg (by decide), if_neg (by decide), if_neg (show ¬ nI 2 = 0 by decide), if_neg (show ¬ nI 2 = 1 by decide)]
    exact bI_iff decide_eq_true_iff.symm
/-! the pile of answers as bits -/
def gb (b : Int32) (i : Nat) : Bool := b.toBitVec.getLsbD i
def BS (b : Int32) (s : List Bool) : Prop := ∀ i, i < s.length → gb b i = s.getD i false
theorem gb_xor (a b : Int32) (i : Nat) : gb (a ^^^ b) i = (gb a i ^^ gb b i) := by unfold gb; rw [Int32.toBitVec_xor, BitVec.getLsbD_xor]
theorem gb_or (a b : Int32) (i : Nat) : gb (a ||| b) i = (gb a i || gb b i) := by unfold gb; rw [Int32.toBitVec_or, BitVec.getLsbD_or]
theorem gb_and (a b : Int32) (i : Nat) : gb (a &&& b) i = (gb a i && gb b i) := by unfold gb; rw [Int32.toBitVec_and, BitVec.getLsbD_and]
theorem gb_sr (b : Int32) {i : Nat} (hi : i < 31) : gb (b >>> (1 &&& 31)) i = gb b (i + 1) := by
  unfold gb
  rw [show (1 &&& 31 : Int32) = 1 by decide, Int32.toBitVec_shiftRight]
  rw [show (1 : Int32).toBitVec.smod 32 = 1#32 by decide, BitVec.sshiftRight_eq', show (1#32 : BitVec 32).toNat = 1 by decide, BitVec.getLsbD_sshiftRight]
  rw [show decide (32 ≤ i) = false by simp; omega, if_pos (by omega), Nat.add_comm]
  rfl
theorem gb_sl (b : Int32) {i : Nat} (hi : i < 32) : gb (b <<< (1 &&& 31)) i = (decide (0 < i) && gb b (i - 1)) := by
  unfold gb
  rw [show (1 &&& 31 : Int32) = 1 by decide, Int32.toBitVec_shiftLeft]
  rw [show (1 : Int32).toBitVec.smod 32 = 1#32 by decide, BitVec.shiftLeft_eq', show (1#32 : BitVec 32).toNat = 1 by decide, BitVec.getLsbD_shiftLeft]
  rw [show decide (i < 32) = true by simp; omega]
  cases i with
  | zero => rfl
  | succ i => simp
theorem gb_1 : ∀ i, i < 32 → gb 1 i = decide (i = 0) := by decide
theorem gb_m2 : ∀ i, i < 32 → gb (-2) i = decide (0 < i) := by decide
theorem gb_0 : ∀ i, i < 32 → gb 0 i = false := by decide
theorem gb_b2 (x : Bool) {i : Nat} (hi : i < 32) : gb (b2 x) i = (decide (i = 0) && x) := by
  cases x
  · rw [show b2 false = 0 from rfl, gb_0 i hi]; simp
  · rw [show b2 true = 1 from rfl, gb_1 i hi]; simp
theorem BS.top {b : Int32} {x : Bool} {r : List Bool} (h : BS b (x :: r)) : gb b 0 = x := h 0 (by simp)
theorem BS.head {b : Int32} {s : List Bool} (h : BS b s) (hl : s.length = 1) : (b &&& 1 ≠ 0) ↔ s.headD false = true := by
  obtain ⟨x, rfl⟩ : ∃ x, s = [x] := by
    match s, hl with
    | [x], _ => exact ⟨x, rfl⟩
  have h0 := h.top
  show (b &&& 1 ≠ 0) ↔ x = true
  rw [← h0]
  constructor
  · intro z
    cases e : gb b 0 with
    | true => rfl
    | false =>
      refine absurd ?_ z
      apply Int32.toBitVec.inj
      apply BitVec.eq_of_getLsbD_eq
      intro i hi
      show gb (b &&& 1) i = gb 0 i
      rw [gb_and, gb_1 i hi, gb_0 i hi]
      by_cases e0 : i = 0
      · subst e0; rw [e]; rfl
      · simp [e0]
  · intro z e
    have h1 : gb (b &&& 1) 0 = true := by rw [gb_and, z]; rfl
    rw [e] at h1
    exact absurd h1 (by decide)
theorem BS.bang {b : Int32} {x : Bool} {r : List Bool} (hl : r.length ≤ 30) (h : BS b (x :: r)) : BS (b ^^^ 1) ((!x) :: r) := by
  intro i hi
  simp only [List.length_cons] at hi
  rw [gb_xor, gb_1 i (by omega)]
  have := h i (by simpa using hi)
  cases i with
  | zero => rw [this]; simp
  | succ i => rw [this]; simp
theorem BS.and {b : Int32} {x y : Bool} {r : List Bool} (hl : r.length ≤ 29) (h : BS b (x :: y :: r)) : BS (b >>> (1 &&& 31) &&& (b ||| -2)) ((y && x) :: r) := by
  intro i hi
  simp only [List.length_cons] at hi
  rw [gb_and, gb_sr b (by omega), gb_or, gb_m2 i (by omega)]
  have h1 := h (i + 1) (by simp only [List.length_cons]; omega)
  have h0 := h 0 (by simp)
  cases i with
  | zero => rw [h1, h0]; simp
  | succ i => rw [h1]; simp
theorem BS.or {b : Int32} {x y : Bool} {r : List Bool} (hl : r.length ≤ 29) (h : BS b (x :: y :: r)) : BS (b >>> (1 &&& 31) ||| b &&& 1) ((y || x) :: r) := by
  intro i hi
  simp only [List.length_cons] at hi
  rw [gb_or, gb_sr b (by omega), gb_and, gb_1 i (by omega)]
  have h1 := h (i + 1) (by simp only [List.length_cons]; omega)
  have h0 := h 0 (by simp)
  cases i with
  | zero => rw [h1, h0]; simp
  | succ i => rw [h1]; simp
theorem BS.push {b : Int32} {x : Bool} {s : List Bool} (hl : s.length ≤ 30) (h : BS b s) : BS (b <<< (1 &&& 31) ||| b2 x) (x :: s) := by
  intro i hi
  simp only [List.length_cons] at hi
  rw [gb_or, gb_sl b (by omega), gb_b2 x (by omega)]
  cases i with
  | zero => simp
  | succ i =>
    have h1 := h i (by omega)
    simp [h1]
/-! codes in a list: the deepest pile, what they come to -/
def dpB : List Int32 → Nat → Option Nat := fun l => match l with
  | [] => fun n => some n
  | x :: r => fun n => match depR x n with
    | none => none
    | some m => if 30 < m then none else dpB r m
theorem dpB_c (x : Int32) (r : List Int32) (n : Nat) : dpB (x :: r) n = (match depR x n with
    | none => none
    | some m => if 30 < m then none else dpB r m) := rfl
theorem dpB_app {x : Int32} : ∀ {l : List Int32} {n m k : Nat}, dpB l n = some m → depR x m = some k → k ≤ 30 → dpB (l ++ [x]) n = some k := by
  intro l
  induction l with
  | nil =>
    intro n m k h h2 h3
    cases h
    show dpB [x] n = _
    rw [dpB_c, h2]
    show (if 30 < k then none else some k) = some k
    rw [if_neg (by omega)]
  | cons y r ih =>
    intro n m k h h2 h3
    rw [List.cons_append, dpB_c]
    rw [dpB_c] at h
    cases e : depR y n with
    | none => rw [e] at h; cases h
    | some q =>
      rw [e] at h
      show (if 30 < q then none else dpB (r ++ [x]) q) = some k
      replace h : (if 30 < q then none else dpB r q) = some m := h
      by_cases hq : 30 < q
      · rw [if_pos hq] at h; cases h
      · rw [if_neg hq] at h ⊢; exact ih h h2 h3
def evL (E : It) (i : Nat) (y w : Int32) : List Int32 → List Bool → List Bool := fun l => match l with
  | [] => fun s => s
  | x :: r => fun s => evL E i y w r (stepR E i y w x s)
theorem evL_c (E : It) (i : Nat) (y w x : Int32) (r : List Int32) (s : List Bool) : evL E i y w (x :: r) s = evL E i y w r (stepR E i y w x s) := rfl
theorem evalR_L {E : It} {i : Nat} {y w : Int32} : ∀ (cs : List Int32) (fr : Nat) (s : List Bool), CD fr E cs → evalR E i y w cs.length fr s = evL E i y w cs s := by
  intro cs
  induction cs with
  | nil => intro fr s _; rfl
  | cons x r ih =>
    intro fr s hc
    have e0 : E 15 fr = x := hc 0 (by simp)
    rw [List.length_cons, evalR_s, evL_c, e0]
    refine ih (fr + 1) _ (fun i hi => ?_)
    have := hc (i + 1) (by simp only [List.length_cons]; omega)
    rw [show fr + (i + 1) = fr + 1 + i by omega] at this
    rw [this]
    simp
/-- class's codes from fr on are those of the list -/
def CC2 (fr : Nat) (f : Nat → Int32) (cs : List Int32) : Prop := ∀ i, i < cs.length → CRq (cs.getD i 0) (f (fr + i))
/-- one code -/
theorem st_e {E : It} {L : Nat → Int64} {I : It} {h : Ht} (hE : Inv E) (hY : RY E L I h) {d : Nat} (hd : d < cnt E) {y w x t b : Int32} {s : List Bool} {m : Nat} (hc : CRq x t) (hb : BS b s) (hs : s.length ≤ 30) (hm : depR x s.length = some m) (hm30 : m ≤ 30) : BS (stC I h (dn h d) y w t b) (stepR E d y w x s) ∧ (stepR E d y w x s).length = m := by
  rcases hc with ⟨rfl, rfl⟩ | ⟨rfl, rfl⟩ | ⟨rfl, rfl⟩ | ⟨f, z, n, hf, hz, hn, rfl, rfl⟩
  · cases s with
    | nil => exact absurd (show (none : Option Nat) = some m from hm) (by simp)
    | cons a r =>
      simp only [List.length_cons] at hs hm
      rw [show depR (-33) (r.length + 1) = some (r.length + 1) from dep_b _] at hm
      cases hm
      refine ⟨?_, ?_⟩
      · show BS (if (33 : Int32) = 33 then b ^^^ 1 else _) ((!a) :: r)
        rw [if_pos rfl]
        exact hb.bang (by omega)
      · show ((!a) :: r).length = _
        simp
  · cases s with
    | nil => exact absurd (show (none : Option Nat) = some m from hm) (by simp)
    | cons a r =>
      cases r with
      | nil => exact absurd (show (none : Option Nat) = some m from hm) (by simp)
      | cons c q =>
        simp only [List.length_cons] at hs hm
        rw [show depR (-38) (q.length + 1 + 1) = some (q.length + 1) from dep_o (Or.inl rfl) _] at hm
        cases hm
        have e : stepR E d y w (-38) (a :: c :: q) = (c && a) :: q := rfl
        rw [e]
        refine ⟨?_, by simp⟩
        show BS (if (38 : Int32) = 33 then _ else if (38 : Int32) = 38 then b >>> (1 &&& 31) &&& (b ||| -2) else _) _
        rw [if_neg (by decide), if_pos rfl]
        exact hb.and (by omega)
  · cases s with
    | nil => exact absurd (show (none : Option Nat) = some m from hm) (by simp)
    | cons a r =>
      cases r with
      | nil => exact absurd (show (none : Option Nat) = some m from hm) (by simp)
      | cons c q =>
        simp only [List.length_cons] at hs hm
        rw [show depR (-124) (q.length + 1 + 1) = some (q.length + 1) from dep_o (Or.inr rfl) _] at hm
        cases hm
        have e : stepR E d y w (-124) (a :: c :: q) = (c || a) :: q := rfl
        rw [e]
        refine ⟨?_, by simp⟩
        show BS (if (124 : Int32) = 33 then _ else if (124 : Int32) = 38 then _ else if (124 : Int32) = 124 then b >>> (1 &&& 31) ||| b &&& 1 else _) _
        rw [if_neg (by decide), if_neg (by decide), if_pos rfl]
        exact hb.or (by omega)
  · rw [dep_t (by omega)] at hm
    cases hm
    have n1 : ¬ nI (1000 * f + 100 * z + n) = -33 := fun q => nI_pos (n := 1000 * f + 100 * z + n) (by omega) (by rw [q]; decide)
    have n2 : ¬ nI (1000 * f + 100 * z + n) < 0 := nI_pos (by omega)
    have e : stepR E d y w (nI (1000 * f + 100 * z + n)) s = testF E (nI (1000 * f + 100 * z + n)) d y w :: s := by
      unfold stepR
      rw [if_neg n1, if_neg n2]
    rw [e]
    refine ⟨?_, by simp⟩
    have hl : letL f ≤ 121 := by rcases f7 hf with rfl | rfl | rfl | rfl | rfl | rfl | rfl <;> decide
    have hK : ∀ q, q < 256 → ¬ nI (letL f + 256 * (60 + z) + 65536 * n) = nI q := fun q hq => nI_neL (by omega) (by omega) (by omega)
    unfold stC
    rw [if_neg (show ¬ nI (letL f + 256 * (60 + z) + 65536 * n) = 33 from hK 33 (by decide)), if_neg (show ¬ nI (letL f + 256 * (60 + z) + 65536 * n) = 38 from hK 38 (by decide)), if_neg (show ¬ nI (letL f + 256 * (60 + z) + 65536 * n) = 124 from hK 124 (by decide)), test_e hE hY hd hf hz hn]
    exact hb.push hs
/-- all codes of an E -/
theorem hb_e {E : It} {L : Nat → Int64} {I : It} {h : Ht} (hE : Inv E) (hY : RY E L I h) {d p : Nat} (hd : d < cnt E) {y w : Int32} : ∀ (cs : List Int32) (fr : Nat) (b : Int32) (s : List Bool) (m : Nat), CC2 fr (I (47 + 5 * p)) cs → BS b s → s.length ≤ 30 → dpB cs s.length = some m → BS (hbR I h p (dn h d) y w cs.length fr b) (evL E d y w cs s) ∧ (evL E d y w cs s).length = m := by
  intro cs
  induction cs with
  | nil => intro fr b s m _ hb _ hm; cases hm; exact ⟨hb, rfl⟩
  | cons x r ih =>
    intro fr b s m hc hb hs hm
    rw [dpB_c] at hm
    cases e : depR x s.length with
    | none => rw [e] at hm; cases hm
    | some q =>
      rw [e] at hm
      replace hm : (if 30 < q then none else dpB r q) = some m := hm
      by_cases hq : 30 < q
      · rw [if_pos hq] at hm; cases hm
      · rw [if_neg hq] at hm
        have c0 : CRq x (I (47 + 5 * p) fr) := hc 0 (by simp)
        obtain ⟨s1, s2⟩ := st_e hE hY hd (y := y) (w := w) c0 hb hs e (by omega)
        rw [List.length_cons, hbR_s, evL_c]
        refine ih (fr + 1) _ _ m (fun i hi => ?_) s1 (by omega) (by rw [s2]; exact hm)
        have := hc (i + 1) (by simp only [List.length_cons]; omega)
        rw [show fr + (i + 1) = fr + 1 + i by omega] at this
        simpa using this
/-- the deepest pile is small: what waits, level by level -/
def sg : List Int32 → Nat → Prop := fun ws => match ws with
  | [] => fun _ => True
  | x :: r => fun k => (x = 38 ∧ k = 2 ∧ sg r 1) ∨ (x = 124 ∧ 1 ≤ k ∧ sg r 0) ∨ ((x = 33 ∨ x = 40) ∧ sg r 2)
theorem sg.mono : ∀ {ws : List Int32} {k : Nat}, sg ws k → k ≤ 2 → sg ws 2 := by
  intro ws
  cases ws with
  | nil => intro _ _ _; trivial
  | cons x r =>
    intro k h hk
    rcases h with ⟨h1, h2, h3⟩ | ⟨h1, h2, h3⟩ | ⟨h1, h2⟩
    · exact Or.inl ⟨h1, rfl, h3⟩
    · exact Or.inr (Or.inl ⟨h1, by decide, h3⟩)
    · exact Or.inr (Or.inr ⟨h1, h2⟩)
theorem sg_b : ∀ (ws : List Int32) (k : Nat), sg ws k → bns ws ≤ k + 2 * opn ws := by
  intro ws
  induction ws with
  | nil => intro k _; exact Nat.zero_le _
  | cons x r ih =>
    intro k h
    rw [bns_c, opn_c]
    rcases h with ⟨rfl, rfl, h3⟩ | ⟨rfl, h2, h3⟩ | ⟨h1, h2⟩
    · rw [if_pos (by decide), if_neg (by decide)]
      have := ih 1 h3; omega
    · rw [if_pos (by decide), if_neg (by decide)]
      have := ih 0 h3; omega
    · rw [if_neg (by rcases h1 with rfl | rfl <;> decide), if_pos h1]
      have := ih 2 h2; omega
def okB (cs : List Int32) (m : Nat) : Prop := (∀ x, x ∈ cs → okCo x) ∧ dpB cs 0 = some m
/-- behind settle: what waits -/
theorem okB.put {cs : List Int32} {m m2 : Nat} {x : Int32} (h : okB cs m) (hx : okCo x) (hd : depR x m = some m2) (h30 : m2 ≤ 30) : okB (cs ++ [x]) m2 :=
  ⟨fun y hy => by
    rcases List.mem_append.mp hy with z | z
    · exact h.1 y z
    · rw [List.mem_singleton.mp z]; exact hx, dpB_app h.2 hd h30⟩
theorem opn_wh : ∀ (ws cs : List Int32), opn (whA ws cs).2 ≤ opn ws := by
  intro ws
  induction ws with
  | nil => intro cs; exact Nat.le_refl _
  | cons x r ih =>
    intro cs
    rw [whA_c]
    split
    · have := ih (cs ++ [-33])
      rw [opn_c]
      split <;> omega
    · exact Nat.le_refl _
theorem opn_se {s : Int32} : ∀ (ws cs : List Int32), opn (seA s ws cs).2 ≤ opn ws := by
  intro ws
  induction ws with
  | nil => intro cs; exact Nat.le_refl _
  | cons x r ih =>
    intro cs
    rw [seA_c, opn_c]
    have := ih (cs ++ [-x])
    split
    · split <;> omega
    · split
      · split
        · rw [opn_c]; exact Nat.le_refl _
        · split <;> omega
      · rw [opn_c]; exact Nat.le_refl _
theorem okB.wh : ∀ {ws cs : List Int32}, okB cs (bns ws + 1) → bns ws ≤ 29 → sg ws 2 → okB (whA ws cs).1 (bns (whA ws cs).2 + 1) ∧ sg (whA ws cs).2 2 := by
  intro ws
  induction ws with
  | nil => intro cs h _ h2; exact ⟨h, h2⟩
  | cons x r ih =>
    intro cs h hb h2
    rw [whA_c]
    by_cases e : x = 33
    · rw [if_pos e]
      rw [bns_c, if_neg (by rw [e]; decide)] at h hb
      refine ih (h.put (Or.inr (Or.inl rfl)) (dep_b _) (by omega)) hb ?_
      rcases h2 with ⟨z, -⟩ | ⟨z, -⟩ | ⟨-, z⟩
      · rw [e] at z; exact absurd z (by decide)
      · rw [e] at z; exact absurd z (by decide)
      · exact z
    · rw [if_neg e]; exact ⟨h, h2⟩
theorem okB.se {s : Int32} : ∀ {ws cs : List Int32} {k : Nat}, okB cs (bns ws + 1) → bns ws ≤ 29 → sg ws k → k ≤ 2 → okB (seA s ws cs).1 (bns (seA s ws cs).2 + 1) ∧ sg (seA s ws cs).2 (if s = 38 then 1 else 0) := by
  intro ws
  induction ws with
  | nil => intro cs k h _ _ _; exact ⟨h, trivial⟩
  | cons x r ih =>
    intro cs k h hb h2 hk
    rw [seA_c]
    by_cases e : x = 38
    · rw [if_pos e]
      rw [bns_c, if_pos (Or.inl e)] at h hb
      rcases h2 with ⟨-, -, z⟩ | ⟨z, -⟩ | ⟨z, -⟩
      · exact ih (h.put (by rw [e]; exact Or.inr (Or.inr (Or.inl rfl))) (dep_o (Or.inl e) _) (by omega)) (by omega) z (by decide)
      · rw [e] at z; exact absurd z (by decide)
      · rw [e] at z; exact absurd z (by decide)
    · rw [if_neg e]
      by_cases e2 : x = 124
      · rw [if_pos e2]
        rcases h2 with ⟨z, -⟩ | ⟨-, z1, z⟩ | ⟨z, -⟩
        · exact absurd z e
        · by_cases e3 : s = 38
          · rw [if_pos e3, if_pos e3]
            exact ⟨h, Or.inr (Or.inl ⟨e2, by decide, z⟩)⟩
          · rw [if_neg e3]
            rw [bns_c, if_pos (Or.inr e2)] at h hb
            exact ih (h.put (by rw [e2]; exact Or.inr (Or.inr (Or.inr rfl))) (dep_o (Or.inr e2) _) (by omega)) (by omega) z (by decide)
        · rw [e2] at z; exact absurd z (by decide)
      · rw [if_neg e2]
        rcases h2 with ⟨z, -⟩ | ⟨z, -⟩ | ⟨z1, z⟩
        · exact absurd z e
        · exact absurd z e2
        · exact ⟨h, Or.inr (Or.inr ⟨z1, z⟩)⟩
theorem am_okB {X : Nat → Int32} {n : Nat} : ∀ (f : Nat) (w : Bool) (a : Nat) (cs ws : List Int32), okW ws → opn ws ≤ 4 → sg ws 2 → okB cs (bns ws + (if w = true then 0 else 1)) → (amR X n f w a cs ws).1 = true → okB (amR X n f w a cs ws).2.2 1 := by
  intro f
  induction f with
  | zero => intro w a cs ws _ _ _ _ h; exact absurd h Bool.false_ne_true
  | succ f ih =>
    intro w a cs ws hw ho hg hL h
    have hbn := sg_b ws 2 hg
    cases w with
    | true =>
      rw [if_pos rfl, Nat.add_zero] at hL
      by_cases h1 : nxA X n a = 33 ∨ nxA X n a = 40
      · by_cases h4 : opn ws = 4
        · rw [am_o4 h1 h4] at h; exact absurd h Bool.false_ne_true
        · rw [am_o h1 h4] at h ⊢
          refine ih true _ _ _ (hw.cn (by rcases h1 with z | z <;> rw [z] <;> decide)) (by rw [opn_c, if_pos h1]; omega) (Or.inr (Or.inr ⟨h1, hg⟩)) ?_ h
          rw [bns_c, if_neg (by rcases h1 with z | z <;> rw [z] <;> decide), if_pos rfl, Nat.add_zero]
          exact hL
      · by_cases h4 : (tsA X n a).1 = true
        · rw [am_t h1 h4] at h ⊢
          obtain ⟨q, s, d, q1, q2, q3, -, -, -, q4⟩ := ts_ok h4
          have hq : okB (cs ++ [(tsA X n a).2.2]) (bns ws + 1) := by
            rw [q4]
            exact hL.put (Or.inl ⟨_, by omega, rfl⟩) (dep_t (by omega)) (by omega)
          obtain ⟨r1, r2⟩ := okB.wh hq (by omega) hg
          refine ih false _ _ _ (hw.wh _) (Nat.le_trans (opn_wh _ _) ho) r2 ?_ h
          rw [if_neg Bool.false_ne_true]
          exact r1
        · rw [am_tf h1 h4] at h; exact absurd h Bool.false_ne_true
    | false =>
      rw [if_neg Bool.false_ne_true] at hL
      by_cases h1 : nxA X n a = 38 ∨ nxA X n a = 124
      · rw [am_b h1] at h ⊢
        obtain ⟨r1, r2⟩ := okB.se (s := nxA X n a) hL (by omega) hg (Nat.le_refl _)
        refine ih true _ _ _ ((hw.se _).cn (by rcases h1 with z | z <;> rw [z] <;> decide)) ?_ ?_ ?_ h
        · rw [opn_c, if_neg (by rcases h1 with z | z <;> rw [z] <;> decide)]
          exact Nat.le_trans (opn_se _ _) ho
        · rcases h1 with z | z
          · rw [z, if_pos rfl] at r2
            rw [z]
            exact Or.inl ⟨rfl, rfl, r2⟩
          · rw [z, if_neg (by decide)] at r2
            rw [z]
            exact Or.inr (Or.inl ⟨rfl, by decide, r2⟩)
        · rw [bns_c, if_pos h1, if_pos rfl]
          exact r1
      · obtain ⟨r1, r2⟩ := okB.se (s := 124) hL (by omega) hg (Nat.le_refl _)
        by_cases h2 : (seA 124 ws cs).2 = []
        · rw [am_e h1 h2]
          rw [h2] at r1
          exact r1
        · by_cases h3 : nxA X n a = 41
          · rw [am_c h1 h2 h3] at h ⊢
            obtain ⟨x, t, ext⟩ := List.exists_cons_of_ne_nil h2
            have q1 := hw.se (s := 124) cs
            have q2 := se_top ext
            have q3 := opn_se (s := 124) ws cs
            rw [if_neg (by decide)] at r2
            rw [ext] at q1 q3 r1 r2 h ⊢
            rw [bns_c, if_neg (by rintro (z | z); exact q2.1 z; exact q2.2 z)] at r1
            have hg2 : sg t 2 := by
              rcases r2 with ⟨z, -⟩ | ⟨z, -⟩ | ⟨-, z⟩
              · exact absurd z q2.1
              · exact absurd z q2.2
              · exact z
            have ho2 : opn t ≤ 4 := by
              rw [opn_c] at q3
              split at q3 <;> omega
            have hbn2 := sg_b t 2 hg2
            obtain ⟨w1, w2⟩ := okB.wh r1 (by omega) hg2
            refine ih false _ _ _ (q1.tl.wh _) (Nat.le_trans (opn_wh _ _) ho2) w2 ?_ h
            rw [if_neg Bool.false_ne_true]
            exact w1
          · rw [am_x h1 h2 h3] at h; exact absurd h Bool.false_ne_true

