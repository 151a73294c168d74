/-! sigma: a picture E of the reference's lasting cells -/
theorem le_nlt (a b : Int32) : a ≤ b ↔ ¬ b < a := Int32.not_lt.symm
def bitI (k : Int32) : Int32 := (1 : Int32) <<< (k &&& 31)
def withI (s k z : Int32) : Int32 := if z = 0 then s &&& (bitI k ^^^ (-1)) else s ||| bitI k
def hasI (s k : Int32) : Int32 := (s >>> (k &&& 31)) &&& 1
def pfL : List Nat := [0, 1, 2, 3, 4, 5, 6, 15, 16, 17, 44, 47, 48, 49, 50, 51, 52, 53, 54, 55, 56, 67]
def pcL : List Nat := [1, 2, 3, 4, 5, 6, 7, 8, 9, 23, 24, 25, 26, 27, 28, 29, 30, 31, 32, 33, 34, 35, 36, 37]
def lettersL : List Int32 := [115, 97, 121, 99, 111, 115, 116, 99, 97, 108, 108, 102, 97, 100, 101]
def nP (E : It) : Nat := tN (E 0 15)
/-- the reference's memory shows E, but for the field list F and the cell list C -/
def RMx (F C : List Nat) (E I : It) : Prop :=
  (∀ j, j ∈ pfL → j ∉ F → I 0 j = E 0 j) ∧ (∀ a, a ∈ pcL → a ∉ C → I a = E a) ∧
  (∀ j, j < nP E → I 10 j = E 10 j) ∧ (∀ j, j < 10 * nP E → I 11 j = E 11 j ∧ I 12 j = E 12 j ∧ I 13 j = E 13 j ∧ I 14 j = E 14 j) ∧ (∀ j, j < 100 * nP E → I 15 j = E 15 j) ∧
  ∀ j, j < 15 → I 17 j = lettersL.getD j 0
abbrev RM (E I : It) : Prop := RMx [] [] E I
theorem RM.f {E I : It} {F C : List Nat} (h : RMx F C E I) (j : Nat) (hj : j ∈ pfL) (hF : j ∉ F) : I 0 j = E 0 j := h.1 j hj hF
theorem RM.c {E I : It} {F C : List Nat} (h : RMx F C E I) (a : Nat) (ha : a ∈ pcL) (hC : a ∉ C) : I a = E a := h.2.1 a ha hC
theorem RM.c1 {E I : It} {F C : List Nat} (h : RMx F C E I) (a j : Nat) (ha : a ∈ pcL) (hC : a ∉ C) : I a j = E a j := congrFun (h.2.1 a ha hC) j
/-- what a method may have written: fields F of the object, cells C -/
def Fr (F C : List Nat) (I I' : It) : Prop := (∀ j, j ∉ F → I' 0 j = I 0 j) ∧ ∀ a, a ≠ 0 → a ∉ C → I' a = I a
theorem Fr.rf {F C : List Nat} {I : It} : Fr F C I I := ⟨fun _ _ => rfl, fun _ _ _ => rfl⟩
theorem Fr.trans {F C : List Nat} {I J K : It} (h1 : Fr F C I J) (h2 : Fr F C J K) : Fr F C I K := ⟨fun j hj => (h2.1 j hj).trans (h1.1 j hj), fun a h0 ha => (h2.2 a h0 ha).trans (h1.2 a h0 ha)⟩
theorem Fr.mono {F C F' C' : List Nat} {I J : It} (h : Fr F C I J) (hF : ∀ j, j ∈ F → j ∈ F') (hC : ∀ a, a ∈ C → a ∈ C') : Fr F' C' I J := ⟨fun j hj => h.1 j (fun z => hj (hF j z)), fun a h0 ha => h.2 a h0 (fun z => ha (hC a z))⟩
theorem Fr.pf {F C : List Nat} {I J : It} (h : Fr F C I J) {j : Nat} {x : Int32} (hj : j ∈ F) : Fr F C I (upI J 0 j x) :=
  ⟨fun b hb => by
    have hne : b ≠ j := fun z => hb (by rw [z]; exact hj)
    show (if 0 = 0 ∧ b = j then x else J 0 b) = I 0 b
    rw [if_neg (fun z => hne z.2)]
    exact h.1 b hb, fun a h0 ha => by rw [upI_off h0]; exact h.2 a h0 ha⟩
theorem Fr.pc {F C : List Nat} {I J : It} (h : Fr F C I J) {q j : Nat} {x : Int32} (h0 : q ≠ 0) (hq : q ∈ C) : Fr F C I (upI J q j x) :=
  ⟨fun b hb => by rw [upI_off (Ne.symm h0)]; exact h.1 b hb, fun a h0 ha => by
    have hne : a ≠ q := fun z => ha (by rw [z]; exact hq)
    rw [upI_off hne]; exact h.2 a h0 ha⟩
def disj (a b : List Nat) : Bool := a.all fun x => !b.contains x
theorem disj_no {a b : List Nat} (h : disj a b = true) {x : Nat} (ha : x ∈ a) : x ∉ b := by
  have := List.all_eq_true.mp h x ha
  simpa using this
/-- scratch writes keep the picture -/
theorem RM.keep {E I J : It} {F C F' C' : List Nat} (h : RMx F C E I) (hf : Fr F' C' I J) (h1 : disj pfL F' = true) (h2 : disj pcL C' = true) (h3 : disj [10, 11, 12, 13, 14, 15, 17] C' = true) : RMx F C E J := by
  obtain ⟨a1, a2, a3, a4, a5, a6⟩ := h
  obtain ⟨f1, f2⟩ := hf
  have g : ∀ a, a ∈ [10, 11, 12, 13, 14, 15, 17] → J a = I a := fun a ha => f2 a (by rintro rfl; revert ha; decide) (disj_no h3 ha)
  refine ⟨fun j hj hF => (f1 j (disj_no h1 hj)).trans (a1 j hj hF), fun a ha hC => (f2 a (by rintro rfl; revert ha; decide) (disj_no h2 ha)).trans (a2 a ha hC), ?_, ?_, ?_, ?_⟩
  · intro j hj; rw [g 10 (by decide)]; exact a3 j hj
  · intro j hj; rw [g 11 (by decide), g 12 (by decide), g 13 (by decide), g 14 (by decide)]; exact a4 j hj
  · intro j hj; rw [g 15 (by decide)]; exact a5 j hj
  · intro j hj; rw [g 17 (by decide)]; exact a6 j hj
theorem up0 (I : It) (q j : Nat) (x : Int32) : upI I q j x q j = x := by simp [upI]
theorem upn {I : It} {q j a b : Nat} {x : Int32} (h : ¬ (a = q ∧ b = j)) : upI I q j x a b = I a b := if_neg h
/-! posts: the clauses that hold -/
def beg (E : It) : Nat := if E 0 16 < 0 then 0 else 10 * tN (E 0 16)
def ncl (E : It) : Nat := if E 0 16 < 0 then 0 else tN (E 10 (tN (E 0 16)))
def lastF (E : It) (w : Int32) : Nat → Nat → Int32 → Int32 := fun k => match k with
  | 0 => fun _ n => n
  | k + 1 => fun c n => lastF E w k (c + 1) (if E 11 c = w then E 12 c else n)
def callF (E : It) : Int32 := lastF E 2 (ncl E) (beg E) 7
def fadeF (E : It) : Int32 := lastF E 3 (ncl E) (beg E) 1
def factF (E : It) (f : Int32) (i : Nat) (y w : Int32) : Int32 :=
  if f = 0 then nI i else if f = 1 then E 1 i else if f = 2 then E 3 i else if f = 3 then E 2 i else if f = 4 then E 5 i / 10 else if f = 5 then y else w
def remI (a b : Int32) : Int32 := a - a / b * b
def testF (E : It) (t : Int32) (i : Nat) (y w : Int32) : Bool :=
  if remI (t / 100) 10 = 0 then decide (factF E (t / 1000) i y w < remI t 100)
  else if remI (t / 100) 10 = 1 then decide (factF E (t / 1000) i y w = remI t 100)
  else decide (remI t 100 < factF E (t / 1000) i y w)
def stepR (E : It) (i : Nat) (y w : Int32) (t : Int32) (s : List Bool) : List Bool :=
  if t = -33 then (match s with
    | b :: r => (!b) :: r
    | [] => [])
  else if t < 0 then (match s with
    | b :: a :: r => (if t = -38 then a && b else a || b) :: r
    | _ => [])
  else testF E t i y w :: s
def evalR (E : It) (i : Nat) (y w : Int32) : Nat → Nat → List Bool → List Bool := fun k => match k with
  | 0 => fun _ s => s
  | k + 1 => fun c s => evalR E i y w k (c + 1) (stepR E i y w (E 15 c) s)
/-- how deep the pile is behind a code; none: it would fall through -/
def depR (t : Int32) (n : Nat) : Option Nat := if t = -33 then (if n = 0 then none else some n) else if t < 0 then (if n < 2 then none else some (n - 1)) else some (n + 1)
def wfR (E : It) : Nat → Nat → Nat → Bool := fun k => match k with
  | 0 => fun _ n => n == 1
  | k + 1 => fun c n => match depR (E 15 c) n with
    | none => false
    | some m => wfR E k (c + 1) m
/-- a clause c of a post: its word, number, and where its E stands, if it has one -/
def clOk (E : It) (p c : Nat) : Prop :=
  (E 11 c = 0 ∨ E 11 c = 1 ∨ E 11 c = 2 ∨ E 11 c = 3) ∧ (∃ v, v ≤ 99 ∧ E 12 c = nI v) ∧
  ((E 11 c = 0 ∨ E 11 c = 1) → ∃ a b, E 13 c = nI a ∧ E 14 c = nI b ∧ 100 * p ≤ a ∧ a ≤ b ∧ b ≤ 100 * p + 100 ∧ wfR E (b - a) a 0 = true ∧ ∀ j, a ≤ j → j < b → ∃ t, t ≤ 6299 ∧ (E 15 j = nI t ∨ E 15 j = -33 ∨ E 15 j = -38 ∨ E 15 j = -124))
def clLen (E : It) (c : Nat) : Nat := tN (E 14 c) - tN (E 13 c)
def holdsF (E : It) (c i : Nat) (y w : Int32) : Bool := (evalR E i y w (clLen E c) (tN (E 13 c)) []).headD false
def sumF (E : It) (what : Int32) (i : Nat) (y w : Int32) : Nat → Nat → Int32 → Int32 := fun k => match k with
  | 0 => fun _ s => s
  | k + 1 => fun c s => sumF E what i y w k (c + 1) (s + (if E 11 c = what ∧ holdsF E c i y w = true then E 12 c else 0))
def sumP (E : It) (what : Int32) (i : Nat) (y w : Int32) : Int32 := sumF E what i y w (ncl E) (beg E) 0
def dearF (E : It) (i : Nat) (w : Int32) : Int32 := E 5 i + sumP E 1 i 9 (remI w 60)
def sayF (E : It) (i : Nat) (y : Int32) : Int32 := sumP E 0 i y 0
/-! what holds of E -/
def cnt (E : It) : Nat := tN (E 0 0)
def wk (E : It) : Nat := tN (E 0 1)
def dOk (kd v rd pl co ne od : Nat → Int32) (d : Nat) : Prop :=
  (∃ x, x ≤ 6 ∧ kd d = nI x) ∧ (∃ x, x ≤ 9 ∧ v d = nI x) ∧ (∃ x, 1 ≤ x ∧ x ≤ 60 ∧ rd d = nI x ∧ ∃ z, z < x ∧ pl d = nI z) ∧ (∃ x, x ≤ 99 ∧ co d = nI x) ∧ (∃ x, x ≤ 99 ∧ ne d = nI x) ∧ ∃ x, x ≤ 10 ∧ od d = nI x
/-- what the picture (the lasting part, or THE IMAGE) has of DOINGS, hours, weeks, the LIST, the post -/
def partOk (n w the rows kn idl : Int32) (kd v rd pl co ne od hr rw rdd : Nat → Int32) (p : Nat) : Prop :=
  (∃ x, x ≤ 10 ∧ n = nI x ∧ ∀ d, d < x → dOk kd v rd pl co ne od d) ∧ (∃ x, x ≤ 9999 ∧ w = nI x) ∧ (the = -1 ∨ ∃ x, x < p ∧ the = nI x) ∧ (∃ x, x ≤ 12 ∧ rows = nI x) ∧
  (∀ y, y < 4 → ∃ x, x ≤ 9 ∧ hr y = nI x) ∧ (∀ k, k < 12 → ∃ x z, x ≤ 99 ∧ z ≤ 9 ∧ rw k = nI x ∧ rdd k = nI z) ∧ (∃ m, m < 2 ^ tN n ∧ kn = nI m) ∧ ∃ m, m < 2 ^ tN n ∧ idl = nI m
def Inv (E : It) : Prop :=
  partOk (E 0 0) (E 0 1) (E 0 16) (E 0 44) (E 0 5) (E 0 6) (E 1) (E 2) (E 3) (E 4) (E 5) (E 6) (E 7) (E 8) (E 23) (E 24) (nP E) ∧
  (E 0 47 = 0 ∨ E 0 47 = 1 ∧ partOk (E 0 49) (E 0 50) (E 0 48) (E 0 56) (E 0 54) (E 0 55) (E 25) (E 26) (E 27) (E 28) (E 29) (E 30) (E 31) (E 32) (E 33) (E 34) (nP E)) ∧
  (E 0 15 = nI (nP E) ∧ nP E ≤ 6) ∧ (∀ p, p < nP E → ∃ x, 1 ≤ x ∧ x ≤ 10 ∧ E 10 p = nI x ∧ ∀ c, c < x → clOk E p (10 * p + c)) ∧
  (∃ f, f ≤ 100 ∧ E 0 17 = nI f ∧ ∀ j, j < f → ∃ s, s ≤ 127 ∧ E 9 j = nI s) ∧ (∃ x, x ≤ 100 ∧ E 0 67 = nI x) ∧
  ∀ t, t < 6 → (E 36 t = -1 ∧ E 37 t = 0) ∨ ∃ s l, s ≤ 4 ∧ l ≤ 60 ∧ E 36 t = nI s ∧ E 37 t = nI l
/-! the part of the picture that doings, weeks and posts are -/
def Ag (E I : It) : Prop :=
  (I 0 0 = E 0 0 ∧ I 0 1 = E 0 1 ∧ I 0 16 = E 0 16) ∧ (∀ a, a ∈ [1, 2, 3, 4, 5, 6] → I a = E a) ∧
  (∀ j, j < nP E → I 10 j = E 10 j) ∧ (∀ j, j < 10 * nP E → I 11 j = E 11 j ∧ I 12 j = E 12 j ∧ I 13 j = E 13 j ∧ I 14 j = E 14 j) ∧ (∀ j, j < 100 * nP E → I 15 j = E 15 j)
theorem Ag.of {E I : It} {F C : List Nat} (h : RMx F C E I) (hF : disj [0, 1, 16] F = true) (hC : disj [1, 2, 3, 4, 5, 6] C = true) : Ag E I :=
  ⟨⟨h.1 0 (by decide) (disj_no hF (by decide)), h.1 1 (by decide) (disj_no hF (by decide)), h.1 16 (by decide) (disj_no hF (by decide))⟩, fun a ha => h.2.1 a (by revert a; decide) (disj_no hC ha), h.2.2.1, h.2.2.2.1, h.2.2.2.2.1⟩
theorem Ag.keep {E I J : It} {F C : List Nat} (h : Ag E I) (hf : Fr F C I J) (h1 : disj [0, 1, 16] F = true) (h2 : disj [1, 2, 3, 4, 5, 6, 10, 11, 12, 13, 14, 15] C = true) : Ag E J := by
  obtain ⟨⟨a0, a1, a2⟩, a3, a4, a5, a6⟩ := h
  obtain ⟨f1, f2⟩ := hf
  have g : ∀ a, a ∈ [1, 2, 3, 4, 5, 6, 10, 11, 12, 13, 14, 15] → J a = I a := fun a ha => f2 a (by rintro rfl; revert ha; decide) (disj_no h2 ha)
  refine ⟨⟨(f1 0 (disj_no h1 (by decide))).trans a0, (f1 1 (disj_no h1 (by decide))).trans a1, (f1 16 (disj_no h1 (by decide))).trans a2⟩, fun a ha => (g a (by revert a; decide)).trans (a3 a ha), ?_, ?_, ?_⟩
  · intro j hj; rw [g 10 (by decide)]; exact a4 j hj
  · intro j hj; rw [g 11 (by decide), g 12 (by decide), g 13 (by decide), g 14 (by decide)]; exact a5 j hj
  · intro j hj; rw [g 15 (by decide)]; exact a6 j hj
theorem inv_the {E : It} (h : Inv E) : (E 0 16 = -1 ∧ beg E = 0 ∧ ncl E = 0) ∨ ∃ x c, x < nP E ∧ x < 6 ∧ E 0 16 = nI x ∧ 1 ≤ c ∧ c ≤ 10 ∧ E 10 x = nI c ∧ beg E = 10 * x ∧ ncl E = c ∧ ∀ j, j < c → clOk E x (10 * x + j) := by
  obtain ⟨⟨-, -, h1, -⟩, -, ⟨h2, h3⟩, h4, -⟩ := h
  rcases h1 with h1 | ⟨x, hx, h1⟩
  · left
    refine ⟨h1, ?_, ?_⟩
    · unfold beg; rw [h1]; rfl
    · unfold ncl; rw [h1]; rfl
  · right
    obtain ⟨c, c1, c2, c3, c4⟩ := h4 x hx
    have hx6 : x < 6 := by omega
    have hn : ¬ nI x < 0 := nI_pos (by omega)
    refine ⟨x, c, hx, hx6, h1, c1, c2, c3, ?_, ?_, c4⟩
    · unfold beg; rw [h1, if_neg hn, tN_nI (by omega)]
    · unfold ncl; rw [h1, if_neg hn, tN_nI (by omega), c3, tN_nI (by omega)]
theorem beg_le {E : It} (h : Inv E) : beg E + ncl E ≤ 60 ∧ beg E + ncl E ≤ 10 * nP E := by
  have h3 := h.2.2.1.2
  rcases inv_the h with ⟨-, e1, e2⟩ | ⟨x, c, hx, hx6, -, c1, c2, -, e1, e2, -⟩
  · rw [e1, e2]; omega
  · rw [e1, e2]; omega
theorem lastF_s (E : It) (w : Int32) (k c : Nat) (n : Int32) : lastF E w (k + 1) c n = lastF E w k (c + 1) (if E 11 c = w then E 12 c else n) := rfl
theorem evalR_s (E : It) (i : Nat) (y w : Int32) (k c : Nat) (s : List Bool) : evalR E i y w (k + 1) c s = evalR E i y w k (c + 1) (stepR E i y w (E 15 c) s) := rfl
theorem sumF_s (E : It) (what : Int32) (i : Nat) (y w : Int32) (k c : Nat) (s : Int32) : sumF E what i y w (k + 1) c s = sumF E what i y w k (c + 1) (s + (if E 11 c = what ∧ holdsF E c i y w = true then E 12 c else 0)) := rfl
theorem wfR_s (E : It) (k c n : Nat) : wfR E (k + 1) c n = (match depR (E 15 c) n with
    | none => false
    | some m => wfR E k (c + 1) m) := rfl
def b2 (b : Bool) : Int32 := if b then 1 else 0
theorem b2_bI (b : Bool) : b2 b = bI (b = true) := by cases b <;> rfl
theorem b2_01 (b : Bool) : b2 b = 0 ∨ b2 b = 1 := by cases b <;> simp [b2]
/-- the pile in cell 18 holds s, its top first -/
def PR (J : It) (s : List Bool) : Prop := match s with
  | [] => True
  | b :: r => J 18 r.length = b2 b ∧ PR J r
theorem PR_up {J : It} {m : Nat} {x : Int32} : ∀ {s : List Bool}, PR J s → s.length ≤ m → PR (upI J 18 m x) s := by
  intro s
  induction s with
  | nil => intro _ _; trivial
  | cons b r ih =>
    intro h hm
    simp only [List.length_cons] at hm
    exact ⟨by rw [upn (by omega)]; exact h.1, ih h.2 (by omega)⟩
/-- an answer, and what may have been written -/
def qF (x : Int32) (F C : List Nat) (I : It) (h : Ht) : Pt3 := qI fun v I' h' => v = x ∧ Fr F C I I' ∧ h' = h
def qFv (F C : List Nat) (I : It) (h : Ht) : Pt3 := qV fun I' h' => Fr F C I I' ∧ h' = h
theorem qF_of {v x : Int32} {F C : List Nat} {I J : It} {h : Ht} (e : v = x) (hf : Fr F C I J) : qF x F C I h (some (.int v)) J h := ⟨v, rfl, e, hf, rfl⟩
theorem cl_of {E : It} (hE : Inv E) {c : Nat} (h1 : beg E ≤ c) (h2 : c < beg E + ncl E) : ∃ p, p < nP E ∧ c < 10 * nP E ∧ clOk E p c := by
  have hb := beg_le hE
  rcases inv_the hE with ⟨-, e1, e2⟩ | ⟨x, q, hx, hx6, -, q1, q2, -, e1, e2, hq⟩
  · omega
  · refine ⟨x, hx, by omega, ?_⟩
    have := hq (c - 10 * x) (by omega)
    rwa [show 10 * x + (c - 10 * x) = c by omega] at this
/-! weeks -/
def comesF (E : It) (i w : Nat) : Prop := remI (nI w) (E 3 i) = E 4 i
def learnsF (E : It) (i : Nat) : Prop := ((E 1 i = 3 ∨ E 1 i = 6) ∧ E 2 i = 0) ∨ ((E 1 i = 2 ∨ E 1 i = 5) ∧ 4 < E 2 i)
def dcL (E : It) (i : Nat) : Decidable (learnsF E i) := by unfold learnsF; exact inferInstance
abbrev WS : Type := Int32 × Int32 × Int32 × Int32 × Int32 × Int32 × Int32
/-- (calls of the week, knows, costs, stops, calls, first week, first doing) behind one DOING of a week -/
def wkStep (E : It) (idl : Int32) (w : Nat) (may : Int32) (i : Nat) (a : WS) : WS :=
  match a with
  | (had, kn, co, st, ca, fw, fd) =>
    if ¬ remI (nI w) (E 3 i) = E 4 i then a
    else if hasI idl (nI i) = 1 then (had, kn, co + (if hasI kn (nI i) = 1 then 1 else 0), st, ca, fw, fd)
    else if hasI kn (nI i) = 1 then a
    else if had < may then (had + 1, withI kn (nI i) (bI (E 1 i ≠ 6)), co + 1, st + 1, ca + 1, if fw < 0 then nI w else fw, if fw < 0 then nI i else fd)
    else (had, withI kn (nI i) (@bI (learnsF E i) (dcL E i)), co + dearF E i (nI w), st + 1, ca, if fw < 0 then nI w else fw, if fw < 0 then nI i else fd)
def wkRun (E : It) (idl : Int32) (w : Nat) (may : Int32) : Nat → Nat → WS → WS := fun k => match k with
  | 0 => fun _ a => a
  | k + 1 => fun i a => wkRun E idl w may k (i + 1) (wkStep E idl w may i a)
theorem wkRun_s (E : It) (idl : Int32) (w : Nat) (may : Int32) (k i : Nat) (a : WS) : wkRun E idl w may (k + 1) i a = wkRun E idl w may k (i + 1) (wkStep E idl w may i a) := rfl
/-- a week: nobody was called in it yet -/
def wkF (E : It) (idl : Int32) (w : Nat) (a : WS) : WS := match a with
  | (_, r) => wkRun E idl w (callF E - fadeF E * nI w) (cnt E) 0 (0, r)
def wksF (E : It) (idl : Int32) : Nat → Nat → WS → WS := fun k => match k with
  | 0 => fun _ a => a
  | k + 1 => fun w a => wksF E idl k (w + 1) (wkF E idl w a)
theorem wksF_s (E : It) (idl : Int32) (k w : Nat) (a : WS) : wksF E idl (k + 1) w a = wksF E idl k (w + 1) (wkF E idl w a) := rfl
/-- RUN of n weeks from such a known and needless on -/
def runF (E : It) (kn idl : Int32) (n : Nat) : WS := wksF E idl n (wk E) (0, kn, 0, 0, 0, -5, -5)
/-- the fields of the reference that a run is made in -/
def TS (J : It) (idl : Int32) (a : WS) : Prop := match a with
  | (_, kn, co, st, ca, fw, fd) => J 0 34 = kn ∧ J 0 35 = idl ∧ J 0 36 = co ∧ J 0 37 = st ∧ J 0 38 = ca ∧ J 0 39 = fw ∧ J 0 40 = fd
theorem TS.had {J : It} {idl : Int32} {a : WS} {z : Int32} (h : TS J idl a) : TS J idl (z, a.2) := h
theorem TS.kn {J : It} {idl had kn co st ca fw fd x : Int32} (h : TS J idl (had, kn, co, st, ca, fw, fd)) : TS (upI J 0 34 x) idl (had, x, co, st, ca, fw, fd) := ⟨up0 _ _ _ _, (upn (by decide)).trans h.2.1, (upn (by decide)).trans h.2.2.1, (upn (by decide)).trans h.2.2.2.1, (upn (by decide)).trans h.2.2.2.2.1, (upn (by decide)).trans h.2.2.2.2.2.1, (upn (by decide)).trans h.2.2.2.2.2.2⟩
theorem TS.co {J : It} {idl had kn co st ca fw fd x : Int32} (h : TS J idl (had, kn, co, st, ca, fw, fd)) : TS (upI J 0 36 x) idl (had, kn, x, st, ca, fw, fd) := ⟨(upn (by decide)).trans h.1, (upn (by decide)).trans h.2.1, up0 _ _ _ _, (upn (by decide)).trans h.2.2.2.1, (upn (by decide)).trans h.2.2.2.2.1, (upn (by decide)).trans h.2.2.2.2.2.1, (upn (by decide)).trans h.2.2.2.2.2.2⟩
theorem TS.st {J : It} {idl had kn co st ca fw fd x : Int32} (h : TS J idl (had, kn, co, st, ca, fw, fd)) : TS (upI J 0 37 x) idl (had, kn, co, x, ca, fw, fd) := ⟨(upn (by decide)).trans h.1, (upn (by decide)).trans h.2.1, (upn (by decide)).trans h.2.2.1, up0 _ _ _ _, (upn (by decide)).trans h.2.2.2.2.1, (upn (by decide)).trans h.2.2.2.2.2.1, (upn (by decide)).trans h.2.2.2.2.2.2⟩
theorem TS.ca {J : It} {idl had kn co st ca fw fd x : Int32} (h : TS J idl (had, kn, co, st, ca, fw, fd)) : TS (upI J 0 38 x) idl (had, kn, co, st, x, fw, fd) := ⟨(upn (by decide)).trans h.1, (upn (by decide)).trans h.2.1, (upn (by decide)).trans h.2.2.1, (upn (by decide)).trans h.2.2.2.1, up0 _ _ _ _, (upn (by decide)).trans h.2.2.2.2.2.1, (upn (by decide)).trans h.2.2.2.2.2.2⟩
theorem TS.fw {J : It} {idl had kn co st ca fw fd x : Int32} (h : TS J idl (had, kn, co, st, ca, fw, fd)) : TS (upI J 0 39 x) idl (had, kn, co, st, ca, x, fd) := ⟨(upn (by decide)).trans h.1, (upn (by decide)).trans h.2.1, (upn (by decide)).trans h.2.2.1, (upn (by decide)).trans h.2.2.2.1, (upn (by decide)).trans h.2.2.2.2.1, up0 _ _ _ _, (upn (by decide)).trans h.2.2.2.2.2.2⟩
theorem TS.fd {J : It} {idl had kn co st ca fw fd x : Int32} (h : TS J idl (had, kn, co, st, ca, fw, fd)) : TS (upI J 0 40 x) idl (had, kn, co, st, ca, fw, x) := ⟨(upn (by decide)).trans h.1, (upn (by decide)).trans h.2.1, (upn (by decide)).trans h.2.2.1, (upn (by decide)).trans h.2.2.2.1, (upn (by decide)).trans h.2.2.2.2.1, (upn (by decide)).trans h.2.2.2.2.2.1, up0 _ _ _ _⟩
theorem TS.off {J : It} {idl : Int32} {a : WS} {q j : Nat} {x : Int32} (h : TS J idl a) (hq : q ≠ 0) : TS (upI J q j x) idl a := by
  obtain ⟨had, kn, co, st, ca, fw, fd⟩ := a
  have e : upI J q j x 0 = J 0 := upI_off (Ne.symm hq)
  unfold TS
  rw [e]
  exact h
theorem TS.fr {J K : It} {idl : Int32} {a : WS} {F C : List Nat} (h : TS J idl a) (hf : Fr F C J K) (hF : disj [34, 35, 36, 37, 38, 39, 40] F = true) : TS K idl a := by
  obtain ⟨had, kn, co, st, ca, fw, fd⟩ := a
  obtain ⟨h1, h2, h3, h4, h5, h6, h7⟩ := h
  have g := fun j hj => hf.1 j (disj_no hF hj)
  exact ⟨(g 34 (by decide)).trans h1, (g 35 (by decide)).trans h2, (g 36 (by decide)).trans h3, (g 37 (by decide)).trans h4, (g 38 (by decide)).trans h5, (g 39 (by decide)).trans h6, (g 40 (by decide)).trans h7⟩
theorem inv_cnt {E : It} (hE : Inv E) : E 0 0 = nI (cnt E) ∧ cnt E ≤ 10 := by
  obtain ⟨x, hx, e, -⟩ := hE.1.1
  unfold cnt
  rw [e, tN_nI (by omega)]
  exact ⟨rfl, hx⟩
theorem inv_wk {E : It} (hE : Inv E) : E 0 1 = nI (wk E) ∧ wk E ≤ 9999 := by
  obtain ⟨x, hx, e⟩ := hE.1.2.1
  unfold wk
  rw [e, tN_nI (by omega)]
  exact ⟨rfl, hx⟩
theorem inv_d {E : It} (hE : Inv E) {d : Nat} (hd : d < cnt E) : dOk (E 1) (E 2) (E 3) (E 4) (E 5) (E 6) (E 7) d := by
  obtain ⟨x, hx, e, h⟩ := hE.1.1
  have : cnt E = x := by unfold cnt; rw [e, tN_nI (by omega)]
  exact h d (by omega)
/-! what is said over all ways -/
def allR (E : It) (hr : Nat → Int32) (d : Nat) : Nat → Nat → Int32 → Int32 := fun k => match k with
  | 0 => fun _ z => z
  | k + 1 => fun y z => allR E hr d k (y + 1) (z + hr y * sayF E d (nI y))
theorem allR_s (E : It) (hr : Nat → Int32) (d k y : Nat) (z : Int32) : allR E hr d (k + 1) y z = allR E hr d k (y + 1) (z + hr y * sayF E d (nI y)) := rfl
def allF (E : It) (hr : Nat → Int32) (d y : Nat) : Int32 := allR E hr d (4 - y) y 0
def saidF (E : It) (hr : Nat → Int32) (d : Nat) : Int32 :=
  if E 1 d = 1 then allF E hr d 0 + E 2 d * hr 0
  else if E 1 d = 2 then allF E hr d 2
  else if E 1 d = 3 then (if hr 3 = 0 then 0 else allF E hr d 0)
  else if E 1 d = 4 then allF E hr d 0 + E 2 d * hr 0 + (if 0 < hr 2 then E 2 d else 0)
  else if E 1 d = 5 then allF E hr d 2 + 2 * E 2 d * hr 1
  else if E 1 d = 6 then (if hr 3 = 0 then 0 else allF E hr d 0) - E 2 d
  else allF E hr d 0
def overR (E : It) (hr : Nat → Int32) : Nat → Nat → Int32 → Int32 := fun k => match k with
  | 0 => fun _ s => s
  | k + 1 => fun i s => overR E hr k (i + 1) (s ||| (if E 6 i ≤ saidF E hr i then bitI (nI i) else 0))
theorem overR_s (E : It) (hr : Nat → Int32) (k i : Nat) (s : Int32) : overR E hr (k + 1) i s = overR E hr k (i + 1) (s ||| (if E 6 i ≤ saidF E hr i then bitI (nI i) else 0)) := rfl
def overF (E : It) (hr : Nat → Int32) : Int32 := overR E hr (cnt E) 0 0
def costF (E : It) (kn idl : Int32) (n : Nat) : Int32 := (runF E kn idl n).2.2.1
/-- sayOf (cell 19) holds what is said of each DOING by each way -/
def SY (E J : It) : Prop := ∀ i, i < cnt E → ∀ y, y < 4 → J 19 (4 * i + y) = sayF E i (nI y)
theorem SY.fr {E J K : It} {F C : List Nat} (h : SY E J) (hf : Fr F C J K) (hC : 19 ∉ C) : SY E K := fun i hi y hy => by rw [hf.2 19 (by decide) hC]; exact h i hi y hy
theorem ct_end {c k e : Nat} (hk : c + k = e) (he : e ≤ 20000) (hc : nI e ≤ nI c) : k = 0 := by
  have := (nI_leI (by omega) (by omega)).mp hc
  omega
theorem ct_go {c k e : Nat} (hk : c + k = e) (he : e ≤ 20000) (hc : ¬ nI e ≤ nI c) : ∃ z, k = z + 1 := by
  cases k with
  | zero => exact absurd (nI_le (by omega) (by omega)) hc
  | succ z => exact ⟨z, rfl⟩
/-! how many bits, how many come, greatest divisor -/
def onesN (m : Nat) : Nat := (List.range 10).foldl (fun c i => c + m / 2 ^ i % 2) 0
set_option maxRecDepth 100000 in
theorem on_step : ∀ l, l < 1024 → l ≠ 0 → (nI l &&& (nI l - 1) = nI (l &&& (l - 1)) ∧ l &&& (l - 1) < l ∧ onesN l = onesN (l &&& (l - 1)) + 1) := by decide +kernel
theorem lg0 (x : Int64) : lg_cmp x 0 = 0 ↔ x = 0 := by
  unfold lg_cmp
  by_cases h1 : x > 0
  · rw [if_pos h1]
    constructor
    · intro h; exact absurd h (by decide)
    · intro h; subst h; exact absurd h1 (by decide)
  · rw [if_neg h1]
    by_cases h2 : x = 0
    · rw [if_pos h2]; simp [h2]
    · rw [if_neg h2]
      constructor
      · intro h; exact absurd h (by decide)
      · intro h; exact absurd h h2
def manyR (E : It) (w : Nat) : Nat → Nat → Int32 → Int32 := fun k => match k with
  | 0 => fun _ z => z
  | k + 1 => fun i z => manyR E w k (i + 1) (z + bI (remI (nI w) (E 3 i) = E 4 i))
theorem manyR_s (E : It) (w k i : Nat) (z : Int32) : manyR E w (k + 1) i z = manyR E w k (i + 1) (z + bI (remI (nI w) (E 3 i) = E 4 i)) := rfl
def manyF (E : It) (w : Nat) : Int32 := manyR E w (cnt E) 0 0
def allCR (E : It) (set : Int32) (w : Nat) : Nat → Nat → Bool := fun k => match k with
  | 0 => fun _ => true
  | k + 1 => fun i => if hasI set (nI i) = 1 ∧ ¬ remI (nI w) (E 3 i) = E 4 i then false else allCR E set w k (i + 1)
theorem allCR_s (E : It) (set : Int32) (w k i : Nat) : allCR E set w (k + 1) i = if hasI set (nI i) = 1 ∧ ¬ remI (nI w) (E 3 i) = E 4 i then false else allCR E set w k (i + 1) := rfl
def comInR (E : It) (d : Nat) : Nat → Nat → Bool := fun k => match k with
  | 0 => fun _ => false
  | k + 1 => fun w => if remI (nI w) (E 3 d) = E 4 d then true else comInR E d k (w + 1)
theorem comInR_s (E : It) (d k w : Nat) : comInR E d (k + 1) w = if remI (nI w) (E 3 d) = E 4 d then true else comInR E d k (w + 1) := rfl
/-! acts -/
def body1 (J : It) (b : Int32) : It := upI (if J 0 67 < 20 then upI J 35 (tN (J 0 67)) b else J) 0 67 (J 0 67 + 1)
def putB (J : It) : List Int32 → It := fun l => match l with
  | [] => J
  | b :: r => putB (body1 J b) r
theorem putB_app (J : It) (l m : List Int32) : putB (putB J l) m = putB J (l ++ m) := by
  induction l generalizing J with
  | nil => rfl
  | cons b r ih => exact ih (body1 J b)
theorem body1_ran (J : It) (b : Int32) {r : Nat} (h : J 0 67 = nI r) : body1 J b 0 67 = nI (r + 1) := by
  unfold body1
  rw [up0, h, nI_1]
theorem body1_fr (J : It) (b : Int32) : Fr [67] [35] J (body1 J b) := by
  unfold body1
  refine Fr.pf ?_ (by decide)
  split
  · exact Fr.rf.pc (by decide) (by decide)
  · exact Fr.rf
theorem putB_ran : ∀ (l : List Int32) (J : It) {r : Nat}, J 0 67 = nI r → putB J l 0 67 = nI (r + l.length) := by
  intro l
  induction l with
  | nil => intro J r h; exact h
  | cons b t ih =>
    intro J r h
    have := ih (body1 J b) (body1_ran J b h)
    rw [show r + (b :: t).length = r + 1 + t.length by simp only [List.length_cons]; omega]
    exact this
theorem putB_fr : ∀ (l : List Int32) (J : It), Fr [67] [35] J (putB J l) := by
  intro l
  induction l with
  | nil => intro J; exact Fr.rf
  | cons b t ih => intro J; exact (body1_fr J b).trans (ih _)
def saysV (E : It) (d : Nat) (x : Int32) : Int32 := if E 1 d = 2 ∨ E 1 d = 5 then x * 3 + nI d else if E 1 d = 4 then -(x + nI d) else if E 1 d = 6 then (x + nI d) ^^^ E 2 d else x + nI d
def saysB (E : It) (d : Nat) : List Int32 := if E 1 d = 2 ∨ E 1 d = 5 then [30, 10] else if E 1 d = 4 then [50, 10] else if E 1 d = 6 then [71, 10] else [10]
def khV (E : It) (d : Nat) (x : Int32) : Int32 := saysV E d x - E 2 d
def khB (E : It) (d : Nat) : List Int32 := 11 :: saysB E d
def holdsV (E : It) (d : Nat) (x : Int32) : Int32 := if E 1 d = 1 then khV E d x ^^^ 6 else if E 1 d = 4 then khV E d (x + 1) ^^^ 6 else if E 1 d = 6 then khV E d x + (2 + nI d) else khV E d x
def holdsB (E : It) (d : Nat) : List Int32 := if E 1 d = 1 then 20 :: khB E d else if E 1 d = 4 then 51 :: 20 :: khB E d else if E 1 d = 6 then 70 :: (khB E d ++ [10]) else khB E d
def ktV (E : It) (d : Nat) (x : Int32) : Int32 := holdsV E d x * 2
def ktB (E : It) (d : Nat) : List Int32 := 12 :: holdsB E d
def tellsV (E : It) (d : Nat) (x : Int32) : Int32 := if E 1 d = 3 ∨ E 1 d = 6 then ktV E d x + holdsV E d 1 else if E 1 d = 5 then ktV E d (x - nI d) else ktV E d x
def tellsB (E : It) (d : Nat) : List Int32 := if E 1 d = 3 ∨ E 1 d = 6 then 40 :: (ktB E d ++ holdsB E d) else if E 1 d = 5 then 60 :: ktB E d else ktB E d
theorem saysB_len (E : It) (d : Nat) : (saysB E d).length ≤ 2 := by unfold saysB; split <;> (try split) <;> (try split) <;> simp
theorem khB_len (E : It) (d : Nat) : (khB E d).length ≤ 3 := by have := saysB_len E d; unfold khB; simp only [List.length_cons]; omega
theorem holdsB_len (E : It) (d : Nat) : (holdsB E d).length ≤ 5 := by have := khB_len E d; unfold holdsB; split <;> (try split) <;> (try split) <;> (try simp only [List.length_cons, List.length_append, List.length_nil]) <;> omega
theorem ktB_len (E : It) (d : Nat) : (ktB E d).length ≤ 6 := by have := holdsB_len E d; unfold ktB; simp only [List.length_cons]; omega
theorem tellsB_len (E : It) (d : Nat) : (tellsB E d).length ≤ 12 := by have := holdsB_len E d; have := ktB_len E d; unfold tellsB; split <;> (try split) <;> (try simp only [List.length_cons, List.length_append]) <;> omega

