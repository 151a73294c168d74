/-! a text read: what the reference's machine does, on text X of n signs, in numbers and lists -/
def nxA (X : Nat → Int32) (n a : Nat) : Int32 := if a < n then X a else -1
abbrev dgA (X : Nat → Int32) (n a : Nat) : Prop := 48 ≤ nxA X n a ∧ nxA X n a ≤ 57
def tkA (X : Nat → Int32) (n a : Nat) (c : Int32) : Nat := if nxA X n a = c then a + 1 else a
def twA (X : Nat → Int32) (n f : Nat) : Nat → Nat → Nat → Bool × Nat := fun m => match m with
  | 0 => fun _ a => (decide (nxA X n a = 32), tkA X n a 32)
  | m + 1 => fun i a => if nxA X n a = lettersL.getD (f + i) 0 then twA X n f m (i + 1) (a + 1) else (false, a)
theorem twA_s (X : Nat → Int32) (n f m i a : Nat) : twA X n f (m + 1) i a = if nxA X n a = lettersL.getD (f + i) 0 then twA X n f m (i + 1) (a + 1) else (false, a) := rfl
/-- a number: where it ends, what it is -/
def nuA (X : Nat → Int32) (n a : Nat) : Nat := if dgA X n a then (if dgA X n (a + 1) then a + 2 else a + 1) else a
def nvA (X : Nat → Int32) (n a : Nat) : Int32 := if dgA X n (a + 1) then 10 * (10 * 0 + nxA X n a - 48) + nxA X n (a + 1) - 48 else 10 * 0 + nxA X n a - 48
def plA (c : Int32) : Int32 := if c = 99 then 4 else if c = 105 then 0 else if c = 107 then 1 else if c = 114 then 2 else if c = 118 then 3 else if c = 119 then 6 else if c = 121 then 5 else -1
def tsA (X : Nat → Int32) (n a : Nat) : Bool × Nat × Int32 :=
  if plA (nxA X n a) < 0 then (false, a, 0) else if ¬ (60 ≤ nxA X n (a + 1) ∧ nxA X n (a + 1) ≤ 62) then (false, a + 1, 0) else if ¬ dgA X n (a + 2) then (false, a + 2, 0)
  else (true, nuA X n (a + 2), 1000 * plA (nxA X n a) + 100 * (nxA X n (a + 1) - 60) + nvA X n (a + 2))
def whA : List Int32 → List Int32 → List Int32 × List Int32 := fun ws => match ws with
  | [] => fun cs => (cs, [])
  | x :: r => fun cs => if x = 33 then whA r (cs ++ [-33]) else (cs, x :: r)
theorem whA_c (x : Int32) (r cs : List Int32) : whA (x :: r) cs = if x = 33 then whA r (cs ++ [-33]) else (cs, x :: r) := rfl
def seA (s : Int32) : List Int32 → List Int32 → List Int32 × List Int32 := fun ws => match ws with
  | [] => fun cs => (cs, [])
  | x :: r => fun cs => if x = 38 then seA s r (cs ++ [-x]) else if x = 124 then (if s = 38 then (cs, x :: r) else seA s r (cs ++ [-x])) else (cs, x :: r)
theorem seA_c (s x : Int32) (r cs : List Int32) : seA s (x :: r) cs = if x = 38 then seA s r (cs ++ [-x]) else if x = 124 then (if s = 38 then (cs, x :: r) else seA s r (cs ++ [-x])) else (cs, x :: r) := rfl
def opn : List Int32 → Nat := fun ws => match ws with
  | [] => 0
  | x :: r => if x = 33 ∨ x = 40 then opn r + 1 else opn r
theorem opn_c (x : Int32) (r : List Int32) : opn (x :: r) = if x = 33 ∨ x = 40 then opn r + 1 else opn r := rfl
/-- the machine: whether it goes through, the place, the codes -/
def amR (X : Nat → Int32) (n : Nat) : Nat → Bool → Nat → List Int32 → List Int32 → Bool × Nat × List Int32 := fun f => match f with
  | 0 => fun _ a cs _ => (false, a, cs)
  | f + 1 => fun w a cs ws =>
    if w = true then
      (if nxA X n a = 33 ∨ nxA X n a = 40 then (if opn ws = 4 then (false, a, cs) else amR X n f true (a + 1) cs (nxA X n a :: ws))
      else if (tsA X n a).1 = true then amR X n f false (tsA X n a).2.1 (whA ws (cs ++ [(tsA X n a).2.2])).1 (whA ws (cs ++ [(tsA X n a).2.2])).2
      else (false, (tsA X n a).2.1, cs))
    else if nxA X n a = 38 ∨ nxA X n a = 124 then amR X n f true (a + 1) (seA (nxA X n a) ws cs).1 (nxA X n a :: (seA (nxA X n a) ws cs).2)
    else if (seA 124 ws cs).2 = [] then (true, a, (seA 124 ws cs).1)
    else if nxA X n a = 41 then amR X n f false (a + 1) (whA (seA 124 ws cs).2.tail (seA 124 ws cs).1).1 (whA (seA 124 ws cs).2.tail (seA 124 ws cs).1).2
    else (false, a, (seA 124 ws cs).1)
/-- a clause: its word, its number, its codes -/
abbrev Cl : Type := Int32 × Int32 × List Int32
def hdA (X : Nat → Int32) (n a : Nat) : Bool × Nat × Int32 :=
  if nxA X n a = 99 then (if nxA X n (a + 1) = 97 then ((twA X n 7 4 0 a).1, (twA X n 7 4 0 a).2, 2) else ((twA X n 3 4 0 a).1, (twA X n 3 4 0 a).2, 1))
  else if nxA X n a = 115 then ((twA X n 0 3 0 a).1, (twA X n 0 3 0 a).2, 0) else ((twA X n 11 4 0 a).1, (twA X n 11 4 0 a).2, 3)
def clA (X : Nat → Int32) (n a : Nat) : Bool × Nat × Cl :=
  if (hdA X n a).1 = false then (false, (hdA X n a).2.1, 0, 0, []) else if ¬ dgA X n (hdA X n a).2.1 then (false, (hdA X n a).2.1, 0, 0, [])
  else if 1 < (hdA X n a).2.2 then (true, nuA X n (hdA X n a).2.1, (hdA X n a).2.2, nvA X n (hdA X n a).2.1, [])
  else if nxA X n (nuA X n (hdA X n a).2.1) = 32 then ((amR X n 101 true (nuA X n (hdA X n a).2.1 + 1) [] []).1, (amR X n 101 true (nuA X n (hdA X n a).2.1 + 1) [] []).2.1, (hdA X n a).2.2, nvA X n (hdA X n a).2.1, (amR X n 101 true (nuA X n (hdA X n a).2.1 + 1) [] []).2.2)
  else (false, nuA X n (hdA X n a).2.1, 0, 0, [])
/-- the text: clauses with ; between, ten at most -/
def gtA (X : Nat → Int32) (n : Nat) : Nat → Nat → List Cl → Bool × Nat × List Cl := fun f => match f with
  | 0 => fun a l => (false, a, l)
  | f + 1 => fun a l => if (clA X n a).1 = false then (false, (clA X n a).2.1, l) else if (clA X n a).2.1 = n then (true, n, l ++ [(clA X n a).2.2])
    else if l.length + 1 = 10 then (false, (clA X n a).2.1, l) else if nxA X n (clA X n a).2.1 = 59 then gtA X n f ((clA X n a).2.1 + 1) (l ++ [(clA X n a).2.2]) else (false, (clA X n a).2.1, l)
theorem gtA_s (X : Nat → Int32) (n f a : Nat) (l : List Cl) : gtA X n (f + 1) a l = if (clA X n a).1 = false then (false, (clA X n a).2.1, l) else if (clA X n a).2.1 = n then (true, n, l ++ [(clA X n a).2.2])
    else if l.length + 1 = 10 then (false, (clA X n a).2.1, l) else if nxA X n (clA X n a).2.1 = 59 then gtA X n f ((clA X n a).2.1 + 1) (l ++ [(clA X n a).2.2]) else (false, (clA X n a).2.1, l) := rfl
/-! the reference's memory while it reads -/
def TX (X : Nat → Int32) (n : Nat) (J : It) : Prop := J 0 17 = nI n ∧ n ≤ 100 ∧ ∀ j, j < n → J 9 j = X j
def AT (n a : Nat) (J : It) : Prop := J 0 18 = nI a ∧ a ≤ n
theorem TX.u {X : Nat → Int32} {n : Nat} {J : It} {q j : Nat} {x : Int32} (h : TX X n J) (h1 : ¬ (q = 0 ∧ j = 17)) (h2 : q ≠ 9) : TX X n (upI J q j x) :=
  ⟨(upn (fun z => h1 ⟨z.1.symm, z.2.symm⟩)).trans h.1, h.2.1, fun i hi => (upn (fun z => h2 z.1.symm)).trans (h.2.2 i hi)⟩
theorem AT.u {n a : Nat} {J : It} {q j : Nat} {x : Int32} (h : AT n a J) (h1 : ¬ (q = 0 ∧ j = 18)) : AT n a (upI J q j x) := ⟨(upn (fun z => h1 ⟨z.1.symm, z.2.symm⟩)).trans h.1, h.2⟩
theorem AT.w {n b : Nat} {J : It} (hb : b ≤ n) : AT n b (upI J 0 18 (nI b)) := ⟨up0 _ _ _ _, hb⟩
theorem TX.w {X : Nat → Int32} {n b : Nat} {J : It} (h : TX X n J) : TX X n (upI J 0 18 (nI b)) := h.u (by omega) (by decide)
theorem up_id {J : It} {q j : Nat} {x : Int32} (h : J q j = x) : upI J q j x = J := by
  funext a b
  unfold upI
  split
  · next e => rw [e.1, e.2, h]
  · rfl
theorem up_up {J : It} {q j : Nat} {x y : Int32} : upI (upI J q j x) q j y = upI J q j y := by
  funext a b
  unfold upI
  split
  · rfl
  · next e => first | rfl | rw [if_neg e]
theorem nxA_no {X : Nat → Int32} {n a : Nat} {c : Int32} (hc : c ≠ -1) (h : nxA X n a = c) : a < n := by
  unfold nxA at h
  by_cases z : a < n
  · exact z
  · rw [if_neg z] at h; exact absurd h.symm hc
theorem dgA_lt {X : Nat → Int32} {n a : Nat} (h : dgA X n a) : a < n := by
  by_cases z : a < n
  · exact z
  · have h1 := h.1
    unfold nxA at h1
    rw [if_neg z] at h1
    exact absurd h1 (by decide)
theorem nuA_le {X : Nat → Int32} {n a : Nat} (ha : a ≤ n) : nuA X n a ≤ n := by
  unfold nuA
  split
  · next h =>
    have := dgA_lt h
    split
    · next h2 => have := dgA_lt h2; omega
    · omega
  · exact ha
theorem nuA_gt {X : Nat → Int32} {n a : Nat} (h : dgA X n a) : a + 1 ≤ nuA X n a := by
  unfold nuA
  rw [if_pos h]
  split <;> omega
/-- the pile of what waits -/
def SK (J : It) : List Int32 → Prop := fun ws => match ws with
  | [] => True
  | x :: r => J 16 r.length = x ∧ SK J r
theorem SK.mv {J K : It} : ∀ {ws : List Int32}, SK J ws → (∀ j, j < ws.length → K 16 j = J 16 j) → SK K ws := by
  intro ws
  induction ws with
  | nil => intro _ _; trivial
  | cons x r ih =>
    intro h e
    simp only [List.length_cons] at e
    exact ⟨(e _ (by omega)).trans h.1, ih h.2 (fun j hj => e j (by omega))⟩
/-- what a clause's E may have written: row c of to, signs from fr on -/
def FrE (p c fr : Nat) (I J : It) : Prop := (∀ j, j ∉ [18, 19, 28, 29, 30] → J 0 j = I 0 j) ∧ (∀ a, a ∉ [0, 14, 15, 16] → J a = I a) ∧ (∀ j, j ≠ c → J 14 j = I 14 j) ∧ ∀ j, (j < fr ∨ 100 * p + 100 ≤ j) → J 15 j = I 15 j
theorem FrE.rf {p c fr : Nat} {I : It} : FrE p c fr I I := ⟨fun _ _ => rfl, fun _ _ => rfl, fun _ _ => rfl, fun _ _ => rfl⟩
theorem FrE.f {p c fr : Nat} {I J : It} {j : Nat} {x : Int32} (h : FrE p c fr I J) (hj : j ∈ [18, 19, 28, 29, 30]) : FrE p c fr I (upI J 0 j x) :=
  ⟨fun b hb => (upn (fun z => hb (by rw [z.2]; exact hj))).trans (h.1 b hb), fun a ha => (upI_off (by rintro rfl; revert ha; decide)).trans (h.2.1 a ha), fun b hb => (upn (fun z => absurd z.1 (by decide))).trans (h.2.2.1 b hb), fun b hb => (upn (fun z => absurd z.1 (by decide))).trans (h.2.2.2 b hb)⟩
theorem FrE.w16 {p c fr : Nat} {I J : It} {j : Nat} {x : Int32} (h : FrE p c fr I J) : FrE p c fr I (upI J 16 j x) :=
  ⟨fun b hb => (upn (fun z => absurd z.1 (by decide))).trans (h.1 b hb), fun a ha => (upI_off (by rintro rfl; revert ha; decide)).trans (h.2.1 a ha), fun b hb => (upn (fun z => absurd z.1 (by decide))).trans (h.2.2.1 b hb), fun b hb => (upn (fun z => absurd z.1 (by decide))).trans (h.2.2.2 b hb)⟩
theorem FrE.w15 {p c fr : Nat} {I J : It} {j : Nat} {x : Int32} (h : FrE p c fr I J) (h1 : fr ≤ j) (h2 : j < 100 * p + 100) : FrE p c fr I (upI J 15 j x) :=
  ⟨fun b hb => (upn (fun z => absurd z.1 (by decide))).trans (h.1 b hb), fun a ha => (upI_off (by rintro rfl; revert ha; decide)).trans (h.2.1 a ha), fun b hb => (upn (fun z => absurd z.1 (by decide))).trans (h.2.2.1 b hb), fun b hb => (upn (fun z => by have := z.2; omega)).trans (h.2.2.2 b hb)⟩
theorem FrE.w14 {p c fr : Nat} {I J : It} {x : Int32} (h : FrE p c fr I J) : FrE p c fr I (upI J 14 c x) :=
  ⟨fun b hb => (upn (fun z => absurd z.1 (by decide))).trans (h.1 b hb), fun a ha => (upI_off (by rintro rfl; revert ha; decide)).trans (h.2.1 a ha), fun b hb => (upn (fun z => hb z.2)).trans (h.2.2.1 b hb), fun b hb => (upn (fun z => absurd z.1 (by decide))).trans (h.2.2.2 b hb)⟩
theorem FrE.tr {p c fr : Nat} {I J K : It} (h : FrE p c fr I J) (h2 : FrE p c fr J K) : FrE p c fr I K :=
  ⟨fun j hj => (h2.1 j hj).trans (h.1 j hj), fun a ha => (h2.2.1 a ha).trans (h.2.1 a ha), fun b hb => (h2.2.2.1 b hb).trans (h.2.2.1 b hb), fun b hb => (h2.2.2.2 b hb).trans (h.2.2.2 b hb)⟩
/-- the codes from fr on -/
def CD (fr : Nat) (J : It) (cs : List Int32) : Prop := ∀ i, i < cs.length → J 15 (fr + i) = cs.getD i 0
theorem CD.put {fr : Nat} {J : It} {cs : List Int32} {x : Int32} (h : CD fr J cs) : CD fr (upI J 15 (fr + cs.length) x) (cs ++ [x]) := by
  intro i hi
  simp only [List.length_append, List.length_cons, List.length_nil] at hi
  by_cases e : i = cs.length
  · subst e; rw [up0]; simp
  · rw [upn (by omega), h i (by omega)]
    have : i < cs.length := by omega
    simp [List.getD_eq_getElem?_getD, List.getElem?_append_left this]
theorem CD.u {fr : Nat} {J : It} {cs : List Int32} {q j : Nat} {x : Int32} (h : CD fr J cs) (hq : q ≠ 15) : CD fr (upI J q j x) cs := fun i hi => (upn (fun z => hq z.1.symm)).trans (h i hi)
/-- the machine's state in memory -/
def MZ (p c fr : Nat) (X : Nat → Int32) (n : Nat) (I J : It) (a : Nat) (cs ws : List Int32) : Prop :=
  FrE p c fr I J ∧ TX X n J ∧ AT n a J ∧ (J 0 28 = nI (fr + cs.length) ∧ 100 * p ≤ fr ∧ fr + cs.length + ws.length ≤ 100 * p + a) ∧ CD fr J cs ∧ J 0 29 = nI ws.length ∧ SK J ws ∧ J 0 30 = nI (opn ws)
/-- a place come to, nothing more -/
def MF (p c fr : Nat) (X : Nat → Int32) (n : Nat) (I J : It) (a : Nat) : Prop := FrE p c fr I J ∧ TX X n J ∧ AT n a J
theorem MZ.mf {p c fr : Nat} {X : Nat → Int32} {n : Nat} {I J : It} {a : Nat} {cs ws : List Int32} (h : MZ p c fr X n I J a cs ws) : MF p c fr X n I J a := ⟨h.1, h.2.1, h.2.2.1⟩
/-- an ! that waits is put -/
theorem MZ.bang {p c fr : Nat} {X : Nat → Int32} {n : Nat} {I J : It} {a : Nat} {cs r : List Int32} (h : MZ p c fr X n I J a cs (33 :: r)) :
    MZ p c fr X n I (upI (upI (upI (upI J 15 (fr + cs.length) (-33)) 0 28 (nI (fr + cs.length + 1))) 0 29 (nI r.length)) 0 30 (nI (opn r))) a (cs ++ [-33]) r := by
  obtain ⟨h1, h2, h3, ⟨h4, h5, h6⟩, h7, h8, h9, h10⟩ := h
  have hn := h2.2.1
  have ha := h3.2
  simp only [List.length_cons] at h6
  refine ⟨(((h1.w15 (by omega) (by omega)).f (by decide)).f (by decide)).f (by decide), (((h2.u (by omega) (by decide)).u (by omega) (by decide)).u (by omega) (by decide)).u (by omega) (by decide), (((h3.u (by omega)).u (by omega)).u (by omega)).u (by omega), ⟨?_, h5, ?_⟩, ((h7.put.u (by omega)).u (by omega)).u (by omega), ?_, h9.2.mv (fun j hj => rfl), up0 _ _ _ _⟩
  · simp only [List.length_append, List.length_cons, List.length_nil]
    rw [show fr + (cs.length + (0 + 1)) = fr + cs.length + 1 by omega]; rfl
  · simp only [List.length_append, List.length_cons, List.length_nil]; omega
  · rfl
/-- an operator that waits is put -/
theorem MZ.op {p c fr : Nat} {X : Nat → Int32} {n : Nat} {I J : It} {a : Nat} {cs r : List Int32} {x : Int32} (h : MZ p c fr X n I J a cs (x :: r)) (hx : ¬ (x = 33 ∨ x = 40)) :
    MZ p c fr X n I (upI (upI (upI J 0 29 (nI r.length)) 15 (fr + cs.length) (-x)) 0 28 (nI (fr + cs.length + 1))) a (cs ++ [-x]) r := by
  obtain ⟨h1, h2, h3, ⟨h4, h5, h6⟩, h7, h8, h9, h10⟩ := h
  have hn := h2.2.1
  have ha := h3.2
  simp only [List.length_cons] at h6
  rw [opn_c, if_neg hx] at h10
  refine ⟨((h1.f (by decide)).w15 (by omega) (by omega)).f (by decide), ((h2.u (by omega) (by decide)).u (by omega) (by decide)).u (by omega) (by decide), ((h3.u (by omega)).u (by omega)).u (by omega), ⟨?_, h5, ?_⟩, ((h7.u (by omega)).put).u (by omega), ?_, h9.2.mv (fun j hj => rfl), ?_⟩
  · simp only [List.length_append, List.length_cons, List.length_nil]
    rw [show fr + (cs.length + (0 + 1)) = fr + cs.length + 1 by omega]; exact up0 _ _ _ _
  · simp only [List.length_append, List.length_cons, List.length_nil]; omega
  · rfl
  · exact h10
/-- a place further on -/
theorem MZ.at {p c fr : Nat} {X : Nat → Int32} {n : Nat} {I J : It} {a b : Nat} {cs ws : List Int32} (h : MZ p c fr X n I J a cs ws) (hab : a ≤ b) (hb : b ≤ n) : MZ p c fr X n I (upI J 0 18 (nI b)) b cs ws := by
  obtain ⟨h1, h2, h3, ⟨h4, h5, h6⟩, h7, h8, h9, h10⟩ := h
  exact ⟨h1.f (by decide), h2.w, ⟨up0 _ _ _ _, hb⟩, ⟨(upn (by decide)).trans h4, h5, by omega⟩, h7.u (by omega), (upn (by decide)).trans h8, h9.mv (fun j hj => rfl), (upn (by decide)).trans h10⟩
theorem MZ.dg {p c fr : Nat} {X : Nat → Int32} {n : Nat} {I J : It} {a : Nat} {cs ws : List Int32} {x : Int32} (h : MZ p c fr X n I J a cs ws) : MZ p c fr X n I (upI J 0 19 x) a cs ws := by
  obtain ⟨h1, h2, h3, ⟨h4, h5, h6⟩, h7, h8, h9, h10⟩ := h
  exact ⟨h1.f (by decide), h2.u (by omega) (by decide), h3.u (by omega), ⟨(upn (by decide)).trans h4, h5, h6⟩, h7.u (by omega), (upn (by decide)).trans h8, h9.mv (fun j hj => rfl), (upn (by decide)).trans h10⟩
/-- a code is put, a sign having been read for it -/
theorem MZ.code {p c fr : Nat} {X : Nat → Int32} {n : Nat} {I J : It} {a b : Nat} {cs ws : List Int32} {x : Int32} (h : MZ p c fr X n I J a cs ws) (hab : a < b) (hb : b ≤ n) : MZ p c fr X n I (upI (upI (upI J 0 18 (nI b)) 15 (fr + cs.length) x) 0 28 (nI (fr + cs.length + 1))) b (cs ++ [x]) ws := by
  obtain ⟨h1, h2, h3, ⟨h4, h5, h6⟩, h7, h8, h9, h10⟩ := h
  have hn := h2.2.1
  refine ⟨((h1.f (by decide)).w15 (by omega) (by omega)).f (by decide), (h2.w.u (by omega) (by decide)).u (by omega) (by decide), ⟨rfl, hb⟩, ⟨?_, h5, ?_⟩, ((h7.u (by omega)).put).u (by omega), h8, h9.mv (fun j hj => rfl), h10⟩
  · simp only [List.length_append, List.length_cons, List.length_nil]
    rw [show fr + (cs.length + (0 + 1)) = fr + cs.length + 1 by omega]; exact up0 _ _ _ _
  · simp only [List.length_append, List.length_cons, List.length_nil]; omega
/-- a sign is put to what waits -/
theorem MZ.push {p c fr : Nat} {X : Nat → Int32} {n : Nat} {I J : It} {a : Nat} {cs ws : List Int32} {x o : Int32} (h : MZ p c fr X n I J a cs ws) (ha : a < n) (ho : o = nI (opn (x :: ws))) :
    MZ p c fr X n I (upI (upI (upI (upI J 0 30 o) 16 ws.length x) 0 29 (nI (ws.length + 1))) 0 18 (nI (a + 1))) (a + 1) cs (x :: ws) := by
  obtain ⟨h1, h2, h3, ⟨h4, h5, h6⟩, h7, h8, h9, h10⟩ := h
  refine ⟨(((h1.f (by decide)).w16).f (by decide)).f (by decide), (((h2.u (by omega) (by decide)).u (by omega) (by decide)).u (by omega) (by decide)).w, ⟨rfl, ha⟩, ⟨h4, h5, ?_⟩, (((h7.u (by omega)).u (by omega)).u (by omega)).u (by omega), ?_, ⟨up0 (upI J 0 30 o) 16 ws.length x, h9.mv (fun j hj => ?_)⟩, ho⟩
  · simp only [List.length_cons]; omega
  · rfl
  · show upI (upI J 0 30 o) 16 ws.length x 16 j = J 16 j
    rw [upn (by omega)]; rfl
/-- what waits on top is taken away -/
theorem MZ.pop {p c fr : Nat} {X : Nat → Int32} {n : Nat} {I J : It} {a : Nat} {cs r : List Int32} {x : Int32} (h : MZ p c fr X n I J a cs (x :: r)) (ha : a < n) :
    MZ p c fr X n I (upI (upI (upI J 0 29 (nI r.length)) 0 30 (nI (opn r))) 0 18 (nI (a + 1))) (a + 1) cs r := by
  obtain ⟨h1, h2, h3, ⟨h4, h5, h6⟩, h7, h8, h9, h10⟩ := h
  simp only [List.length_cons] at h6
  exact ⟨((h1.f (by decide)).f (by decide)).f (by decide), ((h2.u (by omega) (by decide)).u (by omega) (by decide)).w, ⟨rfl, ha⟩, ⟨h4, h5, by omega⟩, ((h7.u (by omega)).u (by omega)).u (by omega), rfl, h9.2.mv (fun j hj => rfl), rfl⟩
theorem MZ.w14 {p c fr : Nat} {X : Nat → Int32} {n : Nat} {I J : It} {a : Nat} {cs ws : List Int32} {x : Int32} (h : MZ p c fr X n I J a cs ws) : MZ p c fr X n I (upI J 14 c x) a cs ws := by
  obtain ⟨h1, h2, h3, ⟨h4, h5, h6⟩, h7, h8, h9, h10⟩ := h
  exact ⟨h1.w14, h2.u (by omega) (by decide), h3.u (by omega), ⟨h4, h5, h6⟩, h7.u (by omega), h8, h9.mv (fun j hj => rfl), h10⟩
theorem opn_le : ∀ ws : List Int32, opn ws ≤ ws.length := by
  intro ws
  induction ws with
  | nil => exact Nat.le_refl _
  | cons x r ih =>
    rw [opn_c, List.length_cons]
    split <;> omega
def okW (ws : List Int32) : Prop := ∀ x, x ∈ ws → x = 33 ∨ x = 40 ∨ x = 38 ∨ x = 124
theorem okW.tl {x : Int32} {r : List Int32} (h : okW (x :: r)) : okW r := fun y hy => h y (List.mem_cons_of_mem _ hy)
theorem okW.cn {x : Int32} {r : List Int32} (h : okW r) (hx : x = 33 ∨ x = 40 ∨ x = 38 ∨ x = 124) : okW (x :: r) := by
  intro y hy
  rcases List.mem_cons.mp hy with rfl | z
  · exact hx
  · exact h y z
theorem okW.wh {ws : List Int32} (h : okW ws) : ∀ cs, okW (whA ws cs).2 := by
  induction ws with
  | nil => intro cs; exact h
  | cons x r ih =>
    intro cs
    rw [whA_c]
    split
    · exact ih h.tl _
    · exact h
theorem okW.se {ws : List Int32} {s : Int32} (h : okW ws) : ∀ cs, okW (seA s ws cs).2 := by
  induction ws with
  | nil => intro cs; exact h
  | cons x r ih =>
    intro cs
    rw [seA_c]
    split
    · exact ih h.tl _
    · split
      · split
        · exact h
        · exact ih h.tl _
      · exact h
/-- behind settle of |, no operator is on top -/
theorem se_top {x : Int32} {r : List Int32} : ∀ {ws cs : List Int32}, (seA 124 ws cs).2 = x :: r → x ≠ 38 ∧ x ≠ 124 := by
  intro ws
  induction ws with
  | nil => intro cs h; cases h
  | cons y t ih =>
    intro cs h
    rw [seA_c] at h
    by_cases e : y = 38
    · rw [if_pos e] at h; exact ih h
    · rw [if_neg e] at h
      by_cases e2 : y = 124
      · rw [if_pos e2, if_neg (by decide)] at h; exact ih h
      · rw [if_neg e2] at h
        cases h
        exact ⟨e, e2⟩
theorem MZ.push0 {p c fr : Nat} {X : Nat → Int32} {n : Nat} {I J : It} {a : Nat} {cs ws : List Int32} {x : Int32} (h : MZ p c fr X n I J a cs ws) (ha : a < n) (hx : ¬ (x = 33 ∨ x = 40)) :
    MZ p c fr X n I (upI (upI (upI J 16 ws.length x) 0 29 (nI (ws.length + 1))) 0 18 (nI (a + 1))) (a + 1) cs (x :: ws) := by
  have := h.push (x := x) ha rfl
  rwa [up_id (h.2.2.2.2.2.2.2.trans (by rw [opn_c, if_neg hx]))] at this
theorem MZ.lt {p c fr : Nat} {X : Nat → Int32} {n : Nat} {I J : It} {a : Nat} {cs ws : List Int32} (h : MZ p c fr X n I J a cs ws) : a ≤ n ∧ n ≤ 100 ∧ ws.length ≤ a ∧ 100 * p ≤ fr ∧ fr + cs.length + ws.length ≤ 100 * p + a :=
  ⟨h.2.2.1.2, h.2.1.2.1, by have := h.2.2.2.1; omega, h.2.2.2.1.2.1, h.2.2.2.1.2.2⟩
section AM
variable {X : Nat → Int32} {n f a : Nat} {cs ws : List Int32}
theorem amR_1 : amR X n (f + 1) true a cs ws = (if nxA X n a = 33 ∨ nxA X n a = 40 then (if opn ws = 4 then (false, a, cs) else amR X n f true (a + 1) cs (nxA X n a :: ws))
      else if (tsA X n a).1 = true then amR X n f false (tsA X n a).2.1 (whA ws (cs ++ [(tsA X n a).2.2])).1 (whA ws (cs ++ [(tsA X n a).2.2])).2
      else (false, (tsA X n a).2.1, cs)) := rfl
theorem amR_0 : amR X n (f + 1) false a cs ws = (if nxA X n a = 38 ∨ nxA X n a = 124 then amR X n f true (a + 1) (seA (nxA X n a) ws cs).1 (nxA X n a :: (seA (nxA X n a) ws cs).2)
    else if (seA 124 ws cs).2 = [] then (true, a, (seA 124 ws cs).1)
    else if nxA X n a = 41 then amR X n f false (a + 1) (whA (seA 124 ws cs).2.tail (seA 124 ws cs).1).1 (whA (seA 124 ws cs).2.tail (seA 124 ws cs).1).2
    else (false, a, (seA 124 ws cs).1)) := rfl
theorem am_o (h : nxA X n a = 33 ∨ nxA X n a = 40) (h4 : ¬ opn ws = 4) : amR X n (f + 1) true a cs ws = amR X n f true (a + 1) cs (nxA X n a :: ws) := by
  rw [amR_1, if_pos h, if_neg h4]
theorem am_o4 (h : nxA X n a = 33 ∨ nxA X n a = 40) (h4 : opn ws = 4) : amR X n (f + 1) true a cs ws = (false, a, cs) := by
  rw [amR_1, if_pos h, if_pos h4]
theorem am_t (h : ¬ (nxA X n a = 33 ∨ nxA X n a = 40)) (h4 : (tsA X n a).1 = true) : amR X n (f + 1) true a cs ws = amR X n f false (tsA X n a).2.1 (whA ws (cs ++ [(tsA X n a).2.2])).1 (whA ws (cs ++ [(tsA X n a).2.2])).2 := by
  rw [amR_1, if_neg h, if_pos h4]
theorem am_tf (h : ¬ (nxA X n a = 33 ∨ nxA X n a = 40)) (h4 : ¬ (tsA X n a).1 = true) : amR X n (f + 1) true a cs ws = (false, (tsA X n a).2.1, cs) := by
  rw [amR_1, if_neg h, if_neg h4]
theorem am_b (h : nxA X n a = 38 ∨ nxA X n a = 124) : amR X n (f + 1) false a cs ws = amR X n f true (a + 1) (seA (nxA X n a) ws cs).1 (nxA X n a :: (seA (nxA X n a) ws cs).2) := by
  rw [amR_0, if_pos h]
theorem am_e (h : ¬ (nxA X n a = 38 ∨ nxA X n a = 124)) (h2 : (seA 124 ws cs).2 = []) : amR X n (f + 1) false a cs ws = (true, a, (seA 124 ws cs).1) := by
  rw [amR_0, if_neg h, if_pos h2]
theorem am_c (h : ¬ (nxA X n a = 38 ∨ nxA X n a = 124)) (h2 : ¬ (seA 124 ws cs).2 = []) (h3 : nxA X n a = 41) : amR X n (f + 1) false a cs ws = amR X n f false (a + 1) (whA (seA 124 ws cs).2.tail (seA 124 ws cs).1).1 (whA (seA 124 ws cs).2.tail (seA 124 ws cs).1).2 := by
  rw [amR_0, if_neg h, if_neg h2, if_pos h3]
theorem am_x (h : ¬ (nxA X n a = 38 ∨ nxA X n a = 124)) (h2 : ¬ (seA 124 ws cs).2 = []) (h3 : ¬ nxA X n a = 41) : amR X n (f + 1) false a cs ws = (false, a, (seA 124 ws cs).1) := by
  rw [amR_0, if_neg h, if_neg h2, if_neg h3]
end AM
theorem pl_lt {X : Nat → Int32} {n a : Nat} (h : 0 ≤ plA (nxA X n a)) : a < n := by
  by_cases z : a < n
  · exact z
  · have e : nxA X n a = -1 := if_neg z
    rw [e] at h
    exact absurd h (by decide)
theorem in_lt {X : Nat → Int32} {n a : Nat} (h : 60 ≤ nxA X n a ∧ nxA X n a ≤ 62) : a < n := by
  by_cases z : a < n
  · exact z
  · have e : nxA X n a = -1 := if_neg z
    rw [e] at h
    exact absurd h (by decide)
theorem ne_cons {r : List Int32} (h : ¬ nI r.length ≤ 0) : ∃ x t, r = x :: t := by
  cases r with
  | nil => exact absurd (by decide) h
  | cons x t => exact ⟨x, t, rfl⟩
theorem nil_of {r : List Int32} (hl : r.length < 2 ^ 31) (h : nI r.length ≤ 0) : r = [] := by
  have := (nI_leI (b := 0) hl (by decide)).mp h
  exact List.length_eq_zero_iff.mp (by omega)
theorem nil_0 {r : List Int32} (hl : r.length < 2 ^ 31) (h : nI r.length = 0) : r = [] := nil_of hl (by rw [h]; decide)
theorem cons_0 {r : List Int32} (hl : r.length < 2 ^ 31) (h : ¬ nI r.length = 0) : ∃ x t, r = x :: t := by
  cases r with
  | nil => exact absurd rfl h
  | cons x t => exact ⟨x, t, rfl⟩
theorem ts_gt {X : Nat → Int32} {n a : Nat} (h : (tsA X n a).1 = true) : a + 3 ≤ (tsA X n a).2.1 := by
  unfold tsA at h ⊢
  split at h
  · exact absurd h Bool.false_ne_true
  · split at h
    · exact absurd h Bool.false_ne_true
    · split at h
      · exact absurd h Bool.false_ne_true
      · next h1 h2 h3 =>
        rw [if_neg h1, if_neg h2, if_neg h3]
        have := nuA_gt (Decidable.not_not.mp h3)
        show a + 3 ≤ nuA X n (a + 2)
        omega
/-- what a clause may have written -/
def FC (p c fr : Nat) (I J : It) : Prop := (∀ j, j ∉ [18, 19, 28, 29, 30] → J 0 j = I 0 j) ∧ (∀ a, a ∉ [0, 11, 12, 13, 14, 15, 16] → J a = I a) ∧ (∀ j, j ≠ c → J 11 j = I 11 j ∧ J 12 j = I 12 j ∧ J 13 j = I 13 j ∧ J 14 j = I 14 j) ∧ ∀ j, (j < fr ∨ 100 * p + 100 ≤ j) → J 15 j = I 15 j
def teI (I : It) (c : Nat) (v : Int32) : It := upI (upI (upI I 0 29 0) 0 30 0) 13 c v
theorem FC.of {p c fr : Nat} {I J : It} {v : Int32} (h : FrE p c fr (teI I c v) J) : FC p c fr I J ∧ J 13 c = v ∧ J 11 = I 11 ∧ J 12 = I 12 := by
  obtain ⟨h1, h2, h3, h4⟩ := h
  have g : ∀ a, a ≠ 0 → a ≠ 13 → teI I c v a = I a := fun a h0 h13 => (upI_off h13).trans ((upI_off h0).trans (upI_off h0))
  have g13 : ∀ j, j ≠ c → teI I c v 13 j = I 13 j := fun j hj => (upn (fun z => hj z.2)).trans ((upn (fun z => absurd z.1 (by decide))).trans (upn (fun z => absurd z.1 (by decide))))
  refine ⟨⟨fun j hj => (h1 j hj).trans ?_, fun a ha => (h2 a (by revert ha; simp; omega)).trans (g a (by revert ha; simp; omega) (by revert ha; simp; omega)), fun j hj => ⟨?_, ?_, ?_, ?_⟩, fun j hj => (h4 j hj).trans (congrFun (g 15 (by decide) (by decide)) j)⟩, ?_, ?_, ?_⟩
  · unfold teI
    simp only [List.mem_cons, List.not_mem_nil, or_false, not_or] at hj
    rw [upn (by omega), upn (by omega), upn (by omega)]
  · rw [h2 11 (by decide), g 11 (by decide) (by decide)]
  · rw [h2 12 (by decide), g 12 (by decide) (by decide)]
  · rw [h2 13 (by decide), g13 j hj]
  · rw [h3 j hj, g 14 (by decide) (by decide)]
  · rw [h2 13 (by decide)]; exact up0 _ _ _ _
  · rw [h2 11 (by decide), g 11 (by decide) (by decide)]
  · rw [h2 12 (by decide), g 12 (by decide) (by decide)]
theorem MZ.start {p c fr : Nat} {X : Nat → Int32} {n : Nat} {I : It} {a : Nat} (hT : TX X n I) (hA : AT n a I) (h28 : I 0 28 = nI fr) (h1 : 100 * p ≤ fr) (h2 : fr ≤ 100 * p + a) : MZ p c fr X n (teI I c (nI fr)) (teI I c (nI fr)) a [] [] :=
  ⟨FrE.rf, ((hT.u (by omega) (by decide)).u (by omega) (by decide)).u (by omega) (by decide), ((hA.u (by omega)).u (by omega)).u (by omega), ⟨h28, h1, h2⟩, fun i hi => absurd hi (Nat.not_lt_zero i), rfl, trivial, rfl⟩

