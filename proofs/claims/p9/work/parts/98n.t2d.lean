/-! what is looked at, what is heard: the class's scratch against the picture -/
def DM (E J : It) : Prop := ∀ d, d < cnt E → ∀ r, r < 60 → J 15 (d * 60 + r) = -1 ∨ J 15 (d * 60 + r) = dearF E d (nI r)
theorem DM.o {E J K : It} (h : DM E J) (e : K 15 = J 15) : DM E K := fun d hd r hr => by rw [e]; exact h d hd r hr
/-- dear laid for the first d of a set, from world I on -/
def LD (E : It) (u : Int32) (x d : Nat) (I J : It) : Prop := (∀ a, a ≠ 15 → J a = I a) ∧ DM E J ∧ (∀ q, q < d → q < cnt E → gb u q = true → J 15 (q * 60 + x % 60) = dearF E q (nI (x % 60))) ∧ ∀ q r, q < cnt E → r < 60 → I 15 (q * 60 + r) = dearF E q (nI r) → J 15 (q * 60 + r) = dearF E q (nI r)
theorem LD.a {E I J : It} {u : Int32} {x d : Nat} (h : LD E u x d I J) (hu : gb u d = false) : LD E u x (d + 1) I J := by
  refine ⟨h.1, h.2.1, fun q hq hc hg => ?_, h.2.2.2⟩
  by_cases e : q = d
  · subst e; rw [hu] at hg; exact absurd hg (by decide)
  · exact h.2.2.1 q (by omega) hc hg
theorem LD.b {E I J : It} {u : Int32} {x d : Nat} (h : LD E u x d I J) (hd : d < cnt E) (hv : 0 ≤ J 15 (d * 60 + x % 60)) : LD E u x (d + 1) I J := by
  refine ⟨h.1, h.2.1, fun q hq hc hg => ?_, h.2.2.2⟩
  by_cases e : q = d
  · subst e
    rcases h.2.1 q hd (x % 60) (Nat.mod_lt _ (by decide)) with z | z
    · rw [z] at hv; exact absurd hv (by decide)
    · exact z
  · exact h.2.2.1 q (by omega) hc hg
theorem LD.c {E I J : It} {u : Int32} {x d : Nat} (h : LD E u x d I J) : LD E u x (d + 1) I (upI J 15 (d * 60 + x % 60) (dearF E d (nI (x % 60)))) := by
  have hm := Nat.mod_lt x (show 0 < 60 by decide)
  have key : ∀ q r, r < 60 → (q * 60 + r = d * 60 + x % 60) → q = d ∧ r = x % 60 := fun q r h1 h2 => by omega
  refine ⟨fun a ha => (upI_off ha).trans (h.1 a ha), fun q hq r hr => ?_, fun q hq hc hg => ?_, fun q r hq hr hI => ?_⟩
  · by_cases e : q * 60 + r = d * 60 + x % 60
    · obtain ⟨e1, e2⟩ := key q r hr e
      subst e1; subst e2
      exact Or.inr (up0 _ _ _ _)
    · rw [upn (fun z => e z.2)]; exact h.2.1 q hq r hr
  · by_cases e : q = d
    · subst e; exact up0 _ _ _ _
    · rw [upn (fun z => e (key q _ hm z.2).1)]; exact h.2.2.1 q (by omega) hc hg
  · by_cases e : q * 60 + r = d * 60 + x % 60
    · obtain ⟨e1, e2⟩ := key q r hr e
      subst e1; subst e2
      exact up0 _ _ _ _
    · rw [upn (fun z => e z.2)]; exact h.2.2.2 q r hq hr hI
/-- m weeks are looked at -/
def AH (E J : It) (m : Nat) : Prop := (∀ o, o < m → J 14 o = cbF E (wk E + o)) ∧ ∀ o d, o < m → d < cnt E → comesF E d (wk E + o) → J 15 (d * 60 + (wk E + o) % 60) = dearF E d (nI ((wk E + o) % 60))
theorem AH.o {E J K : It} {m : Nat} (h : AH E J m) (e1 : K 14 = J 14) (e2 : K 15 = J 15) : AH E K m := by unfold AH; rw [e1, e2]; exact h
theorem AH.p2 {E J K : It} {m : Nat} (h : AH E J m) (hP : P2 J K) : AH E K m := h.o (hP.1 14 (by decide) (by decide)) (hP.1 15 (by decide) (by decide))
theorem AH.z (E J : It) : AH E J 0 := ⟨fun o ho => absurd ho (Nat.not_lt_zero o), fun o d ho => absurd ho (Nat.not_lt_zero o)⟩
theorem AH.s {E J K K2 : It} {m : Nat} (hE : Inv E) (h : AH E J m) (eK : K = upI J 14 m (cbF E (wk E + m))) (hL : LD E (cbF E (wk E + m)) (wk E + m) (cnt E) K K2) : AH E K2 (m + 1) := by
  have hc := (inv_cnt hE).2
  have e14 : K2 14 = K 14 := hL.1 14 (by decide)
  refine ⟨fun o ho => ?_, fun o d ho hd hcm => ?_⟩
  · rw [e14, eK]
    by_cases e : o = m
    · subst e; exact up0 _ _ _ _
    · rw [upn (fun z => e z.2)]; exact h.1 o (by omega)
  · by_cases e : o = m
    · subst e
      refine hL.2.2.1 d hd hd ?_
      rw [cbF_gb hE _ hd]
      exact @decide_eq_true _ (dcC E d (wk E + o)) hcm
    · refine hL.2.2.2 d _ hd (Nat.mod_lt _ (by decide)) ?_
      rw [eK]
      exact (upn (fun z => absurd z.1 (by decide))).trans (h.2 o d (by omega) hd hcm)
theorem AH.d {E J : It} {m o d : Nat} (hE : Inv E) (h : AH E J m) (ho : o < m) (hm : m ≤ 200) (hd : d < cnt E) {idl kn : Int32} (hg : gb (whoF E idl kn (wk E + o)) d = true) : J 15 (d * 60 + (wk E + o) % 60) = dearF E d (nI (wk E + o)) := by
  have hw := (inv_wk hE).2
  rw [dear_60 (by omega)]
  refine h.2 o d ho hd ?_
  rw [who_gb hE hd] at hg
  by_cases z : comesF E d (wk E + o)
  · exact z
  · rw [@decide_eq_false _ (dcC E d (wk E + o)) z] at hg; exact absurd hg (by simp)
/-- SAID of each by each way -/
def HD (E J : It) : Prop := ∀ d, d < cnt E → ∀ y, y < 4 → J (17 + d) y = sayF E d (nI y)
theorem HD.o {E J K : It} (h : HD E J) (e : ∀ a, 17 ≤ a → a < 27 → K a = J a) (hE : Inv E) : HD E K := fun d hd y hy => by
  have := (inv_cnt hE).2
  rw [e _ (by omega) (by omega)]; exact h d hd y hy
theorem svA_e {E : It} {by_ hr : Nat → Int32} {d : Nat} (h : ∀ y, y < 4 → by_ y = sayF E d (nI y)) : ∀ (k y : Nat) (z : Int32), y + k ≤ 4 → svA by_ hr k y z = allR E hr d k y z := by
  intro k
  induction k with
  | zero => intro y z _; rfl
  | succ k ih => intro y z hk; rw [svA_s, allR_s, h y (by omega)]; exact ih (y + 1) _ (by omega)
theorem sv_e {E : It} {by_ hr : Nat → Int32} {d : Nat} (hE : Inv E) (hd : d < cnt E) (h : ∀ y, y < 4 → by_ y = sayF E d (nI y)) : svC (kcl (E 1 d)) (E 2 d) by_ hr = saidF E hr d := by
  obtain ⟨⟨x, hx, ex⟩, -⟩ := inv_d hE hd
  have h0 : svA by_ hr 4 0 0 = allF E hr d 0 := svA_e h 4 0 0 (by decide)
  have h2 : hr 2 * by_ 2 + hr 3 * by_ 3 = allF E hr d 2 := by
    rw [h 2 (by decide), h 3 (by decide)]
    show _ = 0 + hr 2 * sayF E d (nI 2) + hr 3 * sayF E d (nI 3)
    rw [Int32.zero_add]
  unfold saidF
  rw [ex]
  rcases (by omega : x = 0 ∨ x = 1 ∨ x = 2 ∨ x = 3 ∨ x = 4 ∨ x = 5 ∨ x = 6) with rfl | rfl | rfl | rfl | rfl | rfl | rfl
  · rw [show kcl (nI 0) = 1 by decide, svC_1, h0]; rfl
  · rw [show kcl (nI 1) = 9 by decide, svC_9, h0]; rfl
  · rw [show kcl (nI 2) = 2 by decide, svC_2, h2]; rfl
  · rw [show kcl (nI 3) = 4 by decide, svC_4, h0]; rfl
  · rw [show kcl (nI 4) = 8 by decide, svC_8, h0]; rfl
  · rw [show kcl (nI 5) = 6 by decide, svC_6, h2]; rfl
  · rw [show kcl (nI 6) = 10 by decide, svC_10, h0]; rfl
/-! the numbers of a pass -/
def TA6 (J : It) (idl : Int32) (a : WS) : Prop := match a with
  | (had, kn, co, st, ca, fw, fd) => J 13 6 = idl ∧ J 13 8 = had ∧ J 13 9 = kn ∧ J 13 7 = co ∧ J 13 10 = st ∧ J 13 11 = ca ∧ J 13 12 = fw ∧ J 13 13 = fd
def TAx (J : It) (idl : Int32) (a : WS) : Prop := match a with
  | (_, kn, co, st, ca, fw, fd) => J 13 6 = idl ∧ J 13 9 = kn ∧ J 13 7 = co ∧ J 13 10 = st ∧ J 13 11 = ca ∧ J 13 12 = fw ∧ J 13 13 = fd
theorem TA6.x {J : It} {idl : Int32} {a : WS} (h : TA6 J idl a) : TAx J idl a := by
  obtain ⟨had, kn, co, st, ca, fw, fd⟩ := a
  exact ⟨h.1, h.2.2⟩
theorem TAx.e {J : It} {idl : Int32} {a b : WS} (h : TAx J idl a) (e : a.2 = b.2) : TAx J idl b := by
  obtain ⟨had, r⟩ := a
  obtain ⟨had2, r2⟩ := b
  replace e : r = r2 := e
  subst e
  exact h
theorem TAx.all {J : It} {idl : Int32} {a : WS} (h : TAx J idl a) : J 13 9 = a.2.1 ∧ J 13 7 = a.2.2.1 ∧ J 13 10 = a.2.2.2.1 ∧ J 13 11 = a.2.2.2.2.1 ∧ J 13 12 = a.2.2.2.2.2.1 ∧ J 13 13 = a.2.2.2.2.2.2 := by
  obtain ⟨had, kn, co, st, ca, fw, fd⟩ := a
  exact h.2
theorem TAx.start {J : It} {idl had kn co st ca fw fd : Int32} (h : TAx J idl (had, kn, co, st, ca, fw, fd)) : TA6 (upI J 13 8 0) idl (0, kn, co, st, ca, fw, fd) := by
  obtain ⟨h1, h2, h3, h4, h5, h6, h7⟩ := h
  exact ⟨h1, rfl, h2, h3, h4, h5, h6, h7⟩
theorem TAx.u27 {J : It} {idl x : Int32} {j : Nat} {a : WS} (h : TAx J idl a) : TAx (upI J 27 j x) idl a := by
  obtain ⟨had, kn, co, st, ca, fw, fd⟩ := a
  exact h
theorem kl_t {E : It} {d : Nat} (h : learnsF E d) : klV E d = 1 := @if_pos _ (dcL E d) h _ _ _
theorem kl_f {E : It} {d : Nat} (h : ¬ learnsF E d) : klV E d = 0 := @if_neg _ (dcL E d) h _ _ _
theorem kc_e {E : It} (hE : Inv E) {d : Nat} (hd : d < cnt E) : kbC (kcl (E 1 d)) = kcV E d ∧ kbS (kcl (E 1 d)) (E 2 d) = klV E d := by
  obtain ⟨⟨x, hx, ex⟩, -⟩ := inv_d hE hd
  have hx7 : x = 0 ∨ x = 1 ∨ x = 2 ∨ x = 3 ∨ x = 4 ∨ x = 5 ∨ x = 6 := by omega
  have l1 : learnsF E d ↔ (((nI x = 3 ∨ nI x = 6) ∧ E 2 d = 0) ∨ ((nI x = 2 ∨ nI x = 5) ∧ 4 < E 2 d)) := by unfold learnsF; rw [ex]
  refine ⟨?_, ?_⟩
  · unfold kcV; rw [ex]
    rcases hx7 with rfl | rfl | rfl | rfl | rfl | rfl | rfl <;> decide
  · rw [ex]
    have non : (x ≠ 2 ∧ x ≠ 3 ∧ x ≠ 5 ∧ x ≠ 6) → klV E d = 0 := fun q => kl_f (fun z => by
      rcases l1.mp z with ⟨z | z, -⟩ | ⟨z | z, -⟩
      · exact q.2.1 ((nI_eq (b := 3) (by omega) (by decide)).mp z)
      · exact q.2.2.2 ((nI_eq (b := 6) (by omega) (by decide)).mp z)
      · exact q.1 ((nI_eq (b := 2) (by omega) (by decide)).mp z)
      · exact q.2.2.1 ((nI_eq (b := 5) (by omega) (by decide)).mp z))
    have p4 : (x = 2 ∨ x = 5) → klV E d = bI (4 < E 2 d) := fun q => by
      by_cases z : 4 < E 2 d
      · rw [bI_t z]; exact kl_t (l1.mpr (Or.inr ⟨by rcases q with rfl | rfl <;> decide, z⟩))
      · rw [bI_f z]
        refine kl_f (fun y => ?_)
        rcases l1.mp y with ⟨y1, -⟩ | ⟨-, y⟩
        · rcases q with rfl | rfl <;> exact absurd y1 (by decide)
        · exact z y
    have r0 : (x = 3 ∨ x = 6) → klV E d = bI (E 2 d = 0) := fun q => by
      by_cases z : E 2 d = 0
      · rw [bI_t z]; exact kl_t (l1.mpr (Or.inl ⟨by rcases q with rfl | rfl <;> decide, z⟩))
      · rw [bI_f z]
        refine kl_f (fun y => ?_)
        rcases l1.mp y with ⟨-, y⟩ | ⟨y1, -⟩
        · exact z y
        · rcases q with rfl | rfl <;> exact absurd y1 (by decide)
    rcases hx7 with h | h | h | h | h | h | h
    · rw [non (by omega), h]; rfl
    · rw [non (by omega), h]; rfl
    · rw [p4 (by omega), h]; rfl
    · rw [r0 (by omega), h]; rfl
    · rw [non (by omega), h]; rfl
    · rw [p4 (by omega), h]; rfl
    · rw [r0 (by omega), h]; rfl
/-! ASK and DROP; the best SPLIT -/
theorem cost_lt {E : It} (hE : Inv E) {kn idl : Int32} {n : Nat} (hn : n ≤ 200) : costF E kn idl n < 2147483647 ∧ ¬ costF E kn idl n < 0 := by
  obtain ⟨c, h1, h2⟩ := cost_b hE (kn := kn) (idl := idl) hn
  rw [h2]
  exact ⟨nI_lt (b := 2147483647) (by omega) (by decide), nI_pos (by omega)⟩
/-- the class's least: the greatest int stands for none -/
def lsI (f l ls : Int32) : Prop := (f < 0 ∧ l = 2147483647) ∨ (¬ f < 0 ∧ l = ls)
theorem with_1 (s : Int32) (d : Nat) : withI s (nI d) 1 = s ||| bitI (nI d) := by unfold withI; rw [if_neg (by decide)]
theorem has_n (s : Int32) {d : Nat} (hd : d < 32) : (hasI (s ^^^ (-1)) (nI d) = 0) ↔ hasI s (nI d) = 1 := by
  rw [has_0 _ hd, has_1 _ hd, gb_not _ hd]
  cases gb s d <;> decide
/-- one pick -/
theorem pick_1 {E : It} {n : Nat} {has co : Nat → Int32} {k i : Nat} {f l ls : Int32} (h : lsI f l ls) (hco : co i < 2147483647) (hh : ¬ has i = 1) : pickR E n has co (k + 1) i f ls = (if co i < l then pickR E n has co k (i + 1) (nI i) (co i) else pickR E n has co k (i + 1) f ls) := by
  rw [pickR_s, if_neg hh]
  rcases h with ⟨h1, rfl⟩ | ⟨h1, rfl⟩
  · rw [if_pos h1, if_pos hco]
  · rw [if_neg h1]
def spStep (co : Nat → Int32) (b : Nat → Nat → Int32) (s : Int32 × (Nat → Int32)) (c : Nat) : Int32 × (Nat → Int32) := if s.1 < 0 then (co c, b c) else if co c < s.1 then (co c, b c) else s
def spL (h : Nat) : Nat → Nat → List Nat := fun k => match k with
  | 0 => fun _ => []
  | k + 1 => fun c => if h < c / 100 + c / 10 % 10 + c % 10 then spL h k (c + 1) else c :: spL h k (c + 1)
theorem spL_s (h k c : Nat) : spL h (k + 1) c = if h < c / 100 + c / 10 % 10 + c % 10 then spL h k (c + 1) else c :: spL h k (c + 1) := rfl
theorem spR_L {E : It} {h n : Nat} : ∀ (k c : Nat) (l : Int32) (b : Nat → Int32), spR E h n k c l b = (spL h k c).foldl (spStep (fun c => hcF E (spC h c) n) (spC h)) (l, b) := by
  intro k
  induction k with
  | zero => intro c l b; rfl
  | succ k ih =>
    intro c l b
    rw [spR_s, spL_s]
    by_cases e : h < c / 100 + c / 10 % 10 + c % 10
    · rw [if_pos e, if_pos e]; exact ih _ _ _
    · rw [if_neg e, if_neg e, List.foldl_cons]
      unfold spStep
      by_cases e1 : l < 0
      · rw [if_pos e1]
        show _ = List.foldl _ (if l < 0 then _ else _) _
        rw [if_pos e1]; exact ih _ _ _
      · rw [if_neg e1]
        show _ = List.foldl _ (if l < 0 then _ else if _ < l then _ else _) _
        rw [if_neg e1]
        by_cases e2 : hcF E (spC h c) n < l
        · rw [if_pos e2, if_pos e2]; exact ih _ _ _
        · rw [if_neg e2, if_neg e2]; exact ih _ _ _
/-- the class's step, a code for three numbers -/
def bsStep (co : Nat → Int32) (b : Nat → Nat → Int32) (s : Int32 × (Nat → Int32)) (c : Nat) : Int32 × (Nat → Int32) := if co c < s.1 then (co c, b c) else s
def bsLC (hh a b : Nat) : Nat → Nat → List Nat := fun k => match k with
  | 0 => fun _ => []
  | k + 1 => fun c => (100 * a + 10 * b + c) :: bsLC hh a b k (c + 1)
def bsLB (hh a : Nat) : Nat → Nat → List Nat := fun k => match k with
  | 0 => fun _ => []
  | k + 1 => fun b => bsLC hh a b (hh - a - b + 1) 0 ++ bsLB hh a k (b + 1)
def bsLA (hh : Nat) : Nat → Nat → List Nat := fun k => match k with
  | 0 => fun _ => []
  | k + 1 => fun a => bsLB hh a (hh - a + 1) 0 ++ bsLA hh k (a + 1)
set_option maxRecDepth 100000 in
theorem bs_L : ∀ hh, hh ≤ 9 → bsLA hh (hh + 1) 0 = spL hh 1000 0 := by decide +kernel
theorem cod3 {a b c : Nat} (ha : a ≤ 9) (hb : b ≤ 9) (hc : c ≤ 9) : (100 * a + 10 * b + c) / 100 = a ∧ (100 * a + 10 * b + c) / 10 % 10 = b ∧ (100 * a + 10 * b + c) % 10 = c := by omega
theorem bsC_L {F : (Nat → Int32) → Int32} {hh a b : Nat} (hh9 : hh ≤ 9) (hab : a + b ≤ hh) : ∀ (k c : Nat) (s : Int32 × (Nat → Int32)), c + k = hh - a - b + 1 → bsC (fun a b c e => F (h4 a b c e)) hh a b k c s = (bsLC hh a b k c).foldl (bsStep (fun c => F (spC hh c)) (spC hh)) s := by
  intro k
  induction k with
  | zero => intro c s _; rfl
  | succ k ih =>
    intro c s hk
    obtain ⟨e1, e2, e3⟩ := cod3 (a := a) (b := b) (c := c) (by omega) (by omega) (by omega)
    have e : spC hh (100 * a + 10 * b + c) = h4 a b c (hh - a - b - c) := by
      unfold spC
      rw [e1, e2, e3, show hh - (a + b + c) = hh - a - b - c by omega]
    have h2 : bsStep (fun c => F (spC hh c)) (spC hh) s (100 * a + 10 * b + c) = (if F (h4 a b c (hh - a - b - c)) < s.1 then (F (h4 a b c (hh - a - b - c)), h4 a b c (hh - a - b - c)) else s) := by
      show (if F (spC hh (100 * a + 10 * b + c)) < s.1 then (F (spC hh (100 * a + 10 * b + c)), spC hh (100 * a + 10 * b + c)) else s) = _
      rw [e]
    rw [bsC_s]
    show _ = List.foldl _ (bsStep _ _ s (100 * a + 10 * b + c)) (bsLC hh a b k (c + 1))
    rw [h2]
    exact ih (c + 1) _ (by omega)
theorem bsB_L {F : (Nat → Int32) → Int32} {hh a : Nat} (hh9 : hh ≤ 9) (ha : a ≤ hh) : ∀ (k b : Nat) (s : Int32 × (Nat → Int32)), b + k = hh - a + 1 → bsB (fun a b c e => F (h4 a b c e)) hh a k b s = (bsLB hh a k b).foldl (bsStep (fun c => F (spC hh c)) (spC hh)) s := by
  intro k
  induction k with
  | zero => intro b s _; rfl
  | succ k ih =>
    intro b s hk
    rw [bsB_s, bsC_L hh9 (by omega) _ 0 s (by omega)]
    show _ = List.foldl _ s (bsLC hh a b (hh - a - b + 1) 0 ++ bsLB hh a k (b + 1))
    rw [List.foldl_append]
    exact ih (b + 1) _ (by omega)
theorem bsA_L {F : (Nat → Int32) → Int32} {hh : Nat} (hh9 : hh ≤ 9) : ∀ (k a : Nat) (s : Int32 × (Nat → Int32)), a + k = hh + 1 → bsA (fun a b c e => F (h4 a b c e)) hh k a s = (bsLA hh k a).foldl (bsStep (fun c => F (spC hh c)) (spC hh)) s := by
  intro k
  induction k with
  | zero => intro a s _; rfl
  | succ k ih =>
    intro a s hk
    rw [bsA_s, bsB_L hh9 (by omega) _ 0 s (by omega)]
    show _ = List.foldl _ s (bsLB hh a (hh - a + 1) 0 ++ bsLA hh k (a + 1))
    rw [List.foldl_append]
    exact ih (a + 1) _ (by omega)
/-- both folds go alike -/
theorem two_M {co : Nat → Int32} {b : Nat → Nat → Int32} (h2 : ∀ c, ¬ co c < 0) : ∀ (l : List Nat) (s : Int32 × (Nat → Int32)), ¬ s.1 < 0 → l.foldl (bsStep co b) s = l.foldl (spStep co b) s := by
  intro l
  induction l with
  | nil => intro s _; rw [List.foldl_nil, List.foldl_nil]
  | cons c r ih =>
    intro s h
    have e : bsStep co b s c = spStep co b s c := by unfold bsStep spStep; rw [if_neg h]
    have e2 : ¬ (spStep co b s c).1 < 0 := by
      unfold spStep
      rw [if_neg h]
      by_cases z : co c < s.1
      · rw [if_pos z]; exact h2 c
      · rw [if_neg z]; exact h
    rw [List.foldl_cons, List.foldl_cons, e]
    exact ih _ e2
theorem two_L {co : Nat → Int32} {b : Nat → Nat → Int32} {M : Int32} (h1 : ∀ c, co c < M) (h2 : ∀ c, ¬ co c < 0) {l : List Nat} (hl : l ≠ []) {s : Int32 × (Nat → Int32)} (hs : s.1 < 0) (b0 : Nat → Int32) : l.foldl (bsStep co b) (M, b0) = l.foldl (spStep co b) s := by
  obtain ⟨c, r, rfl⟩ := List.exists_cons_of_ne_nil hl
  have e : bsStep co b (M, b0) c = (co c, b c) := if_pos (h1 c)
  have e2 : spStep co b s c = (co c, b c) := if_pos hs
  rw [List.foldl_cons, List.foldl_cons, e, e2]
  exact two_M h2 r (co c, b c) (h2 c)
theorem spl_ne : ∀ hh, hh ≤ 9 → spL hh 1000 0 ≠ [] := by
  intro hh _ h
  rw [show (1000 : Nat) = 999 + 1 from rfl, spL_s, if_neg (by omega)] at h
  exact absurd h (List.cons_ne_nil _ _)
theorem bs_sp {E : It} (hE : Inv E) {hh n : Nat} (hh9 : hh ≤ 9) (hn : n ≤ 200) (b0 : Nat → Int32) : bsA (fun a b c e => hcF E (h4 a b c e) n) hh (hh + 1) 0 (2147483647, b0) = spF E hh n := by
  unfold spF
  rw [spR_L, bsA_L (F := fun hr => hcF E hr n) hh9 (hh + 1) 0 _ (Nat.zero_add _), bs_L hh hh9]
  exact two_L (fun c => (cost_lt hE hn).1) (fun c => (cost_lt hE hn).2) (spl_ne hh hh9) (by decide) b0

