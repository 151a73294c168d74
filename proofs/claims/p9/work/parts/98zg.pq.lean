section PR
variable {p n : Nat} {X : Nat → Int32} {I : It}
theorem FJ.an {fr a : Nat} {J : It} {W : It → It} (h : FJ p fr I J a) : ∀ f, anR p W f J = J := by
  intro f
  cases f with
  | zero => rfl
  | succ f => rw [anR_s, if_neg (by rw [h.here]; decide)]; exact h.tk (by decide)
theorem FJ.eR {fr a k : Nat} {J : It} {W : It → It} (h : FJ p fr I J a) (hk : k ≠ 0) : ∀ f, eiR p W f k J = J := by
  intro f
  cases f with
  | zero => rfl
  | succ f => rw [eiR_s, if_neg hk, if_neg (by rw [h.here]; decide)]; exact h.tk (by decide)
theorem FJ.eF {fr a : Nat} {J : It} {W : It → It} (h : FJ p fr I (W J) a) : FJ p fr I (eiF p W J) a := by
  show FJ p fr I (eiR p W (99 + 1) 0 J) a
  rw [eiR_s, if_pos rfl, h.an, h.eR (by decide)]
  exact h
theorem FJ.pa {fr a : Nat} : ∀ (k : Nat) {J : It}, FJ p fr I J a → FJ p fr I (paF p k J) a := by
  intro k
  induction k with
  | zero => intro J h; exact h.ts
  | succ k ih =>
    intro J h
    rw [paF_s, if_neg (by rw [h.here]; decide), h.tk (by decide), if_neg (by rw [h.here]; decide), h.tk (by decide)]
    exact h.ts
theorem opn_38 {ws : List Int32} : opn (38 :: ws) = opn ws := by rw [opn_c, if_neg (by decide)]
theorem opn_124 {ws : List Int32} : opn (124 :: ws) = opn ws := by rw [opn_c, if_neg (by decide)]
/-- a part between bars, its first piece read -/
theorem an_sp (hT : TT p n X I) {k : Nat} {W : It → It} (hW : PSp p n X I k W) {ws : List Int32} (hA : isA ws) (ho : opn ws + k = 4) {a0 fr : Nat} {cs : List Int32} (hc0 : fr + cs.length ≤ a0) : ∀ (f : Nat) (J : It) (a : Nat) (new : List Int32), 1 ≤ a → CJ p n I J a fr (cs ++ new) → a0 + new.length ≤ a → n - a < f →
    (∃ a' new', CJ p n I (anR p W f J) a' fr (cs ++ new') ∧ a0 + new'.length ≤ a' ∧ a ≤ a' ∧ nxA X n a' ≠ 38 ∧ ∀ cr0 cr wr, StA cr wr (cr0 ++ new) ws → ∃ cr' wr', StA cr' wr' (cr0 ++ new') ws ∧ AM X n false a cr wr = AM X n false a' cr' wr') ∨
    (∃ a', FJ p fr I (anR p W f J) a' ∧ ∀ cr0 cr wr, StA cr wr (cr0 ++ new) ws → ∃ z, AM X n false a cr wr = (false, a', z)) := by
  have hn := hT.2.1
  intro f
  induction f with
  | zero => intro J a new _ _ _ h; exact absurd h (Nat.not_lt_zero _)
  | succ f ih =>
    intro J a new ha1 hC hb hf
    by_cases e : nxA X n a = 38
    · have hlt : a < n := nxA_no (by decide) e
      have step : ∀ cr0 cr wr, StA cr wr (cr0 ++ new) ws → AM X n false a cr wr = AM X n true (a + 1) (cr0 ++ new) (38 :: ws) := fun cr0 cr wr hS => by
        rw [AM_b hn (Or.inl e), e, hS.s38 hA]
      rw [anR_s, if_pos (by rw [hC.here hT]; exact e), hC.tk_y hT e]
      have h1 := hC.inc hlt
      rcases hW _ (a + 1) fr (cs ++ new) (38 :: ws) (by omega) h1 (by rw [opn_38]; exact ho) with ⟨a1, nw, h2, l1, l2, hA1⟩ | ⟨a1, h2, hA1⟩
      · have hlen : fr + (cs ++ new ++ nw).length < a1 := by simp only [List.length_append]; omega
        have h3 := h2.kp hn hlen (x := -38) (t := 38) (Or.inr (Or.inl ⟨rfl, rfl⟩))
        have es : cs ++ new ++ nw ++ [-38] = cs ++ (new ++ nw ++ [-38]) := by simp only [List.append_assoc]
        rw [es] at h3
        have go : ∀ cr0 cr wr, StA cr wr (cr0 ++ new) ws → AM X n false a cr wr = AM X n false a1 (cr0 ++ new ++ nw) (38 :: ws) := fun cr0 cr wr hS => by
          rw [step cr0 cr wr hS, hA1, wh_38]
        have st : ∀ cr0 : List Int32, StA (cr0 ++ new ++ nw) (38 :: ws) (cr0 ++ (new ++ nw ++ [-38])) ws := fun cr0 => Or.inr ⟨rfl, by simp only [List.append_assoc]⟩
        rcases ih _ a1 (new ++ nw ++ [-38]) (by omega) h3 (by simp only [List.length_append, List.length_cons, List.length_nil]; omega) (by omega) with ⟨a', new', g1, g2, g3, g4, g5⟩ | ⟨a', g1, g2⟩
        · refine Or.inl ⟨a', new', g1, g2, by omega, g4, fun cr0 cr wr hS => ?_⟩
          obtain ⟨cr', wr', q1, q2⟩ := g5 cr0 _ _ (st cr0)
          exact ⟨cr', wr', q1, (go cr0 cr wr hS).trans q2⟩
        · refine Or.inr ⟨a', g1, fun cr0 cr wr hS => ?_⟩
          obtain ⟨z, q⟩ := g2 cr0 _ _ (st cr0)
          exact ⟨z, (go cr0 cr wr hS).trans q⟩
      · rw [h2.kp, h2.an]
        refine Or.inr ⟨a1, h2, fun cr0 cr wr hS => ?_⟩
        obtain ⟨z, q⟩ := hA1 (cr0 ++ new)
        exact ⟨z, (step cr0 cr wr hS).trans q⟩
    · rw [anR_s, if_neg (by rw [hC.here hT]; exact e), hC.tk_n hT e]
      exact Or.inl ⟨a, new, hC, hb, Nat.le_refl _, e, fun cr0 cr wr hS => ⟨cr, wr, hS, rfl⟩⟩
/-- an E, its first part read -/
theorem ei_sp (hT : TT p n X I) {k : Nat} {W : It → It} (hW : PSp p n X I k W) {B : List Int32} (hB : isB B) (ho : opn B + k = 4) {a0 fr : Nat} {cs : List Int32} (hc0 : fr + cs.length ≤ a0) : ∀ (f kk : Nat) (J : It) (a : Nat) (new : List Int32), kk ≠ 0 → 1 ≤ a → CJ p n I J a fr (cs ++ new) → a0 + new.length ≤ a → n - a < f → nxA X n a ≠ 38 →
    (∃ a' new', CJ p n I (eiR p W f kk J) a' fr (cs ++ new') ∧ a0 + new'.length ≤ a' ∧ a ≤ a' ∧ nxA X n a' ≠ 38 ∧ nxA X n a' ≠ 124 ∧ ∀ cr0 cr wr, StE cr wr (cr0 ++ new) B → ∃ cr' wr', StE cr' wr' (cr0 ++ new') B ∧ AM X n false a cr wr = AM X n false a' cr' wr') ∨
    (∃ a', FJ p fr I (eiR p W f kk J) a' ∧ ∀ cr0 cr wr, StE cr wr (cr0 ++ new) B → ∃ z, AM X n false a cr wr = (false, a', z)) := by
  have hn := hT.2.1
  intro f
  induction f with
  | zero => intro kk J a new _ _ _ _ h; exact absurd h (Nat.not_lt_zero _)
  | succ f ih =>
    intro kk J a new hkk ha1 hC hb hf h38
    by_cases e : nxA X n a = 124
    · have hlt : a < n := nxA_no (by decide) e
      have step : ∀ cr0 cr wr, StE cr wr (cr0 ++ new) B → AM X n false a cr wr = AM X n true (a + 1) (cr0 ++ new) (124 :: B) := fun cr0 cr wr hS => by
        rw [AM_b hn (Or.inr e), e, hS.s124 hB]
      have hA : isA (124 :: B) := Or.inr ⟨B, hB, rfl⟩
      rw [eiR_s, if_neg hkk, if_pos (by rw [hC.here hT]; exact e), hC.tk_y hT e]
      have h1 := hC.inc hlt
      have hcl := hC.2.2.2.2.2.1
      rcases hW _ (a + 1) fr (cs ++ new) (124 :: B) (by omega) h1 (by rw [opn_124]; exact ho) with ⟨a1, nw, h2, l1, l2, hA1⟩ | ⟨a1, h2, hA1⟩
      · rcases an_sp hT hW hA (by rw [opn_124]; exact ho) (a0 := a + 1) (cs := cs ++ new) (by omega) 100 _ a1 nw (by omega) h2 l2 (by omega) with ⟨a2, na, g1, g2, g3, g4, g5⟩ | ⟨a2, g1, g2⟩
        · have hlen : fr + (cs ++ new ++ na).length < a2 := by simp only [List.length_append] at hcl ⊢; omega
          have h3 := g1.kp hn hlen (x := -124) (t := 124) (Or.inr (Or.inr (Or.inl ⟨rfl, rfl⟩)))
          have es : cs ++ new ++ na ++ [-124] = cs ++ (new ++ na ++ [-124]) := by simp only [List.append_assoc]
          rw [es] at h3
          have go : ∀ cr0 cr wr, StE cr wr (cr0 ++ new) B → ∃ cr' wr', StE cr' wr' (cr0 ++ (new ++ na ++ [-124])) B ∧ AM X n false a cr wr = AM X n false a2 cr' wr' := fun cr0 cr wr hS => by
            obtain ⟨cr', wr', q1, q2⟩ := g5 (cr0 ++ new) (cr0 ++ new ++ nw) (124 :: B) (Or.inl ⟨rfl, rfl⟩)
            refine ⟨cr', wr', Or.inr ⟨cr0 ++ new ++ na, q1, by simp only [List.append_assoc]⟩, ?_⟩
            rw [step cr0 cr wr hS, hA1, wh_A hA]
            exact q2
          rcases ih (kk + 1) _ a2 (new ++ na ++ [-124]) (by omega) (by omega) h3 (by simp only [List.length_append, List.length_cons, List.length_nil]; omega) (by omega) g4 with ⟨a', new', w1, w2, w3, w4, w5, w6⟩ | ⟨a', w1, w2⟩
          · refine Or.inl ⟨a', new', w1, w2, by omega, w4, w5, fun cr0 cr wr hS => ?_⟩
            obtain ⟨cr', wr', q1, q2⟩ := go cr0 cr wr hS
            obtain ⟨cr2, wr2, q3, q4⟩ := w6 cr0 cr' wr' q1
            exact ⟨cr2, wr2, q3, q2.trans q4⟩
          · refine Or.inr ⟨a', w1, fun cr0 cr wr hS => ?_⟩
            obtain ⟨cr', wr', q1, q2⟩ := go cr0 cr wr hS
            obtain ⟨z, q3⟩ := w2 cr0 cr' wr' q1
            exact ⟨z, q2.trans q3⟩
        · rw [g1.kp, g1.eR (by omega)]
          refine Or.inr ⟨a2, g1, fun cr0 cr wr hS => ?_⟩
          obtain ⟨z, q⟩ := g2 (cr0 ++ new) (cr0 ++ new ++ nw) (124 :: B) (Or.inl ⟨rfl, rfl⟩)
          refine ⟨z, ?_⟩
          rw [step cr0 cr wr hS, hA1, wh_A hA]
          exact q
      · rw [h2.an, h2.kp, h2.eR (by omega)]
        refine Or.inr ⟨a1, h2, fun cr0 cr wr hS => ?_⟩
        obtain ⟨z, q⟩ := hA1 (cr0 ++ new)
        exact ⟨z, (step cr0 cr wr hS).trans q⟩
    · rw [eiR_s, if_neg hkk, if_neg (by rw [hC.here hT]; exact e), hC.tk_n hT e]
      exact Or.inl ⟨a, new, hC, hb, Nat.le_refl _, h38, e, fun cr0 cr wr hS => ⟨cr, wr, hS, rfl⟩⟩
/-- an E -/
theorem eiF_sp (hT : TT p n X I) {k : Nat} {W : It → It} (hW : PSp p n X I k W) {B : List Int32} (hB : isB B) (ho : opn B + k = 4) {J : It} {a fr : Nat} {cs : List Int32} (ha : 1 ≤ a) (hC : CJ p n I J a fr cs) :
    (∃ a' new, CJ p n I (eiF p W J) a' fr (cs ++ new) ∧ a < a' ∧ a + new.length ≤ a' ∧ nxA X n a' ≠ 38 ∧ nxA X n a' ≠ 124 ∧ ∀ cr0, ∃ cr' wr', seA 124 wr' cr' = (cr0 ++ new, B) ∧ AM X n true a cr0 B = AM X n false a' cr' wr') ∨
    (∃ a', FJ p fr I (eiF p W J) a' ∧ ∀ cr0, ∃ z, AM X n true a cr0 B = (false, a', z)) := by
  have hn := hT.2.1
  have hcl := hC.2.2.2.2.2.1
  have hA : isA B := Or.inl hB
  show (∃ a' new, CJ p n I (eiR p W (99 + 1) 0 J) a' fr (cs ++ new) ∧ _) ∨ (∃ a', FJ p fr I (eiR p W (99 + 1) 0 J) a' ∧ _)
  rw [eiR_s, if_pos rfl]
  rcases hW J a fr cs B ha hC ho with ⟨a1, nw, h2, l1, l2, hA1⟩ | ⟨a1, h2, hA1⟩
  · rcases an_sp hT hW hA ho (a0 := a) hcl 100 _ a1 nw (by omega) h2 l2 (by omega) with ⟨a2, na, g1, g2, g3, g4, g5⟩ | ⟨a2, g1, g2⟩
    · rcases ei_sp hT hW hB ho (a0 := a) hcl 99 1 _ a2 na (by decide) (by omega) g1 g2 (by omega) g4 with ⟨a', new', w1, w2, w3, w4, w5, w6⟩ | ⟨a', w1, w2⟩
      · refine Or.inl ⟨a', new', w1, by omega, w2, w4, w5, fun cr0 => ?_⟩
        obtain ⟨cr', wr', q1, q2⟩ := g5 cr0 (cr0 ++ nw) B (Or.inl ⟨rfl, rfl⟩)
        obtain ⟨cr2, wr2, q3, q4⟩ := w6 cr0 cr' wr' (Or.inl q1)
        refine ⟨cr2, wr2, q3.s124 hB, ?_⟩
        rw [hA1, wh_A hA]
        exact q2.trans q4
      · refine Or.inr ⟨a', w1, fun cr0 => ?_⟩
        obtain ⟨cr', wr', q1, q2⟩ := g5 cr0 (cr0 ++ nw) B (Or.inl ⟨rfl, rfl⟩)
        obtain ⟨z, q3⟩ := w2 cr0 cr' wr' (Or.inl q1)
        refine ⟨z, ?_⟩
        rw [hA1, wh_A hA]
        exact q2.trans q3
    · rw [g1.eR (by decide)]
      refine Or.inr ⟨a2, g1, fun cr0 => ?_⟩
      obtain ⟨z, q⟩ := g2 cr0 (cr0 ++ nw) B (Or.inl ⟨rfl, rfl⟩)
      refine ⟨z, ?_⟩
      rw [hA1, wh_A hA]
      exact q
  · rw [h2.an, h2.eR (by decide)]
    exact Or.inr ⟨a1, h2, hA1⟩
/-- a TEST, where no sign opens -/
theorem ts_P (hT : TT p n X I) {J : It} {a fr : Nat} {cs ws : List Int32} (hC : CJ p n I J a fr cs) (hno : ¬ (nxA X n a = 33 ∨ nxA X n a = 40)) :
    (∃ a' new, CJ p n I (tsW p J) a' fr (cs ++ new) ∧ a < a' ∧ a + new.length ≤ a' ∧ ∀ cr, AM X n true a cr ws = AM X n false a' (whA ws (cr ++ new)).1 (whA ws (cr ++ new)).2) ∨
    (∃ a', FJ p fr I (tsW p J) a' ∧ ∀ cr, ∃ z, AM X n true a cr ws = (false, a', z)) := by
  have hn := hT.2.1
  obtain ⟨t1, t2⟩ := hC.ts hT
  by_cases q : (tsA X n a).1 = true
  · have g := ts_gt q
    exact Or.inl ⟨_, _, t1 q, by omega, by simp only [List.length_cons, List.length_nil]; omega, fun cr => AM_t hn hC.2.2.2.1 hno q⟩
  · exact Or.inr ⟨_, t2 q, fun cr => ⟨cr, AM_tf hno q⟩⟩
theorem ts_no {a : Nat} (h : nxA X n a = 33 ∨ nxA X n a = 40) : tsA X n a = (false, a, 0) := by
  unfold tsA
  rw [if_pos (by rcases h with z | z <;> rw [z] <;> decide)]
/-- a piece -/
theorem pa_sp (hT : TT p n X I) : ∀ k, PSp p n X I k (paF p k) := by
  have hn := hT.2.1
  intro k
  induction k with
  | zero =>
    intro J a fr cs ws ha hC ho
    show (∃ a' new, CJ p n I (tsW p J) a' fr (cs ++ new) ∧ _) ∨ (∃ a', FJ p fr I (tsW p J) a' ∧ _)
    by_cases e : nxA X n a = 33 ∨ nxA X n a = 40
    · have := (hC.ts hT).2 (by rw [ts_no e]; exact Bool.false_ne_true)
      rw [ts_no e] at this
      exact Or.inr ⟨a, this, fun cr => ⟨cr, AM_o4 e ho⟩⟩
    · exact ts_P hT hC e
  | succ k ih =>
    intro J a fr cs ws ha hC ho
    have hcl := hC.2.2.2.2.2.1
    have h4 : ¬ opn ws = 4 := by omega
    by_cases e : nxA X n a = 33
    · have hlt : a < n := nxA_no (by decide) e
      rw [paF_s, if_pos (by rw [hC.here hT]; exact e), hC.tk_y hT e]
      have h1 := hC.inc hlt
      have step : ∀ cr, AM X n true a cr ws = AM X n true (a + 1) cr (33 :: ws) := fun cr => by rw [AM_o hn (Or.inl e) h4, e]
      rcases ih _ (a + 1) fr cs (33 :: ws) (by omega) h1 (by rw [opn_c, if_pos (Or.inl rfl)]; omega) with ⟨a1, nw, h2, l1, l2, hA1⟩ | ⟨a1, h2, hA1⟩
      · have hlen : fr + (cs ++ nw).length < a1 := by simp only [List.length_append]; omega
        have h3 := h2.kp hn hlen (x := -33) (t := 33) (Or.inl ⟨rfl, rfl⟩)
        rw [List.append_assoc] at h3
        refine Or.inl ⟨a1, nw ++ [-33], h3, by omega, by simp only [List.length_append, List.length_cons, List.length_nil]; omega, fun cr => ?_⟩
        rw [step, hA1, whA_c, if_pos rfl, List.append_assoc]
      · rw [h2.kp]
        refine Or.inr ⟨a1, h2, fun cr => ?_⟩
        obtain ⟨z, q⟩ := hA1 cr
        exact ⟨z, (step cr).trans q⟩
    · have t33 := hC.tk_n hT e
      rw [paF_s, if_neg (by rw [hC.here hT]; exact e), t33]
      by_cases e2 : nxA X n a = 40
      · have hlt : a < n := nxA_no (by decide) e2
        rw [if_pos (by rw [hC.here hT]; exact e2), hC.tk_y hT e2]
        have h1 := hC.inc hlt
        have step : ∀ cr, AM X n true a cr ws = AM X n true (a + 1) cr (40 :: ws) := fun cr => by rw [AM_o hn (Or.inr e2) h4, e2]
        rcases eiF_sp hT ih (B := 40 :: ws) (Or.inr ⟨ws, rfl⟩) (by rw [opn_c, if_pos (Or.inr rfl)]; omega) (by omega) h1 with ⟨a1, nw, h2, l1, l2, n38, n124, hA1⟩ | ⟨a1, h2, hA1⟩
        · have hno : ¬ (nxA X n a1 = 38 ∨ nxA X n a1 = 124) := by rintro (z | z); exact n38 z; exact n124 z
          by_cases e3 : nxA X n a1 = 41
          · refine Or.inl ⟨a1 + 1, nw, h2.nd_y hT (by decide) e3, by omega, by omega, fun cr => ?_⟩
            obtain ⟨cr', wr', q1, q2⟩ := hA1 cr
            rw [step, q2, AM_c hn hno (by rw [q1]; exact List.cons_ne_nil _ _) e3, q1]
            rfl
          · refine Or.inr ⟨a1, h2.nd_n hT e3, fun cr => ?_⟩
            obtain ⟨cr', wr', q1, q2⟩ := hA1 cr
            exact ⟨_, by rw [step, q2, AM_x hno (by rw [q1]; exact List.cons_ne_nil _ _) e3]⟩
        · refine Or.inr ⟨a1, h2.nd, fun cr => ?_⟩
          obtain ⟨z, q⟩ := hA1 cr
          exact ⟨z, (step cr).trans q⟩
      · rw [if_neg (by rw [hC.here hT]; exact e2), hC.tk_n hT e2]
        exact ts_P hT hC (by rintro (z | z); exact e z; exact e2 z)
end PR
/-! the words -/
def ndsL (p f : Nat) : Nat → Nat → It → It := fun m => match m with
  | 0 => fun _ J => ndW p 32 J
  | m + 1 => fun i J => ndsL p f m (i + 1) (ndW p (lettersL.getD (f + i) 0) J)
section WD
variable {p n : Nat} {X : Nat → Int32} {I : It}
theorem FJ.nds {f : Nat} : ∀ (m : Nat) {i fr a : Nat} {J : It}, FJ p fr I J a → FJ p fr I (ndsL p f m i J) a := by
  intro m
  induction m with
  | zero => intro i fr a J h; exact h.nd
  | succ m ih => intro i fr a J h; exact ih h.nd
theorem nds_sp (hT : TT p n X I) {f : Nat} : ∀ (m i : Nat) {J : It} {a fr : Nat} {cs : List Int32}, f + i + m ≤ 15 → CJ p n I J a fr cs → ((twA X n f m i a).1 = true → CJ p n I (ndsL p f m i J) (twA X n f m i a).2 fr cs) ∧ (¬ (twA X n f m i a).1 = true → FJ p fr I (ndsL p f m i J) (twA X n f m i a).2) := by
  intro m
  induction m with
  | zero =>
    intro i J a fr cs _ hC
    show (decide (nxA X n a = 32) = true → CJ p n I (ndW p 32 J) (tkA X n a 32) fr cs) ∧ (¬ decide (nxA X n a = 32) = true → FJ p fr I (ndW p 32 J) (tkA X n a 32))
    unfold tkA
    by_cases e : nxA X n a = 32
    · rw [if_pos e]
      exact ⟨fun _ => hC.nd_y hT (by decide) e, fun z => absurd (decide_eq_true e) z⟩
    · rw [if_neg e]
      exact ⟨fun z => absurd (of_decide_eq_true z) e, fun _ => hC.nd_n hT e⟩
  | succ m ih =>
    intro i J a fr cs hl hC
    rw [twA_s]
    show (_ → CJ p n I (ndsL p f m (i + 1) (ndW p (lettersL.getD (f + i) 0) J)) _ fr cs) ∧ (_ → FJ p fr I (ndsL p f m (i + 1) (ndW p (lettersL.getD (f + i) 0) J)) _)
    by_cases e : nxA X n a = lettersL.getD (f + i) 0
    · rw [if_pos e]
      exact ih (i + 1) (by omega) (hC.nd_y hT (let_no (f + i) (by omega)) e)
    · rw [if_neg e]
      exact ⟨fun z => absurd z Bool.false_ne_true, fun _ => FJ.nds m (hC.nd_n hT e)⟩
theorem CJ.tk_nd (hT : TT p n X I) {J : It} {a fr : Nat} {cs : List Int32} {s : Int32} (hC : CJ p n I J a fr cs) (e : nxA X n a = s) : tkW p s J = ndW p s J := by rw [hC.tk_y hT e, hC.nd_e hT e]
/-- the word of a clause, the blank behind it -/
theorem wd_sp (hT : TT p n X I) {J : It} {a fr : Nat} {cs : List Int32} (hC : CJ p n I J a fr cs) : ((hdA X n a).1 = true → CJ p n I (ndW p 32 (wdW p J)) (hdA X n a).2.1 fr cs ∧ wdV p J = wcd (hdA X n a).2.2) ∧ (¬ (hdA X n a).1 = true → FJ p fr I (ndW p 32 (wdW p J)) (hdA X n a).2.1) := by
  have eh := hC.here hT
  by_cases e1 : nxA X n a = 99
  · have e115 : ¬ hereC p J = 115 := by rw [eh, e1]; decide
    have t115 := hC.tk_n hT (s := 115) (by rw [e1]; decide)
    have t102 := hC.tk_n hT (s := 102) (by rw [e1]; decide)
    have ea : wdA p J = ndW p 99 J := by unfold wdA; rw [t115, t102]
    have h1 := hC.nd_y hT (s := 99) (by decide) e1
    rw [← ea] at h1
    have eh1 := h1.here hT
    have e102 : ¬ hereC p (tkW p 115 J) = 102 := by rw [t115, eh, e1]; decide
    by_cases e2 : nxA X n (a + 1) = 97
    · have e111 : ¬ hereC p (wdA p J) = 111 := by rw [eh1, e2]; decide
      have eW : ndW p 32 (wdW p J) = ndsL p 7 4 0 J := by
        unfold wdW
        rw [if_neg e115, if_neg e102, if_neg e111, h1.tk_n hT (s := 111) (by rw [e2]; decide), ea]
        rfl
      have eV : wdV p J = 108 := by
        unfold wdV
        rw [if_neg e115, if_neg e102, if_neg e111]
      have eH : hdA X n a = ((twA X n 7 4 0 a).1, (twA X n 7 4 0 a).2, 2) := by
        unfold hdA
        rw [if_pos e1, if_pos e2]
      rw [eW, eV, eH]
      obtain ⟨g1, g2⟩ := nds_sp hT 4 0 (f := 7) (by decide) hC
      exact ⟨fun z => ⟨g1 z, rfl⟩, g2⟩
    · have eH : hdA X n a = ((twA X n 3 4 0 a).1, (twA X n 3 4 0 a).2, 1) := by
        unfold hdA
        rw [if_pos e1, if_neg e2]
      rw [eH]
      by_cases e3 : nxA X n (a + 1) = 111
      · have e111 : hereC p (wdA p J) = 111 := by rw [eh1]; exact e3
        have eW : ndW p 32 (wdW p J) = ndsL p 3 4 0 J := by
          unfold wdW
          rw [if_neg e115, if_neg e102, if_pos e111, h1.tk_nd hT e3, ea]
          rfl
        have eV : wdV p J = 99 := by
          unfold wdV
          rw [if_neg e115, if_neg e102, if_pos e111]
        rw [eW, eV]
        obtain ⟨g1, g2⟩ := nds_sp hT 4 0 (f := 3) (by decide) hC
        exact ⟨fun z => ⟨g1 z, rfl⟩, g2⟩
      · have e111 : ¬ hereC p (wdA p J) = 111 := by rw [eh1]; exact e3
        have et : twA X n 3 4 0 a = (false, a + 1) := by
          rw [twA_s, if_pos (show nxA X n a = lettersL.getD (3 + 0) 0 from e1), twA_s, if_neg (show ¬ nxA X n (a + 1) = lettersL.getD (3 + (0 + 1)) 0 from e3)]
        rw [et]
        refine ⟨fun z => absurd z Bool.false_ne_true, fun _ => ?_⟩
        unfold wdW
        rw [if_neg e115, if_neg e102, if_neg e111, h1.tk_n hT (s := 111) e3]
        exact (h1.nd_n hT e2).nd.nd.nd
  · by_cases e2 : nxA X n a = 115
    · have e115 : hereC p J = 115 := by rw [eh]; exact e2
      have eW : ndW p 32 (wdW p J) = ndsL p 0 3 0 J := by
        unfold wdW
        rw [if_pos e115, hC.tk_nd hT e2]
        rfl
      have eV : wdV p J = 115 := by
        unfold wdV
        rw [if_pos e115]
      have eH : hdA X n a = ((twA X n 0 3 0 a).1, (twA X n 0 3 0 a).2, 0) := by
        unfold hdA
        rw [if_neg e1, if_pos e2]
      rw [eW, eV, eH]
      obtain ⟨g1, g2⟩ := nds_sp hT 3 0 (f := 0) (by decide) hC
      exact ⟨fun z => ⟨g1 z, rfl⟩, g2⟩
    · have e115 : ¬ hereC p J = 115 := by rw [eh]; exact e2
      have t115 := hC.tk_n hT (s := 115) e2
      have eH : hdA X n a = ((twA X n 11 4 0 a).1, (twA X n 11 4 0 a).2, 3) := by
        unfold hdA
        rw [if_neg e1, if_neg e2]
      rw [eH]
      by_cases e3 : nxA X n a = 102
      · have e102 : hereC p (tkW p 115 J) = 102 := by rw [t115, eh]; exact e3
        have eW : ndW p 32 (wdW p J) = ndsL p 11 4 0 J := by
          unfold wdW
          rw [if_neg e115, if_pos e102, t115, hC.tk_nd hT e3]
          rfl
        have eV : wdV p J = 102 := by
          unfold wdV
          rw [if_neg e115, if_pos e102]
        rw [eW, eV]
        obtain ⟨g1, g2⟩ := nds_sp hT 4 0 (f := 11) (by decide) hC
        exact ⟨fun z => ⟨g1 z, rfl⟩, g2⟩
      · have e102 : ¬ hereC p (tkW p 115 J) = 102 := by rw [t115, eh]; exact e3
        have et : twA X n 11 4 0 a = (false, a) := by rw [twA_s, if_neg (show ¬ nxA X n a = lettersL.getD (11 + 0) 0 from e3)]
        rw [et]
        refine ⟨fun z => absurd z Bool.false_ne_true, fun _ => ?_⟩
        have ha : FJ p fr I (wdA p J) a := by
          unfold wdA
          rw [t115, hC.tk_n hT (s := 102) e3]
          exact hC.nd_n hT e1
        unfold wdW
        rw [if_neg e115, if_neg e102, if_neg (by rw [ha.here]; decide), ha.tk (by decide)]
        exact ha.nd.nd.nd.nd
end WD

