/-! both parsers alike: the class's, place by place, against the reference's machine -/
def FP (p fr : Nat) (I J : It) : Prop := (∀ a, a ≠ 43 + 5 * p → a ≠ 47 + 5 * p → J a = I a) ∧ (∀ j, j ≠ 7 → j ≠ 10 → j ≠ 11 → J (43 + 5 * p) j = I (43 + 5 * p) j) ∧ ∀ j, j < fr → J (47 + 5 * p) j = I (47 + 5 * p) j
theorem FP.rf {p fr : Nat} {I : It} : FP p fr I I := ⟨fun _ _ _ => rfl, fun _ _ _ _ => rfl, fun _ _ => rfl⟩
theorem FP.u {p fr j : Nat} {I J : It} {x : Int32} (h : FP p fr I J) (hj : j = 7 ∨ j = 10 ∨ j = 11) : FP p fr I (upI J (43 + 5 * p) j x) :=
  ⟨fun a h1 h2 => (upI_off h1).trans (h.1 a h1 h2), fun b h1 h2 h3 => (upn (by omega)).trans (h.2.1 b h1 h2 h3), fun b hb => (upn (by omega)).trans (h.2.2 b hb)⟩
theorem FP.k {p fr j : Nat} {I J : It} {x : Int32} (h : FP p fr I J) (hj : fr ≤ j) : FP p fr I (upI J (47 + 5 * p) j x) :=
  ⟨fun a h1 h2 => (upI_off h2).trans (h.1 a h1 h2), fun b h1 h2 h3 => (upn (by omega)).trans (h.2.1 b h1 h2 h3), fun b hb => (upn (by omega)).trans (h.2.2 b hb)⟩
/-- the text that is read -/
def TT (p n : Nat) (X : Nat → Int32) (I : It) : Prop := p < 6 ∧ n ≤ 100 ∧ I (43 + 5 * p) 9 = nI n ∧ ∀ j, j < n → I 31 j = X j
/-- at a, no fault, codes cs from fr on -/
def CJ (p n : Nat) (I J : It) (a fr : Nat) (cs : List Int32) : Prop :=
  FP p fr I J ∧ J (43 + 5 * p) 11 = 0 ∧ J (43 + 5 * p) 10 = nI a ∧ a ≤ n ∧ J (43 + 5 * p) 7 = nI (fr + cs.length) ∧ fr + cs.length ≤ a ∧ CC2 fr (J (47 + 5 * p)) cs
/-- a fault at a -/
def FJ (p fr : Nat) (I J : It) (a : Nat) : Prop := FP p fr I J ∧ J (43 + 5 * p) 11 ≠ 0 ∧ J (43 + 5 * p) 10 = nI a
section PQ
variable {p n fr a : Nat} {X : Nat → Int32} {I J : It} {cs : List Int32} {s : Int32}
theorem CJ.here (h : CJ p n I J a fr cs) (hT : TT p n X I) : hereC p J = nxA X n a := by
  obtain ⟨hF, h11, h10, han, -⟩ := h
  obtain ⟨hp, hn, h9, hX⟩ := hT
  have e9 : J (43 + 5 * p) 9 = nI n := (hF.2.1 9 (by decide) (by decide) (by decide)).trans h9
  have e31 : J 31 = I 31 := hF.1 31 (by omega) (by omega)
  unfold hereC nxA
  rw [if_neg (not_not_intro h11), h10, if_neg (nI_pos (by omega)), e9]
  by_cases z : a < n
  · rw [if_neg (fun q => absurd ((nI_leI (by omega) (by omega)).mp q) (by omega)), if_pos (show nI a < 100 from nI_lt (b := 100) (by omega) (by decide)), if_pos z, tN_nI (by omega), e31]
    exact hX a z
  · rw [if_pos (nI_le (by omega) (by omega)), if_neg z]
theorem FJ.here (h : FJ p fr I J a) : hereC p J = -1 := by
  unfold hereC
  rw [if_pos h.2.1]
theorem CJ.inc (h : CJ p n I J a fr cs) (ha : a < n) : CJ p n I (incW p J) (a + 1) fr cs := by
  obtain ⟨hF, h11, h10, han, h7, hle, hC⟩ := h
  unfold incW
  refine ⟨hF.u (Or.inr (Or.inl rfl)), (upn (by omega)).trans h11, by rw [up0, h10]; exact nI_1 a, ha, (upn (by omega)).trans h7, by omega, ?_⟩
  rw [upI_off (by omega)]; exact hC
theorem CJ.fau (h : CJ p n I J a fr cs) : FJ p fr I (fauW p J) a := ⟨h.1.u (Or.inr (Or.inr rfl)), by unfold fauW; rw [up0]; decide, (upn (by omega)).trans h.2.2.1⟩
theorem FJ.fau (h : FJ p fr I J a) : FJ p fr I (fauW p J) a := ⟨h.1.u (Or.inr (Or.inr rfl)), by unfold fauW; rw [up0]; decide, (upn (by omega)).trans h.2.2⟩
theorem CJ.tk_n (h : CJ p n I J a fr cs) (hT : TT p n X I) (e : nxA X n a ≠ s) : tkW p s J = J := by unfold tkW; rw [h.here hT, if_neg e]
theorem CJ.tk_y (h : CJ p n I J a fr cs) (hT : TT p n X I) (e : nxA X n a = s) : tkW p s J = incW p J := by unfold tkW; rw [h.here hT, if_pos e]
theorem FJ.tk (h : FJ p fr I J a) (hs : s ≠ -1) : tkW p s J = J := by unfold tkW; rw [h.here, if_neg (Ne.symm hs)]
theorem CJ.nd_e (h : CJ p n I J a fr cs) (hT : TT p n X I) (e : nxA X n a = s) : ndW p s J = incW p J := by
  unfold ndW tiW
  rw [bI_t (by rw [h.here hT]; exact e), if_neg (by decide), if_neg (not_not_intro h.2.1)]
theorem CJ.nd_y (h : CJ p n I J a fr cs) (hT : TT p n X I) (hs : s ≠ -1) (e : nxA X n a = s) : CJ p n I (ndW p s J) (a + 1) fr cs := by
  rw [h.nd_e hT e]; exact h.inc (nxA_no hs e)
theorem CJ.nd_n (h : CJ p n I J a fr cs) (hT : TT p n X I) (e : nxA X n a ≠ s) : FJ p fr I (ndW p s J) a := by
  unfold ndW tiW
  rw [bI_f (by rw [h.here hT]; exact e), if_pos rfl]; exact h.fau
theorem FJ.ti {b : Int32} (h : FJ p fr I J a) : FJ p fr I (tiW p b J) a := by
  unfold tiW
  by_cases z : b = 0
  · rw [if_pos z]; exact h.fau
  · rw [if_neg z, if_pos h.2.1]; exact h.fau
theorem FJ.nd (h : FJ p fr I J a) : FJ p fr I (ndW p s J) a := h.ti
theorem FJ.kp (h : FJ p fr I J a) : kpW p s J = J := by unfold kpW; rw [if_pos h.2.1]
theorem FJ.nu (h : FJ p fr I J a) : FJ p fr I (nuW p J) a := by
  unfold nuW
  rw [h.here, if_pos (by decide)]; exact h.fau
theorem FJ.t2 (h : FJ p fr I (ts2 p J) a) : FJ p fr I (tsW p J) a := by
  unfold tsW
  rw [FJ.kp h.nu]; exact h.nu
theorem FJ.ts (h : FJ p fr I J a) : FJ p fr I (tsW p J) a := FJ.t2 (FJ.ti (FJ.ti h))
theorem CJ.kp (h : CJ p n I J a fr cs) (hn : n ≤ 100) (hlt : fr + cs.length < a) {x t : Int32} (hx : CRq x t) : CJ p n I (kpW p t J) a fr (cs ++ [x]) := by
  obtain ⟨hF, h11, h10, han, h7, hle, hC⟩ := h
  have e1 : kp1 p t J (43 + 5 * p) = J (43 + 5 * p) := upI_off (by omega)
  have ek : kp1 p t J = upI J (47 + 5 * p) (fr + cs.length) t := by unfold kp1; rw [h7, tN_nI (by omega)]
  unfold kpW
  rw [if_neg (not_not_intro h11), if_neg (by rw [h7]; exact fun z => absurd ((nI_leI (a := 100) (by decide) (by omega)).mp z) (by omega)), e1, h7, ek]
  refine ⟨(hF.k (Nat.le_add_right _ _)).u (Or.inl rfl), (upn (by omega)).trans ((upn (by omega)).trans h11), (upn (by omega)).trans ((upn (by omega)).trans h10), han, ?_, ?_, ?_⟩
  · rw [up0, nI_1, List.length_append]; rfl
  · rw [List.length_append, List.length_cons, List.length_nil]; omega
  · rw [upI_off (by omega)]
    intro i hi
    rw [List.length_append, List.length_cons, List.length_nil] at hi
    by_cases z : i = cs.length
    · subst z
      rw [up0]
      have : (cs ++ [x]).getD cs.length 0 = x := by simp
      rw [this]; exact hx
    · rw [upn (by omega)]
      have : (cs ++ [x]).getD i 0 = cs.getD i 0 := by simp [List.getD_eq_getElem?_getD, List.getElem?_append_left (show i < cs.length by omega)]
      rw [this]; exact hC i (by omega)
theorem CJ.nu_y (h : CJ p n I J a fr cs) (hT : TT p n X I) (hd : dgA X n a) : CJ p n I (nuW p J) (nuA X n a) fr cs ∧ nuV p J = nvA X n a := by
  have e1 := h.here hT
  have h1 := h.inc (dgA_lt hd)
  have e2 := h1.here hT
  have n1 : ¬ hereC p J < 48 := by rw [e1]; exact Int32.not_lt.mpr hd.1
  have n2 : ¬ 57 < hereC p J := by rw [e1]; exact Int32.not_lt.mpr hd.2
  have c0 : (0 : Int32) * 10 = 10 * 0 := by decide
  unfold nuW nuV nuA nvA
  rw [if_neg n1, if_neg n1, if_neg n2, if_neg n2, if_pos hd, e1, e2]
  by_cases h2 : dgA X n (a + 1)
  · have m1 : ¬ nxA X n (a + 1) < 48 := Int32.not_lt.mpr h2.1
    have m2 : ¬ 57 < nxA X n (a + 1) := Int32.not_lt.mpr h2.2
    rw [if_neg m1, if_neg m1, if_neg m2, if_neg m2, if_pos h2, if_pos h2]
    refine ⟨h1.inc (dgA_lt h2), ?_⟩
    rw [c0, Int32.mul_comm _ 10]
  · rw [if_neg h2, if_neg h2]
    by_cases m1 : nxA X n (a + 1) < 48
    · rw [if_pos m1, if_pos m1]; exact ⟨h1, by rw [c0]⟩
    · have m2 : 57 < nxA X n (a + 1) := Int32.not_le.mp (fun z => h2 ⟨Int32.not_lt.mp m1, z⟩)
      rw [if_neg m1, if_neg m1, if_pos m2, if_pos m2]; exact ⟨h1, by rw [c0]⟩
theorem CJ.nu_n (h : CJ p n I J a fr cs) (hT : TT p n X I) (hd : ¬ dgA X n a) : FJ p fr I (nuW p J) a := by
  unfold nuW
  rw [h.here hT]
  by_cases z : nxA X n a < 48
  · rw [if_pos z]; exact h.fau
  · rw [if_neg z, if_pos (Int32.not_le.mp (fun q => hd ⟨Int32.not_lt.mp z, q⟩))]; exact h.fau
end PQ
theorem pl_L {c : Int32} : ¬ plA c < 0 ↔ isL c := by
  unfold plA
  by_cases e1 : c = 99
  · subst e1; decide
  by_cases e2 : c = 105
  · subst e2; decide
  by_cases e3 : c = 107
  · subst e3; decide
  by_cases e4 : c = 114
  · subst e4; decide
  by_cases e5 : c = 118
  · subst e5; decide
  by_cases e6 : c = 119
  · subst e6; decide
  by_cases e7 : c = 121
  · subst e7; decide
  rw [if_neg e1, if_neg e2, if_neg e3, if_neg e4, if_neg e5, if_neg e6, if_neg e7]
  constructor
  · intro z; exact absurd (by decide) z
  · rintro (z | z | z | z | z | z | z)
    · exact absurd z e2
    · exact absurd z e3
    · exact absurd z e4
    · exact absurd z e5
    · exact absurd z e1
    · exact absurd z e7
    · exact absurd z e6
theorem pl_let {c : Int32} {f : Nat} (hf : f ≤ 6) (h : plA c = nI f) : c = nI (letL f) := by
  have key : isL c := pl_L.mp (by rw [h]; exact nI_pos (by omega))
  have g : ∀ k, k ≤ 6 → plA c = nI k → f = k := fun k hk e => (nI_eq (by omega) (by omega)).mp (h.symm.trans e)
  rcases key with rfl | rfl | rfl | rfl | rfl | rfl | rfl
  · rw [g 0 (by decide) rfl]; rfl
  · rw [g 1 (by decide) rfl]; rfl
  · rw [g 2 (by decide) rfl]; rfl
  · rw [g 3 (by decide) rfl]; rfl
  · rw [g 4 (by decide) rfl]; rfl
  · rw [g 5 (by decide) rfl]; rfl
  · rw [g 6 (by decide) rfl]; rfl
set_option maxRecDepth 100000 in
theorem cr_c : ∀ f, f ≤ 6 → ∀ s, s ≤ 2 → ∀ d, d ≤ 99 → nI (letL f) ||| nI (s + 60) <<< (8 &&& 31) ||| nI d <<< (16 &&& 31) = nI (letL f + 256 * (60 + s) + 65536 * d) := by decide +kernel
theorem is_S {c : Int32} : isS c ↔ (60 ≤ c ∧ c ≤ 62) := by
  constructor
  · rintro (rfl | rfl | rfl) <;> decide
  · intro h
    obtain ⟨s, s1, s2, rfl⟩ := in1_of (c := 60) (b := 62) (by decide) (by decide) h
    rcases (by omega : s = 60 ∨ s = 61 ∨ s = 62) with rfl | rfl | rfl <;> decide
section PQ2
variable {p n fr a : Nat} {X : Nat → Int32} {I J : It} {cs : List Int32}
theorem CJ.ts (h : CJ p n I J a fr cs) (hT : TT p n X I) : ((tsA X n a).1 = true → CJ p n I (tsW p J) (tsA X n a).2.1 fr (cs ++ [(tsA X n a).2.2])) ∧ (¬ (tsA X n a).1 = true → FJ p fr I (tsW p J) (tsA X n a).2.1) := by
  have e1 := h.here hT
  by_cases q1 : isL (nxA X n a)
  · have p1 : ¬ plA (nxA X n a) < 0 := pl_L.mpr q1
    have s1 : ts1 p J = incW p J := by
      unfold ts1 tiW
      rw [bI_t (by rw [e1]; exact q1), if_neg (by decide), if_neg (not_not_intro h.2.1)]
    have h1 : CJ p n I (ts1 p J) (a + 1) fr cs := by rw [s1]; exact h.inc (pl_lt (Int32.not_lt.mp p1))
    have e2 := h1.here hT
    by_cases q2 : 60 ≤ nxA X n (a + 1) ∧ nxA X n (a + 1) ≤ 62
    · have s2 : ts2 p J = incW p (ts1 p J) := by
        unfold ts2 tiW
        rw [bI_t (by rw [e2]; exact is_S.mpr q2), if_neg (by decide), if_neg (not_not_intro h1.2.1)]
      have h2 : CJ p n I (ts2 p J) (a + 2) fr cs := by rw [s2]; exact h1.inc (in_lt q2)
      by_cases q3 : dgA X n (a + 2)
      · obtain ⟨h3, v3⟩ := h2.nu_y hT q3
        have et : tsA X n a = (true, nuA X n (a + 2), 1000 * plA (nxA X n a) + 100 * (nxA X n (a + 1) - 60) + nvA X n (a + 2)) := by
          unfold tsA
          rw [if_neg p1, if_neg (not_not_intro q2), if_neg (not_not_intro q3)]
        have ht : (tsA X n a).1 = true := by rw [et]
        obtain ⟨f, s, d, hf, hs2, hd, ef, es, ed, ec⟩ := ts_ok ht
        refine ⟨fun _ => ?_, fun z => absurd ht z⟩
        have g := nuA_gt q3
        have en : (tsA X n a).2.1 = nuA X n (a + 2) := by rw [et]
        have hle := h.2.2.2.2.2.1
        rw [en, ec]
        unfold tsW
        rw [e1, e2, v3, pl_let hf ef, es, ed, cr_c f hf s hs2 d hd]
        exact h3.kp hT.2.1 (by omega) (Or.inr (Or.inr (Or.inr ⟨f, s, d, hf, hs2, hd, rfl, rfl⟩)))
      · have et : tsA X n a = (false, a + 2, 0) := by
          unfold tsA
          rw [if_neg p1, if_neg (not_not_intro q2), if_pos q3]
        rw [et]
        refine ⟨fun z => absurd z Bool.false_ne_true, fun _ => ?_⟩
        unfold tsW
        rw [FJ.kp (h2.nu_n hT q3)]
        exact h2.nu_n hT q3
    · have et : tsA X n a = (false, a + 1, 0) := by
        unfold tsA
        rw [if_neg p1, if_pos q2]
      rw [et]
      refine ⟨fun z => absurd z Bool.false_ne_true, fun _ => FJ.t2 ?_⟩
      unfold ts2 tiW
      rw [bI_f (by rw [e2]; exact fun z => q2 (is_S.mp z)), if_pos rfl]
      exact h1.fau
  · have et : tsA X n a = (false, a, 0) := by
      unfold tsA
      rw [if_pos (Decidable.not_not.mp (fun z => q1 (pl_L.mp z)))]
    rw [et]
    refine ⟨fun z => absurd z Bool.false_ne_true, fun _ => FJ.t2 ?_⟩
    have h1 : FJ p fr I (ts1 p J) a := by
      unfold ts1 tiW
      rw [bI_f (by rw [e1]; exact q1), if_pos rfl]
      exact h.fau
    exact h1.ti
end PQ2
/-! the machine with fuel enough -/
theorem ts_n {X : Nat → Int32} {n a : Nat} (ha : a ≤ n) : (tsA X n a).2.1 ≤ n := by
  unfold tsA
  split
  · exact ha
  · next z =>
    have := pl_lt (Int32.not_lt.mp z)
    split
    · show a + 1 ≤ n; omega
    · next z =>
      have := in_lt (Decidable.not_not.mp z)
      split
      · show a + 2 ≤ n; omega
      · next z =>
        have := nuA_le (X := X) (n := n) (a := a + 2) (by omega)
        exact this
theorem am_fuel {X : Nat → Int32} {n : Nat} : ∀ (f g : Nat) (w : Bool) (a : Nat) (cs ws : List Int32), a ≤ n → n - a < f → n - a < g → amR X n f w a cs ws = amR X n g w a cs ws := by
  intro f
  induction f with
  | zero => intro g w a cs ws _ h1 _; exact absurd h1 (Nat.not_lt_zero _)
  | succ f ih =>
    intro g w a cs ws ha h1 h2
    obtain ⟨g, rfl⟩ : ∃ z, g = z + 1 := ⟨g - 1, by omega⟩
    cases w with
    | true =>
      by_cases h : nxA X n a = 33 ∨ nxA X n a = 40
      · have hlt : a < n := by rcases h with z | z <;> exact nxA_no (by decide) z
        by_cases h4 : opn ws = 4
        · rw [am_o4 h h4, am_o4 h h4]
        · rw [am_o h h4, am_o h h4]; exact ih g true (a + 1) _ _ hlt (by omega) (by omega)
      · by_cases h4 : (tsA X n a).1 = true
        · have g1 := ts_gt h4
          have g2 := ts_n (X := X) ha
          rw [am_t h h4, am_t h h4]; exact ih g false _ _ _ g2 (by omega) (by omega)
        · rw [am_tf h h4, am_tf h h4]
    | false =>
      by_cases h : nxA X n a = 38 ∨ nxA X n a = 124
      · have hlt : a < n := by rcases h with z | z <;> exact nxA_no (by decide) z
        rw [am_b h, am_b h]; exact ih g true (a + 1) _ _ hlt (by omega) (by omega)
      · by_cases h4 : (seA 124 ws cs).2 = []
        · rw [am_e h h4, am_e h h4]
        · by_cases h5 : nxA X n a = 41
          · have hlt : a < n := nxA_no (by decide) h5
            rw [am_c h h4 h5, am_c h h4 h5]; exact ih g false (a + 1) _ _ hlt (by omega) (by omega)
          · rw [am_x h h4 h5, am_x h h4 h5]
def AM (X : Nat → Int32) (n : Nat) (w : Bool) (a : Nat) (cs ws : List Int32) : Bool × Nat × List Int32 := amR X n 101 w a cs ws
section AMS
variable {X : Nat → Int32} {n a : Nat} {cs ws : List Int32}
theorem am_up {w : Bool} (hn : n ≤ 100) (ha : 1 ≤ a) (han : a ≤ n) : amR X n 100 w a cs ws = AM X n w a cs ws := am_fuel 100 101 w a cs ws han (by omega) (by omega)
theorem AM_o (hn : n ≤ 100) (h : nxA X n a = 33 ∨ nxA X n a = 40) (h4 : ¬ opn ws = 4) : AM X n true a cs ws = AM X n true (a + 1) cs (nxA X n a :: ws) :=
  (am_o (f := 100) h h4).trans (am_up hn (by omega) (by rcases h with z | z <;> exact nxA_no (by decide) z))
theorem AM_o4 (h : nxA X n a = 33 ∨ nxA X n a = 40) (h4 : opn ws = 4) : AM X n true a cs ws = (false, a, cs) := am_o4 (f := 100) h h4
theorem AM_t (hn : n ≤ 100) (han : a ≤ n) (h : ¬ (nxA X n a = 33 ∨ nxA X n a = 40)) (h4 : (tsA X n a).1 = true) : AM X n true a cs ws = AM X n false (tsA X n a).2.1 (whA ws (cs ++ [(tsA X n a).2.2])).1 (whA ws (cs ++ [(tsA X n a).2.2])).2 :=
  (am_t (f := 100) h h4).trans (am_up hn (by have := ts_gt h4; omega) (ts_n han))
theorem AM_tf (h : ¬ (nxA X n a = 33 ∨ nxA X n a = 40)) (h4 : ¬ (tsA X n a).1 = true) : AM X n true a cs ws = (false, (tsA X n a).2.1, cs) := am_tf (f := 100) h h4
theorem AM_b (hn : n ≤ 100) (h : nxA X n a = 38 ∨ nxA X n a = 124) : AM X n false a cs ws = AM X n true (a + 1) (seA (nxA X n a) ws cs).1 (nxA X n a :: (seA (nxA X n a) ws cs).2) :=
  (am_b (f := 100) h).trans (am_up hn (by omega) (by rcases h with z | z <;> exact nxA_no (by decide) z))
theorem AM_e (h : ¬ (nxA X n a = 38 ∨ nxA X n a = 124)) (h2 : (seA 124 ws cs).2 = []) : AM X n false a cs ws = (true, a, (seA 124 ws cs).1) := am_e (f := 100) h h2
theorem AM_c (hn : n ≤ 100) (h : ¬ (nxA X n a = 38 ∨ nxA X n a = 124)) (h2 : ¬ (seA 124 ws cs).2 = []) (h3 : nxA X n a = 41) : AM X n false a cs ws = AM X n false (a + 1) (whA (seA 124 ws cs).2.tail (seA 124 ws cs).1).1 (whA (seA 124 ws cs).2.tail (seA 124 ws cs).1).2 :=
  (am_c (f := 100) h h2 h3).trans (am_up hn (by omega) (nxA_no (by decide) h3))
theorem AM_x (h : ¬ (nxA X n a = 38 ∨ nxA X n a = 124)) (h2 : ¬ (seA 124 ws cs).2 = []) (h3 : ¬ nxA X n a = 41) : AM X n false a cs ws = (false, a, (seA 124 ws cs).1) := am_x (f := 100) h h2 h3
end AMS
/-! what waits: the base of an E, of a part between bars -/
def isB (ws : List Int32) : Prop := ws = [] ∨ ∃ r, ws = 40 :: r
def isA (ws : List Int32) : Prop := isB ws ∨ ∃ r, isB r ∧ ws = 124 :: r
theorem wh_A {ws c : List Int32} (h : isA ws) : whA ws c = (c, ws) := by
  rcases h with (rfl | ⟨r, rfl⟩) | ⟨r, -, rfl⟩
  · rfl
  · rw [whA_c, if_neg (by decide)]
  · rw [whA_c, if_neg (by decide)]
theorem wh_38 {ws c : List Int32} : whA (38 :: ws) c = (c, 38 :: ws) := by rw [whA_c, if_neg (by decide)]
theorem se38_A {ws c : List Int32} (h : isA ws) : seA 38 ws c = (c, ws) := by
  rcases h with (rfl | ⟨r, rfl⟩) | ⟨r, -, rfl⟩
  · rfl
  · rw [seA_c, if_neg (by decide), if_neg (by decide)]
  · rw [seA_c, if_neg (by decide), if_pos rfl, if_pos rfl]
theorem se124_B {ws c : List Int32} (h : isB ws) : seA 124 ws c = (c, ws) := by
  rcases h with rfl | ⟨r, rfl⟩
  · rfl
  · rw [seA_c, if_neg (by decide), if_neg (by decide)]
theorem se_38c {s : Int32} {ws c : List Int32} : seA s (38 :: ws) c = seA s ws (c ++ [-38]) := by rw [seA_c, if_pos rfl]
theorem se_124c {ws c : List Int32} : seA 124 (124 :: ws) c = seA 124 ws (c ++ [-124]) := by rw [seA_c, if_neg (by decide), if_pos rfl, if_neg (by decide)]
def StA (cr wr C ws : List Int32) : Prop := (wr = ws ∧ cr = C) ∨ (wr = 38 :: ws ∧ C = cr ++ [-38])
def StE (cr wr C B : List Int32) : Prop := StA cr wr C B ∨ ∃ c1, StA cr wr c1 (124 :: B) ∧ C = c1 ++ [-124]
theorem StA.s38 {cr wr C ws : List Int32} (hA : isA ws) (h : StA cr wr C ws) : seA 38 wr cr = (C, ws) := by
  rcases h with ⟨rfl, rfl⟩ | ⟨rfl, rfl⟩
  · exact se38_A hA
  · rw [se_38c]; exact se38_A hA
theorem StA.s124 {cr wr C ws : List Int32} (h : StA cr wr C ws) : seA 124 wr cr = seA 124 ws C := by
  rcases h with ⟨rfl, rfl⟩ | ⟨rfl, rfl⟩
  · rfl
  · rw [se_38c]
theorem StE.s124 {cr wr C B : List Int32} (hB : isB B) (h : StE cr wr C B) : seA 124 wr cr = (C, B) := by
  rcases h with h | ⟨c1, h, rfl⟩
  · rw [h.s124]; exact se124_B hB
  · rw [h.s124, se_124c]; exact se124_B hB
/-- what a piece of the class reads, the machine reads -/
def PSp (p n : Nat) (X : Nat → Int32) (I : It) (k : Nat) (W : It → It) : Prop := ∀ (J : It) (a fr : Nat) (cs ws : List Int32), 1 ≤ a → CJ p n I J a fr cs → opn ws + k = 4 →
  (∃ a' new, CJ p n I (W J) a' fr (cs ++ new) ∧ a < a' ∧ a + new.length ≤ a' ∧ ∀ cr, AM X n true a cr ws = AM X n false a' (whA ws (cr ++ new)).1 (whA ws (cr ++ new)).2) ∨
  (∃ a', FJ p fr I (W J) a' ∧ ∀ cr, ∃ z, AM X n true a cr ws = (false, a', z))

