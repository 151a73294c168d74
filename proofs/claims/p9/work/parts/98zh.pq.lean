/-! clauses, the text -/
def FQ (p : Nat) (I J : It) : Prop := (∀ a, (a < 43 + 5 * p ∨ 47 + 5 * p < a) → J a = I a) ∧ ∀ j, j ∉ [0, 1, 2, 7, 10, 11] → J (43 + 5 * p) j = I (43 + 5 * p) j
theorem FQ.rf {p : Nat} {I : It} : FQ p I I := ⟨fun _ _ => rfl, fun _ _ => rfl⟩
theorem FQ.tr {p : Nat} {I J K : It} (h : FQ p I J) (h2 : FQ p J K) : FQ p I K := ⟨fun a ha => (h2.1 a ha).trans (h.1 a ha), fun j hj => (h2.2 j hj).trans (h.2 j hj)⟩
theorem FP.q {p fr : Nat} {I J : It} (h : FP p fr I J) : FQ p I J :=
  ⟨fun a ha => h.1 a (by omega) (by omega), fun j hj => by
    simp only [List.mem_cons, List.not_mem_nil, or_false, not_or] at hj
    exact h.2.1 j (by omega) (by omega) (by omega)⟩
theorem FQ.u {p j : Nat} {I J : It} {x : Int32} (h : FQ p I J) (hj : j ∈ [0, 1, 2, 7, 10, 11]) : FQ p I (upI J (43 + 5 * p) j x) :=
  ⟨fun a ha => (upI_off (by omega)).trans (h.1 a ha), fun b hb => (upn (fun z => hb (by rw [z.2]; exact hj))).trans (h.2 b hb)⟩
theorem TT.q {p n : Nat} {X : Nat → Int32} {I J : It} (hT : TT p n X I) (h : FQ p I J) : TT p n X J :=
  ⟨hT.1, hT.2.1, (h.2 9 (by decide)).trans hT.2.2.1, fun j hj => by rw [h.1 31 (by omega)]; exact hT.2.2.2 j hj⟩
def DJ (p n : Nat) (I J : It) (a : Nat) (l : List Cl) : Prop :=
  FQ p I J ∧ (J (43 + 5 * p) 11 = 0 ∧ J (43 + 5 * p) 10 = nI a ∧ a ≤ n) ∧ (J (43 + 5 * p) 7 = nI (tot l) ∧ tot l ≤ a) ∧ J (43 + 5 * p) 2 = nI l.length ∧ CTc J p l 0 0 ∧ J (43 + 5 * p) 0 = lstL 2 l 7 ∧ J (43 + 5 * p) 1 = lstL 3 l 1
def GJ (p : Nat) (I J : It) (a : Nat) : Prop := FQ p I J ∧ J (43 + 5 * p) 11 ≠ 0 ∧ J (43 + 5 * p) 10 = nI a
theorem DJ.c {p n a : Nat} {I J : It} {l : List Cl} (h : DJ p n I J a l) : CJ p n J J a (tot l) [] := ⟨FP.rf, h.2.1.1, h.2.1.2.1, h.2.1.2.2, h.2.2.1.1, h.2.2.1.2, fun i hi => absurd hi (Nat.not_lt_zero i)⟩
theorem FJ.g {p fr a : Nat} {I J K : It} (hF : FQ p I J) (h : FJ p fr J K a) : GJ p I K a := ⟨hF.tr h.1.q, h.2.1, h.2.2⟩
theorem GJ.u {p a j : Nat} {I J : It} {x : Int32} (h : GJ p I J a) (hj : j = 0 ∨ j = 1) : GJ p I (upI J (43 + 5 * p) j x) a :=
  ⟨h.1.u (by rcases hj with rfl | rfl <;> decide), by rw [upn (by omega)]; exact h.2.1, (upn (by omega)).trans h.2.2⟩
theorem GJ.cl {p a : Nat} {I J : It} {w v : Int32} (h : GJ p I J a) : clW p w v J = J := by unfold clW; rw [if_pos h.2.1]
theorem GJ.here {p a : Nat} {I J : It} (h : GJ p I J a) : hereC p J = -1 := by unfold hereC; rw [if_pos h.2.1]
theorem GJ.rf {p a : Nat} {I J : It} (h : GJ p I J a) : ∀ (f k : Nat), k ≠ 0 → rfR p f k J = J := by
  intro f k hk
  cases f with
  | zero => rfl
  | succ f =>
    rw [rfR_s, if_neg hk, if_neg (by rw [h.here]; decide)]
    unfold tkW
    rw [h.here, if_neg (by decide)]
theorem DJ.stop {p n a : Nat} {X : Nat → Int32} {I J : It} {l : List Cl} (h : DJ p n I J a l) (hT : TT p n X I) (e : nxA X n a ≠ 59) : ∀ (f k : Nat), k ≠ 0 → rfR p f k J = J := by
  intro f k hk
  have hT0 := hT.q h.1
  cases f with
  | zero => rfl
  | succ f => rw [rfR_s, if_neg hk, if_neg (by rw [h.c.here hT0]; exact e), h.c.tk_n hT0 e]
theorem CTc_mv2 {I J : It} {p : Nat} : ∀ {l : List Cl} {k fr : Nat}, CTc I p l k fr → (∀ j, k ≤ j → j < k + l.length → J (44 + 5 * p) j = I (44 + 5 * p) j ∧ J (45 + 5 * p) j = I (45 + 5 * p) j ∧ J (46 + 5 * p) j = I (46 + 5 * p) j) → (∀ j, fr ≤ j → j < fr + tot l → J (47 + 5 * p) j = I (47 + 5 * p) j) → CTc J p l k fr := by
  intro l
  induction l with
  | nil => intro k fr _ _ _; trivial
  | cons x r ih =>
    intro k fr hc h1 h2
    rw [List.length_cons] at h1
    rw [tot_c] at h2
    obtain ⟨⟨c1, c2, c3, c4⟩, c5⟩ := hc
    obtain ⟨e1, e2, e3⟩ := h1 k (Nat.le_refl _) (by omega)
    refine ⟨⟨e1.trans c1, e2.trans c2, e3.trans c3, fun i hi => ?_⟩, ih c5 (fun j q1 q2 => h1 j (by omega) (by omega)) (fun j q1 q2 => h2 j (by omega) (by omega))⟩
    rw [h2 (fr + i) (by omega) (by omega)]
    exact c4 i hi
theorem CTc_app {J : It} {p : Nat} {x : Cl} : ∀ {l : List Cl} {k fr : Nat}, CTc J p l k fr → (J (44 + 5 * p) (k + l.length) = wcd x.1 ∧ J (45 + 5 * p) (k + l.length) = x.2.1 ∧ J (46 + 5 * p) (k + l.length) = nI (fr + tot l + x.2.2.length) ∧ CC2 (fr + tot l) (J (47 + 5 * p)) x.2.2) → CTc J p (l ++ [x]) k fr := by
  intro l
  induction l with
  | nil => intro k fr _ h; exact ⟨h, trivial⟩
  | cons y r ih =>
    intro k fr h hx
    refine ⟨h.1, ih h.2 ?_⟩
    rw [tot_c, List.length_cons] at hx
    rw [show k + 1 + r.length = k + (r.length + 1) by omega, show fr + y.2.2.length + tot r = fr + (y.2.2.length + tot r) by omega]
    exact hx
theorem lstL_app (w : Int32) (x : Cl) : ∀ (l : List Cl) (n : Int32), lstL w (l ++ [x]) n = if x.1 = w then x.2.1 else lstL w l n := by
  intro l
  induction l with
  | nil => intro n; rfl
  | cons y r ih => intro n; rw [List.cons_append, lstL_c, lstL_c]; exact ih _
/-- a clause is kept -/
theorem DJ.cl {p n a a' : Nat} {I J R : It} {l : List Cl} (h : DJ p n I J a l) (hl : l.length < 10) {t v : Int32} {cs : List Int32}
    (f1 : ∀ q, q ≠ 43 + 5 * p → q ≠ 47 + 5 * p → R q = J q) (f2 : ∀ j, j ≠ 0 → j ≠ 1 → j ≠ 7 → j ≠ 10 → j ≠ 11 → R (43 + 5 * p) j = J (43 + 5 * p) j) (f3 : ∀ j, j < tot l → R (47 + 5 * p) j = J (47 + 5 * p) j)
    (r11 : R (43 + 5 * p) 11 = 0) (r10 : R (43 + 5 * p) 10 = nI a') (han : a' ≤ n) (h100 : n ≤ 100) (r7 : R (43 + 5 * p) 7 = nI (tot l + cs.length)) (hle : tot l + cs.length ≤ a') (hC : CC2 (tot l) (R (47 + 5 * p)) cs)
    (r0 : R (43 + 5 * p) 0 = if t = 2 then v else J (43 + 5 * p) 0) (r1 : R (43 + 5 * p) 1 = if t = 3 then v else J (43 + 5 * p) 1) : DJ p n I (clW p (wcd t) v R) a' (l ++ [(t, v, cs)]) := by
  obtain ⟨d1, -, ⟨d4, d5⟩, d6, d7, d8, d9⟩ := h
  have r2 : R (43 + 5 * p) 2 = nI l.length := (f2 2 (by decide) (by decide) (by decide) (by decide) (by decide)).trans d6
  have e0 : tN (R (43 + 5 * p) 2) = l.length := by rw [r2, tN_nI (by omega)]
  obtain ⟨e1, e2, e3⟩ := cl_P p (wcd t) v R
  have eW : clW p (wcd t) v R = upI (cl3 p (wcd t) v R) (43 + 5 * p) 2 (nI (l.length + 1)) := by
    unfold clW
    rw [if_neg (not_not_intro r11), if_neg (by rw [r2]; exact fun z => absurd ((nI_leI (a := 10) (by decide) (by omega)).mp z) (by omega)), e3, r2, nI_1]
  have e4 : cl3 p (wcd t) v R = upI (upI (upI R (44 + 5 * p) l.length (wcd t)) (45 + 5 * p) l.length v) (46 + 5 * p) l.length (nI (tot l + cs.length)) := by
    unfold cl3
    rw [e2, r7, e0]
    unfold cl2 cl1
    rw [e0]
  rw [eW, e4]
  generalize eK : upI (upI (upI (upI R (44 + 5 * p) l.length (wcd t)) (45 + 5 * p) l.length v) (46 + 5 * p) l.length (nI (tot l + cs.length))) (43 + 5 * p) 2 (nI (l.length + 1)) = K
  have kP : ∀ j, j ≠ 2 → K (43 + 5 * p) j = R (43 + 5 * p) j := fun j hj => by rw [← eK, upn (by omega), upn (by omega), upn (by omega), upn (by omega)]
  have kO : ∀ q, (q < 43 + 5 * p ∨ 47 + 5 * p ≤ q) → K q = R q := fun q hq => by rw [← eK, upI_off (by omega), upI_off (by omega), upI_off (by omega), upI_off (by omega)]
  have k44 : ∀ j, j ≠ l.length → K (44 + 5 * p) j = R (44 + 5 * p) j ∧ K (45 + 5 * p) j = R (45 + 5 * p) j ∧ K (46 + 5 * p) j = R (46 + 5 * p) j := fun j hj => by
    rw [← eK]
    exact ⟨by rw [upn (by omega), upn (by omega), upn (by omega), upn (by omega)], by rw [upn (by omega), upn (by omega), upn (by omega), upn (by omega)], by rw [upn (by omega), upn (by omega), upn (by omega), upn (by omega)]⟩
  have kl : K (44 + 5 * p) l.length = wcd t ∧ K (45 + 5 * p) l.length = v ∧ K (46 + 5 * p) l.length = nI (tot l + cs.length) := by
    rw [← eK]
    exact ⟨by rw [upn (by omega), upn (by omega), upn (by omega), up0], by rw [upn (by omega), upn (by omega), up0], by rw [upn (by omega), up0]⟩
  have k2 : K (43 + 5 * p) 2 = nI (l.length + 1) := by rw [← eK, up0]
  have k47 : K (47 + 5 * p) = R (47 + 5 * p) := kO _ (by omega)
  refine ⟨⟨fun q hq => (kO q (by omega)).trans ((f1 q (by omega) (by omega)).trans (d1.1 q hq)), fun j hj => ?_⟩, ⟨(kP 11 (by decide)).trans r11, (kP 10 (by decide)).trans r10, han⟩, ⟨?_, ?_⟩, ?_, ?_, ?_, ?_⟩
  · have hj2 := hj
    simp only [List.mem_cons, List.not_mem_nil, or_false, not_or] at hj
    exact (kP j (by omega)).trans ((f2 j (by omega) (by omega) (by omega) (by omega) (by omega)).trans (d1.2 j hj2))
  · rw [kP 7 (by decide), r7, tot_app]
  · rw [tot_app]; exact hle
  · rw [k2, List.length_append]; rfl
  · refine CTc_app (CTc_mv2 d7 (fun j _ hj => ?_) (fun j _ hj => ?_)) ?_
    · obtain ⟨q1, q2, q3⟩ := k44 j (by omega)
      rw [q1, q2, q3, f1 _ (by omega) (by omega), f1 _ (by omega) (by omega), f1 _ (by omega) (by omega)]
      exact ⟨rfl, rfl, rfl⟩
    · rw [k47]; exact f3 j (by omega)
    · rw [Nat.zero_add, Nat.zero_add, k47]
      exact ⟨kl.1, kl.2.1, kl.2.2, hC⟩
  · rw [kP 0 (by decide), r0, lstL_app, d8]
  · rw [kP 1 (by decide), r1, lstL_app, d9]
/-- a clause is read -/
theorem rc_sp {p n : Nat} {X : Nat → Int32} {I J : It} {a : Nat} {l : List Cl} (hT : TT p n X I) (h : DJ p n I J a l) (hl : l.length < 10) : ((clA X n a).1 = true → DJ p n I (rcW p J) (clA X n a).2.1 (l ++ [(clA X n a).2.2])) ∧ (¬ (clA X n a).1 = true → GJ p I (rcW p J) (clA X n a).2.1) := by
  have hn := hT.2.1
  have hT0 := hT.q h.1
  have hC := h.c
  obtain ⟨w1, w2⟩ := wd_sp hT0 hC
  have bad2 : ∀ b, GJ p I (rc2 p J) b → GJ p I (rcW p J) b := by
    intro b g
    unfold rcW
    rw [g.cl]; exact g
  have bad : ∀ b, FJ p (tot l) J (rc1 p J) b → GJ p I (rcW p J) b := by
    intro b hb
    refine bad2 b ?_
    unfold rc2
    by_cases z : wdV p J = 115 ∨ wdV p J = 99
    · rw [if_pos z]; exact FJ.g h.1 (FJ.eF (FJ.pa 4 hb.nd))
    · rw [if_neg z]
      by_cases z2 : wdV p J = 108
      · rw [if_pos z2]; exact (FJ.g h.1 hb).u (Or.inl rfl)
      · rw [if_neg z2]; exact (FJ.g h.1 hb).u (Or.inr rfl)
  by_cases q1 : (hdA X n a).1 = true
  · obtain ⟨hC1, hv⟩ := w1 q1
    by_cases q2 : dgA X n (hdA X n a).2.1
    · obtain ⟨hC2, hN⟩ := hC1.nu_y hT0 q2
      replace hC2 : CJ p n J (rc1 p J) (nuA X n (hdA X n a).2.1) (tot l) [] := hC2
      replace hN : rcN_ p J = nvA X n (hdA X n a).2.1 := hN
      by_cases q3 : 1 < (hdA X n a).2.2
      · rw [cl_w q1 q2 q3]
        refine ⟨fun _ => ?_, fun z => absurd rfl z⟩
        show DJ p n I (rcW p J) (nuA X n (hdA X n a).2.1) (l ++ [((hdA X n a).2.2, nvA X n (hdA X n a).2.1, [])])
        have t23 : (hdA X n a).2.2 = 2 ∨ (hdA X n a).2.2 = 3 := by
          rcases hd_w (X := X) (n := n) (a := a) with z | z | z | z
          · rw [z] at q3; exact absurd q3 (by decide)
          · rw [z] at q3; exact absurd q3 (by decide)
          · exact Or.inl z
          · exact Or.inr z
        obtain ⟨⟨f1, f2, f3⟩, g11, g10, gan, g7, gle, gC⟩ := hC2
        unfold rcW
        rw [hv, hN]
        rcases t23 with z | z
        · have e2 : rc2 p J = upI (rc1 p J) (43 + 5 * p) 0 (nvA X n (hdA X n a).2.1) := by
            unfold rc2
            rw [hv, z, if_neg (by decide), if_pos (by decide), hN]
          rw [e2]
          exact h.cl hl (fun q z1 z2 => (upI_off z1).trans (f1 q z1 z2)) (fun j j0 j1 j7 j10 j11 => (upn (by omega)).trans (f2 j j7 j10 j11)) (fun j hj => (upn (by omega)).trans (f3 j hj)) ((upn (by omega)).trans g11) ((upn (by omega)).trans g10) gan hn ((upn (by omega)).trans g7) gle (by rw [upI_off (by omega)]; exact gC) (by rw [up0, if_pos z]) (by rw [upn (by omega), if_neg (by rw [z]; decide)]; exact f2 1 (by decide) (by decide) (by decide))
        · have e2 : rc2 p J = upI (rc1 p J) (43 + 5 * p) 1 (nvA X n (hdA X n a).2.1) := by
            unfold rc2
            rw [hv, z, if_neg (by decide), if_neg (by decide), hN]
          rw [e2]
          exact h.cl hl (fun q z1 z2 => (upI_off z1).trans (f1 q z1 z2)) (fun j j0 j1 j7 j10 j11 => (upn (by omega)).trans (f2 j j7 j10 j11)) (fun j hj => (upn (by omega)).trans (f3 j hj)) ((upn (by omega)).trans g11) ((upn (by omega)).trans g10) gan hn ((upn (by omega)).trans g7) gle (by rw [upI_off (by omega)]; exact gC) (by rw [upn (by omega), if_neg (by rw [z]; decide)]; exact f2 0 (by decide) (by decide) (by decide)) (by rw [up0, if_pos z])
      · have t01 : (hdA X n a).2.2 = 0 ∨ (hdA X n a).2.2 = 1 := by
          rcases hd_w (X := X) (n := n) (a := a) with z | z | z | z
          · exact Or.inl z
          · exact Or.inr z
          · rw [z] at q3; exact absurd (by decide) q3
          · rw [z] at q3; exact absurd (by decide) q3
        have e2 : rc2 p J = eiF p (paF p 4) (ndW p 32 (rc1 p J)) := by
          unfold rc2
          rw [hv, if_pos (by rcases t01 with z | z <;> rw [z] <;> decide)]
        by_cases q4 : nxA X n (nuA X n (hdA X n a).2.1) = 32
        · rw [cl_E q1 q2 q3 q4]
          rcases eiF_sp hT0 (pa_sp hT0 4) (B := []) (Or.inl rfl) rfl (by omega) (hC2.nd_y hT0 (by decide) q4) with ⟨a1, nw, g1, l1, l2, n38, n124, hA⟩ | ⟨a1, g1, hA⟩
          · obtain ⟨cr, wr, s1, s2⟩ := hA []
            rw [List.nil_append] at g1 s1
            have eA : amR X n 101 true (nuA X n (hdA X n a).2.1 + 1) [] [] = (true, a1, nw) := by
              show AM X n true (nuA X n (hdA X n a).2.1 + 1) [] [] = _
              rw [s2, AM_e (by rintro (z | z); exact n38 z; exact n124 z) (by rw [s1]), s1]
            rw [eA]
            refine ⟨fun _ => ?_, fun z => absurd rfl z⟩
            show DJ p n I (rcW p J) a1 (l ++ [((hdA X n a).2.2, nvA X n (hdA X n a).2.1, nw)])
            obtain ⟨⟨f1, f2, f3⟩, g11, g10, gan, g7, gle, gC⟩ := g1
            unfold rcW
            rw [hv, hN, e2]
            exact h.cl hl f1 (fun j j0 j1 j7 j10 j11 => f2 j j7 j10 j11) f3 g11 g10 gan hn g7 gle gC (by rw [if_neg (by rcases t01 with z | z <;> rw [z] <;> decide)]; exact f2 0 (by decide) (by decide) (by decide)) (by rw [if_neg (by rcases t01 with z | z <;> rw [z] <;> decide)]; exact f2 1 (by decide) (by decide) (by decide))
          · obtain ⟨z, s2⟩ := hA []
            have eA : amR X n 101 true (nuA X n (hdA X n a).2.1 + 1) [] [] = (false, a1, z) := s2
            rw [eA]
            refine ⟨fun z => absurd z Bool.false_ne_true, fun _ => bad2 a1 ?_⟩
            rw [e2]
            exact FJ.g h.1 g1
        · rw [cl_s q1 q2 q3 q4]
          refine ⟨fun z => absurd z Bool.false_ne_true, fun _ => bad2 _ ?_⟩
          rw [e2]
          exact FJ.g h.1 (FJ.eF (FJ.pa 4 (hC2.nd_n hT0 q4)))
    · rw [cl_n q1 q2]
      exact ⟨fun z => absurd z Bool.false_ne_true, fun _ => bad _ (hC1.nu_n hT0 q2)⟩
  · rw [cl_h q1]
    exact ⟨fun z => absurd z Bool.false_ne_true, fun _ => bad _ ((w2 q1).nu)⟩
theorem DJ.inc {p n a : Nat} {I J : It} {l : List Cl} (h : DJ p n I J a l) (ha : a < n) : DJ p n I (incW p J) (a + 1) l := by
  obtain ⟨d1, ⟨d2, d3, d4⟩, ⟨d5, d6⟩, d7, d8, d9, d10⟩ := h
  unfold incW
  refine ⟨d1.u (by decide), ⟨(upn (by omega)).trans d2, by rw [up0, d3]; exact nI_1 a, ha⟩, ⟨(upn (by omega)).trans d5, by omega⟩, (upn (by omega)).trans d7, CTc_mv2 d8 (fun j _ _ => ?_) (fun j _ _ => ?_), (upn (by omega)).trans d9, (upn (by omega)).trans d10⟩
  · rw [upI_off (by omega), upI_off (by omega), upI_off (by omega)]; exact ⟨rfl, rfl, rfl⟩
  · rw [upI_off (by omega)]
/-- the text is read -/
theorem rf_sp {p n : Nat} {X : Nat → Int32} {I : It} (hT : TT p n X I) : ∀ (f : Nat) (J : It) (a : Nat) (l : List Cl), DJ p n I J a l → l.length + (f + 1) = 10 →
    ((gtA X n (f + 1) a l).1 = true → DJ p n I (rfR p f (l.length + 1) (rcW p J)) n (gtA X n (f + 1) a l).2.2) ∧
    (¬ (gtA X n (f + 1) a l).1 = true → GJ p I (rfR p f (l.length + 1) (rcW p J)) (gtA X n (f + 1) a l).2.1 ∨ ∃ l', DJ p n I (rfR p f (l.length + 1) (rcW p J)) (gtA X n (f + 1) a l).2.1 l' ∧ (gtA X n (f + 1) a l).2.1 ≠ n) := by
  intro f
  induction f with
  | zero =>
    intro J a l h hl
    obtain ⟨r1, r2⟩ := rc_sp hT h (by omega)
    show (_ → DJ p n I (rcW p J) n _) ∧ (_ → GJ p I (rcW p J) _ ∨ ∃ l', DJ p n I (rcW p J) _ l' ∧ _)
    by_cases c : (clA X n a).1 = true
    · by_cases e : (clA X n a).2.1 = n
      · rw [gt_e c e]
        refine ⟨fun _ => ?_, fun z => absurd rfl z⟩
        have := r1 c
        rw [e] at this
        exact this
      · rw [gt_10 c e (by omega)]
        exact ⟨fun z => absurd z Bool.false_ne_true, fun _ => Or.inr ⟨_, r1 c, e⟩⟩
    · rw [gt_f c]
      exact ⟨fun z => absurd z Bool.false_ne_true, fun _ => Or.inl (r2 c)⟩
  | succ f ih =>
    intro J a l h hl
    obtain ⟨r1, r2⟩ := rc_sp hT h (by omega)
    by_cases c : (clA X n a).1 = true
    · have d := r1 c
      by_cases e : (clA X n a).2.1 = n
      · rw [gt_e c e, d.stop hT (by rw [e]; unfold nxA; rw [if_neg (Nat.lt_irrefl n)]; decide) _ _ (by omega)]
        refine ⟨fun _ => ?_, fun z => absurd rfl z⟩
        rw [e] at d
        exact d
      · by_cases e59 : nxA X n (clA X n a).2.1 = 59
        · have hlt : (clA X n a).2.1 < n := nxA_no (by decide) e59
          have hT0 := hT.q d.1
          rw [gt_s c e (by omega) e59, rfR_s, if_neg (by omega), if_pos (by rw [d.c.here hT0]; exact e59), d.c.tk_y hT0 e59]
          have := ih (incW p (rcW p J)) ((clA X n a).2.1 + 1) (l ++ [(clA X n a).2.2]) (d.inc hlt) (by rw [List.length_append, List.length_cons, List.length_nil]; omega)
          rw [show (l ++ [(clA X n a).2.2]).length = l.length + 1 by rw [List.length_append]; rfl] at this
          exact this
        · rw [gt_x c e (by omega) e59, d.stop hT e59 _ _ (by omega)]
          exact ⟨fun z => absurd z Bool.false_ne_true, fun _ => Or.inr ⟨_, d, e⟩⟩
    · rw [gt_f c, (r2 c).rf _ _ (by omega)]
      exact ⟨fun z => absurd z Bool.false_ne_true, fun _ => Or.inl (r2 c)⟩
theorem rf0_D {p n : Nat} {X : Nat → Int32} {I : It} (hp : p < 6) (hn : n ≤ 100) (hX : ∀ j, j < n → I 31 j = X j) : TT p n X (rf0 p (nI n) I) ∧ DJ p n (rf0 p (nI n) I) (rf0 p (nI n) I) 0 [] := by
  have e9 : rf0 p (nI n) I (43 + 5 * p) 9 = nI n := by
    unfold rf0
    rw [upn (by omega), upn (by omega), upn (by omega), upn (by omega), upn (by omega), upn (by omega), up0]
    rw [if_neg (show ¬ (100 : Int32) < nI n from fun z => absurd (lt_nI (c := 100) (by decide) (by omega) z) (by omega))]
  have e31 : rf0 p (nI n) I 31 = I 31 := by
    unfold rf0
    rw [upI_off (by omega), upI_off (by omega), upI_off (by omega), upI_off (by omega), upI_off (by omega), upI_off (by omega), upI_off (by omega)]
  refine ⟨⟨hp, hn, e9, fun j hj => by rw [e31]; exact hX j hj⟩, FQ.rf, ⟨?_, ?_, Nat.zero_le _⟩, ⟨?_, Nat.le_refl _⟩, ?_, trivial, ?_, ?_⟩
  · unfold rf0
    rw [upn (by omega), upn (by omega), upn (by omega), upn (by omega), up0]
  · unfold rf0
    rw [upn (by omega), upn (by omega), upn (by omega), upn (by omega), upn (by omega), up0]; rfl
  · unfold rf0
    rw [upn (by omega), upn (by omega), up0]; rfl
  · unfold rf0
    rw [upn (by omega), upn (by omega), upn (by omega), up0]; rfl
  · unfold rf0
    rw [upn (by omega), up0]; rfl
  · unfold rf0
    rw [up0]; rfl
/-- what readFrom answers, what it leaves -/
theorem rd_sp {p n : Nat} {X : Nat → Int32} {I : It} (hp : p < 6) (hn : n ≤ 100) (hX : ∀ j, j < n → I 31 j = X j) :
    ((gtA X n 10 0 []).1 = true → rfV p (rfW p (nI n) I) = -1 ∧ rfW p (nI n) I (43 + 5 * p) 2 = nI (gtA X n 10 0 []).2.2.length ∧ CTc (rfW p (nI n) I) p (gtA X n 10 0 []).2.2 0 0 ∧ rfW p (nI n) I (43 + 5 * p) 0 = lstL 2 (gtA X n 10 0 []).2.2 7 ∧ rfW p (nI n) I (43 + 5 * p) 1 = lstL 3 (gtA X n 10 0 []).2.2 1) ∧
    (¬ (gtA X n 10 0 []).1 = true → rfV p (rfW p (nI n) I) = nI (gtA X n 10 0 []).2.1) := by
  obtain ⟨hT, hD⟩ := rf0_D hp hn hX
  have eW : rfW p (nI n) I = rfR p 9 (([] : List Cl).length + 1) (rcW p (rf0 p (nI n) I)) := by
    unfold rfW
    rw [rfR_s, if_pos rfl]; rfl
  obtain ⟨s1, s2⟩ := rf_sp hT 9 _ 0 [] hD rfl
  rw [← eW] at s1 s2
  refine ⟨fun z => ?_, fun z => ?_⟩
  · obtain ⟨d1, ⟨d2, d3, d4⟩, -, d7, d8, d9, d10⟩ := s1 z
    refine ⟨?_, d7, d8, d9, d10⟩
    unfold rfV
    rw [if_neg (not_not_intro d2), if_pos (d3.trans ((d1.2 9 (by decide)).trans hT.2.2.1).symm)]
  · rcases s2 z with g | ⟨l', d, e⟩
    · unfold rfV
      rw [if_pos g.2.1]; exact g.2.2
    · obtain ⟨d1, ⟨d2, d3, d4⟩, -⟩ := d
      unfold rfV
      rw [if_neg (not_not_intro d2), if_neg, d3]
      rw [d3, (d1.2 9 (by decide)).trans hT.2.2.1]
      intro q
      exact e ((nI_eq (by omega) (by omega)).mp q)
/-! a post, by RZ -/
theorem RX.post_f {E I J : It} {h : Ht} (hX : RX E I h) (h6 : nP E ≤ 6) {p : Nat} (ep : nP E = p) (hK : ∀ a, (a < 43 + 5 * p ∨ 47 + 5 * p < a) → J a = I a) (hp : p < 6) : RX (upI E 0 17 0) (upI J 0 7 0) h := by
  obtain ⟨g1, g2, g3, ⟨g4, g5⟩, g6, g7⟩ := hX
  have n2 : nP (upI E 0 17 0) = nP E := rfl
  refine ⟨?_, fun z => ?_, ?_, ⟨?_, fun q hq => ?_⟩, by rw [up0, up0], fun j hj => ?_⟩
  · rw [upI_off (by decide), hK 1 (by omega), upn (by decide), upn (by decide), upn (by decide), upn (by decide)]; exact g1
  · rw [upn (by decide)] at z
    rw [upI_off (by decide), hK 7 (by omega), upn (by decide), upn (by decide), upn (by decide), upn (by decide), upn (by decide)]
    exact ⟨(g2 z).1, (g2 z).2.mv n2⟩
  · rw [upn (by decide)]; exact g3.mv n2
  · rw [upn (by decide), hK 0 (by omega), upn (by decide)]; exact g4
  · rw [n2] at hq
    obtain ⟨l, hl⟩ := g5 q hq
    exact ⟨l, hl.mv (by rw [upI_off (by decide)]) (fun c _ => by rw [upI_off (by decide), upI_off (by decide), upI_off (by decide), upI_off (by decide)]; exact ⟨rfl, rfl, rfl, rfl⟩) (fun j _ => by rw [upI_off (by decide)]) (fun a a1 a2 => by rw [upI_off (by omega)]; exact hK a (by omega))⟩
  · exact absurd hj (by unfold fedN; rw [up0]; exact Nat.not_lt_zero j)
theorem pRf.up {E E2 : It} {x : Int32} {r : Option Nat} (h : pRf E x r) (e : nP E ≤ nP E2) : pRf E2 x r := by
  rcases h with z | ⟨p, q1, q2⟩
  · exact Or.inl z
  · exact Or.inr ⟨p, by omega, q2⟩
theorem RX.post_t {E E2 I J : It} {h : Ht} (hX : RX E I h) {p : Nat} (ep : nP E = p) (hp : p < 6) {l : List Cl} (hN : PN E E2 l) (hok : ∀ x, x ∈ l → okC2 x) (hl : l.length ≤ 10) (hK : ∀ a, (a < 43 + 5 * p ∨ 47 + 5 * p < a) → J a = I a)
    (r2 : J (43 + 5 * p) 2 = nI l.length) (rC : CTc J p l 0 0) (r0 : J (43 + 5 * p) 0 = lstL 2 l 7) (r1 : J (43 + 5 * p) 1 = lstL 3 l 1) : RX E2 (upI (upI J 0 7 0) 0 5 (nI (p + 1))) (wR h 1 13 (some (43 + 5 * p))) := by
  obtain ⟨g1, g2, g3, ⟨g4, g5⟩, g6, g7⟩ := hX
  obtain ⟨⟨m15, m16, m17⟩, m0, mc, m10, m11, m15r, mL, mS, mt⟩ := hN
  rw [ep] at m15 m16 m10 m11 m15r mL mS
  have n2 : nP E2 = p + 1 := by unfold nP; rw [m15, tN_nI (by omega)]
  have kO : ∀ a, a ≠ 0 → upI (upI J 0 7 0) 0 5 (nI (p + 1)) a = J a := fun a ha => (upI_off ha).trans (upI_off ha)
  refine ⟨?_, fun z => ?_, ?_, ⟨?_, fun q hq => ?_⟩, ?_, fun j hj => ?_⟩
  · rw [kO 1 (by decide), hK 1 (by omega), m0 5 (by decide), m0 2 (by decide), m0 3 (by decide), m0 4 (by decide)]; exact g1
  · rw [m0 47 (by decide)] at z
    rw [kO 7 (by decide), hK 7 (by omega), m0 54 (by decide), m0 51 (by decide), m0 52 (by decide), m0 53 (by decide), m0 48 (by decide), wR_n (by decide)]
    exact ⟨(g2 z).1, (g2 z).2.up (by omega)⟩
  · rw [m16, wR_s]
    exact Or.inr ⟨p, by omega, rfl, rfl⟩
  · rw [up0, m15]
  · rw [n2] at hq
    by_cases e : q = p
    · subst e
      exact ⟨l, ⟨mL, mS⟩, hok, ⟨hl, mt⟩, rC.mv (fun a a1 a2 => kO a (by omega)), by rw [kO _ (by omega)]; exact r2, by rw [kO _ (by omega)]; exact r0, by rw [kO _ (by omega)]; exact r1⟩
    · obtain ⟨l', hl'⟩ := g5 q (by omega)
      exact ⟨l', hl'.mv (m10 q (by omega)) (fun c hc => m11 c (by omega)) (fun j hj => m15r j (by omega)) (fun a a1 a2 => (kO a (by omega)).trans (hK a (by omega)))⟩
  · rw [upn (by decide), up0, m17]
  · exact absurd hj (by unfold fedN; rw [m17]; exact Nat.not_lt_zero j)
theorem cl_31 {X : Nat → Int32} {n a : Nat} (ha : a ≤ n) : (clA X n a).2.1 ≤ n := by
  have h1 := (hdA_le (X := X) ha).2
  by_cases q1 : (hdA X n a).1 = true
  · by_cases q2 : dgA X n (hdA X n a).2.1
    · have h2 := nuA_le (X := X) h1
      by_cases q3 : 1 < (hdA X n a).2.2
      · rw [cl_w q1 q2 q3]; exact h2
      · by_cases q4 : nxA X n (nuA X n (hdA X n a).2.1) = 32
        · rw [cl_E q1 q2 q3 q4]
          exact (am_le 101 true _ [] [] (nxA_no (by decide) q4)).2
        · rw [cl_s q1 q2 q3 q4]; exact h2
    · rw [cl_n q1 q2]; exact h1
  · rw [cl_h q1]; exact h1
theorem gt_31' {X : Nat → Int32} {n : Nat} : ∀ (f a : Nat) (l : List Cl), a ≤ n → (gtA X n f a l).2.1 ≤ n := by
  intro f
  induction f with
  | zero => intro a l h; exact h
  | succ f ih =>
    intro a l h
    have h1 := cl_31 (X := X) h
    by_cases c : (clA X n a).1 = true
    · by_cases e : (clA X n a).2.1 = n
      · rw [gt_e c e]; exact Nat.le_refl _
      · by_cases e10 : l.length + 1 = 10
        · rw [gt_10 c e e10]; exact h1
        · by_cases e59 : nxA X n (clA X n a).2.1 = 59
          · rw [gt_s c e e10 e59]; exact ih _ _ (nxA_no (by decide) e59)
          · rw [gt_x c e e10 e59]; exact h1
    · rw [gt_f c]; exact h1
theorem gt_31 {X : Nat → Int32} {n f : Nat} {l : List Cl} (hn : n ≤ 100) : (gtA X n f 0 l).2.1 < 2 ^ 31 := by
  have := gt_31' (X := X) f 0 l (Nat.zero_le n)
  omega

