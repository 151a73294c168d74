/-! a DOING more, in both; of which kind it is; rows moved -/
set_option maxRecDepth 100000 in
theorem with_0 : ∀ n, n ≤ 10 → ∀ m, m < 2 ^ n → withI (nI m) (nI n) 0 = nI m := by decide +kernel
theorem kb_w0 {n : Nat} {x : Int32} (h : kb n x) (hn : n ≤ 10) : withI x (nI n) 0 = x := by
  obtain ⟨m, hm, rfl⟩ := h
  exact with_0 n hn m hm
theorem r_max {r : Int32} (h : 1 ≤ r) : (if 1 < r then r else 1) = r := by
  by_cases e : 1 < r
  · exact if_pos e
  · rw [if_neg e]; exact Int32.le_antisymm h (Int32.not_lt.mp e)
theorem do_c {E : It} {k v r p c e : Int32} {a j : Nat} (h0 : a ≠ 0) (h : ¬ (1 ≤ a ∧ a ≤ 7) ∨ j ≠ cnt E) : doE E k v r p c e a j = E a j := by
  unfold doE
  rw [upn (by omega), upn (by omega), upn (by omega), upn (by omega), upn (by omega), upn (by omega), upn (by omega), upn (by omega), upn (by omega), upn (by omega)]
theorem do_0 {E : It} {k v r p c e : Int32} {j : Nat} (h : j ≠ 0 ∧ j ≠ 5 ∧ j ≠ 6) : doE E k v r p c e 0 j = E 0 j := by
  unfold doE
  rw [upn (by omega), upn (by omega), upn (by omega), upn (by omega), upn (by omega), upn (by omega), upn (by omega), upn (by omega), upn (by omega), upn (by omega)]
theorem do_r {E : It} {k v r p c e : Int32} {a : Nat} (h0 : a ≠ 0) (h : ¬ (1 ≤ a ∧ a ≤ 7)) : doE E k v r p c e a = E a := funext fun _ => do_c h0 (Or.inl h)
theorem do_n {E : It} {k v r p c e : Int32} : doE E k v r p c e 1 (cnt E) = k ∧ doE E k v r p c e 2 (cnt E) = v ∧ doE E k v r p c e 3 (cnt E) = r ∧ doE E k v r p c e 4 (cnt E) = p ∧ doE E k v r p c e 5 (cnt E) = c ∧ doE E k v r p c e 6 (cnt E) = e ∧ doE E k v r p c e 7 (cnt E) = 5 := by
  unfold doE
  refine ⟨?_, ?_, ?_, ?_, ?_, ?_, ?_⟩ <;> simp [upI]
theorem do_z {E : It} {k v r p c e : Int32} : doE E k v r p c e 0 0 = E 0 0 + 1 ∧ doE E k v r p c e 0 5 = withI (E 0 5) (E 0 0) 0 ∧ doE E k v r p c e 0 6 = withI (E 0 6) (E 0 0) 0 := by
  unfold doE
  refine ⟨?_, ?_, ?_⟩ <;> simp [upI]
theorem RY_doing {E : It} {L : Nat → Int64} {I : It} {h : Ht} (hE : Inv E) (hY : RY E L I h) (hn10 : cnt E < 10) {k v r p c e : Int32} (hr : 1 ≤ r) :
    RY (doE E k v r p c e) L (upI (upI (dI (zI I (hn h)) (hn h) (nI (cnt E)) v r p c e) 3 (cnt E) 5) 1 2 (nI (cnt E + 1))) (wR (zA h (hn h) (hn h + 1) (kcl k, 0)) 2 (cnt E) (some (hn h))) := by
  have hx := hY.1.1
  obtain ⟨e0, -⟩ := inv_cnt hE
  generalize eJ : upI (upI (dI (zI I (hn h)) (hn h) (nI (cnt E)) v r p c e) 3 (cnt E) 5) 1 2 (nI (cnt E + 1)) = J
  generalize eh : wR (zA h (hn h) (hn h + 1) (kcl k, 0)) 2 (cnt E) (some (hn h)) = h2
  have jo : ∀ q, q ≠ hn h → q ≠ 1 → q ≠ 3 → J q = I q := by
    intro q q1 q2 q3
    rw [← eJ, upI_off q2, upI_off q3]
    unfold dI
    rw [upI_off q1, upI_off q1, upI_off q1, upI_off q1, upI_off q1, upI_off q1]
    funext j
    exact if_neg q1
  have j1 : ∀ j, j ≠ 2 → J 1 j = I 1 j := by
    intro j hj
    have q1 : (1 : Nat) ≠ hn h := by omega
    rw [← eJ, upn (by omega), upI_off (by decide)]
    unfold dI
    rw [upI_off q1, upI_off q1, upI_off q1, upI_off q1, upI_off q1, upI_off q1]
    exact if_neg q1
  have j12 : J 1 2 = nI (cnt E + 1) := by rw [← eJ, up0]
  have j3 : ∀ j, J 3 j = if j = cnt E then 5 else I 3 j := by
    intro j
    have q1 : (3 : Nat) ≠ hn h := by omega
    rw [← eJ, upI_off (by decide)]
    by_cases z : j = cnt E
    · subst z; rw [up0, if_pos rfl]
    · rw [upn (by omega), if_neg z]
      unfold dI
      rw [upI_off q1, upI_off q1, upI_off q1, upI_off q1, upI_off q1, upI_off q1]
      exact if_neg q1
  have ja : J (hn h) 0 = nI (cnt E) ∧ J (hn h) 1 = v ∧ J (hn h) 2 = r ∧ J (hn h) 3 = p ∧ J (hn h) 4 = c ∧ J (hn h) 5 = e := by
    have q1 : hn h ≠ 1 := by omega
    have q3 : hn h ≠ 3 := by omega
    rw [← eJ, upI_off q1, upI_off q3]
    unfold dI
    rw [r_max hr]
    refine ⟨?_, ?_, ?_, ?_, ?_, ?_⟩ <;> simp [upI]
  have en : hn h2 = hn h + 1 := by rw [← eh]; rfl
  have er : ∀ q j, q ≠ hn h → (q ≠ 2 ∨ j ≠ cnt E) → hR h2 q j = hR h q j := by
    intro q j h1 h2'
    rw [← eh]
    show (if q = 2 ∧ j = cnt E then some (hn h) else if q = hn h then none else hR h q j) = _
    rw [if_neg (by omega), if_neg h1]
  have er2 : hR h2 2 (cnt E) = some (hn h) := by
    rw [← eh]
    show (if (2 : Nat) = 2 ∧ cnt E = cnt E then some (hn h) else _) = _
    rw [if_pos ⟨rfl, rfl⟩]
  have es : ∀ q, q ≠ hn h → hs h2 q = hs h q := by
    intro q h1
    rw [← eh]
    exact if_neg h1
  have es2 : hs h2 (hn h) = (kcl k, 0) := by rw [← eh]; exact if_pos rfl
  have el : ∀ q, q ≠ hn h → hL h2 q = hL h q := by
    intro q h1
    rw [← eh]
    funext j
    exact if_neg h1
  obtain ⟨g1, ⟨⟨s1, s2, s3, s4⟩, s5, s6, s7⟩, ⟨g3, g4⟩, ⟨g5, g5b⟩, ⟨g6, g7⟩, ⟨g8, g9⟩, gt, g10, g11⟩ := hY
  have okm : ∀ r, okD h r → okD h2 r := fun r hr v hv => ⟨by rw [en]; have := (hr v hv).1; omega, by rw [es v (by have := (hr v hv).1; omega)]; exact (hr v hv).2⟩
  have hx2 : HX h2 := ⟨by rw [en]; omega, fun q hq => by rw [es q (by omega)]; exact g1.2.1 q hq, fun x hx => by
    have a1 : x.1.1 < 73 ∧ x.1.1 ≠ 2 := by revert x; decide
    rw [er _ _ (by omega) (Or.inl a1.2)]; exact g1.2.2 x hx⟩
  have ew6 : withI (E 0 6) (E 0 0) 0 = E 0 6 := by rw [e0]; exact kb_w0 (inv_id hE) (inv_cnt hE).2
  obtain ⟨z0, z5, z6⟩ := @do_z E k v r p c e
  obtain ⟨n1, n2, n3, n4, n5, n6, n7⟩ := @do_n E k v r p c e
  have ec : tN (E 0 0 + 1) = cnt E + 1 := by rw [e0, nI_1, tN_nI (by omega)]
  refine ⟨hx2, ?_, ⟨?_, fun q => ?_⟩, ⟨fun j hj => ?_, fun j hj => ?_⟩, ⟨⟨fun r hr => g6.1 r (by rw [← er 1 13 (by omega) (Or.inl (by decide))]; exact hr), (g6.mv (h := h) (J := J) (fun a ha hb => jo a (by omega) (by omega) (by omega))).2⟩, fun r hr => g7 r (by rw [← er 7 13 (by omega) (Or.inl (by decide))]; exact hr)⟩, ⟨?_, fun j hj => ?_⟩, fun t ht => ?_, ?_, ?_⟩
  · unfold St1
    rw [z0, z6, ew6, do_0 (by decide), do_0 (by decide), do_r (a := 8) (by decide) (by decide)]
    refine ⟨⟨by rw [j12, e0, nI_1], by rw [j1 6 (by decide)]; exact s2, by rw [j1 4 (by decide)]; exact s3, by rw [j1 12 (by decide)]; exact s4⟩, fun j hj => ?_, fun y hy => ?_, fun d hd => ?_⟩
    · rw [j3]
      by_cases q : j = cnt E
      · subst q; rw [if_pos rfl, n7]
      · rw [if_neg q, do_c (by decide) (Or.inr q)]; exact s5 j hj
    · rw [jo 4 (by omega) (by decide) (by decide)]; exact s6 y hy
    · rw [ec] at hd
      by_cases q : d = cnt E
      · subst q
        rw [n1, n2, n3, n4, n5, n6]
        obtain ⟨a0, a1, a2, a3, a4, a5⟩ := ja
        exact ⟨hn h, er2, hx, by omega, by rw [es2], a0, a1, a2, a3, a4, a5⟩
      · rw [do_c (by decide) (Or.inr q), do_c (by decide) (Or.inr q), do_c (by decide) (Or.inr q), do_c (by decide) (Or.inr q), do_c (by decide) (Or.inr q), do_c (by decide) (Or.inr q)]
        obtain ⟨a, a1, a2, a3, a4, a5⟩ := s7 d (show d < cnt E by omega)
        refine ⟨a, by rw [er _ _ (by omega) (Or.inr q)]; exact a1, a2, by omega, by rw [es a (by omega)]; exact a4, ?_⟩
        rw [jo a (by omega) (by omega) (by omega)]; exact a5
  · rw [do_0 (by decide), jo 0 (by omega) (by decide) (by decide)]; exact g3
  · rw [do_0 (by decide)] at q
    unfold St7
    rw [do_0 (by decide), do_0 (by decide), do_0 (by decide), do_0 (by decide), do_r (by decide) (by decide), do_r (by decide) (by decide), do_r (by decide) (by decide), do_r (by decide) (by decide), do_r (by decide) (by decide), do_r (by decide) (by decide), do_r (by decide) (by decide), do_r (by decide) (by decide)]
    exact StR.keep (g4 q) (fun a ha => jo a (by omega) (by omega) (by omega)) (fun j => er _ _ (by omega) (Or.inl (by decide))) (by omega) (fun a ha => es a (by omega))
  · by_cases q : j = cnt E
    · subst q
      rw [er2]
      intro v hv
      cases hv
      exact ⟨by omega, by rw [es2]; exact kcl_dc k⟩
    · rw [er _ _ (by omega) (Or.inr q)]; exact okm _ (g5 j hj)
  · rw [er _ _ (by omega) (Or.inl (by decide))]; exact okm _ (g5b j hj)
  · rw [do_0 (by decide), jo 32 (by omega) (by decide) (by decide)]; exact g8
  · rw [do_r (by decide) (by decide), jo 33 (by omega) (by decide) (by decide)]; exact g9 j hj
  · rw [do_r (by decide) (by decide), do_r (by decide) (by decide), jo 34 (by omega) (by decide) (by decide), jo 35 (by omega) (by decide) (by decide), el _ (by omega)]; exact gt t ht
  · rw [jo 0 (by omega) (by decide) (by decide)]; exact g10
  · rw [jo 0 (by omega) (by decide) (by decide)]; exact g11
theorem c10_n {n : Nat} (h : n ≤ 10) (h2 : ¬ nI n < 10) : nI n = 10 := by
  rcases Nat.lt_or_ge n 10 with z | z
  · exact absurd (nI_lt z (by decide)) h2
  · have : n = 10 := by omega
    subst this
    rfl
/-! of which kind -/
def ikC (c : Nat) (k : Int32) : Int32 := if k = 0 then 1 else if k = 1 then (if c = 9 ∨ c = 8 then 1 else 0) else if k = 2 then (if c = 2 ∨ c = 6 then 1 else 0) else if k = 3 then (if c = 4 ∨ c = 10 then 1 else 0) else if k = 4 then (if c = 8 then 1 else 0) else if k = 5 then (if c = 6 then 1 else 0) else if c = 10 then 1 else 0
theorem tk_e : ∀ x, x < 7 → ∀ k, k < 7 → ((ikC (kcl (nI x)) (nI k) = 0 ↔ ¬ (nI k = 0 ∨ nI x = nI k ∨ (nI k = 1 ∧ nI x = 4) ∨ (nI k = 2 ∧ nI x = 5) ∨ (nI k = 3 ∧ nI x = 6))) ∧ knd (kcl (nI x)) = nI x) := by decide +kernel
theorem RY.shift {E : It} {L : Nat → Int64} {I : It} {h : Ht} (hY : RY E L I h) {t i o j n : Nat} (ht : t < 6) (ho : o < 6) (hi : i + n ≤ 60) (hj : j + n ≤ 60) :
    RY E (fun q => if 60 * o + j ≤ q ∧ q < 60 * o + j + n then L (60 * t + i + (q - (60 * o + j))) else L q) I (cpL h (37 + t) (37 + o) i j n) := by
  refine hY.tp (fun s hs => ⟨(hY.2.2.2.2.2.2.1 s hs).1, (hY.2.2.2.2.2.2.1 s hs).2.1, fun k hk => ?_⟩) (fun _ _ _ => rfl) (fun _ _ _ => rfl) rfl rfl rfl
  show (if 37 + s = 37 + o then va_cpy (hL h (37 + t)) (hL h (37 + o)) i j n else hL h (37 + s)) k = _
  by_cases e : s = o
  · subst e
    rw [if_pos rfl]
    unfold va_cpy
    by_cases e2 : j ≤ k ∧ k < j + n
    · rw [if_pos e2, if_pos (by omega), (hY.2.2.2.2.2.2.1 t ht).2.2 _ (by omega)]
      congr 1
      omega
    · rw [if_neg e2, if_neg (by omega)]
      exact (hY.2.2.2.2.2.2.1 s hs).2.2 k hk
  · rw [if_neg (by omega), if_neg (by omega)]
    exact (hY.2.2.2.2.2.2.1 s hs).2.2 k hk
theorem dI_1 {h : Ht} {I : It} {i v r p c n : Int32} (hh : 73 ≤ hn h) : dI (zI I (hn h)) (hn h) i v r p c n 1 = I 1 := by
  have q1 : (1 : Nat) ≠ hn h := by omega
  unfold dI
  rw [upI_off q1, upI_off q1, upI_off q1, upI_off q1, upI_off q1, upI_off q1]
  funext j
  exact if_neg q1
theorem sh_in {lt l2 : Nat} {a b e f n : Int32} (hlt : lt ≤ 60) (hl2 : l2 ≤ 60) (ea : a = nI lt) (eb : b = nI l2) (h0 : ¬ n < 0) (h1 : ¬ ¬ (0 ≤ e ∧ e ≤ a - n)) (h2 : ¬ ¬ (0 ≤ f ∧ f ≤ b - n)) : ∃ i0 j0 n0, e = nI i0 ∧ f = nI j0 ∧ n = nI n0 ∧ i0 + n0 ≤ lt ∧ j0 + n0 ≤ l2 := by
  subst ea
  subst eb
  obtain ⟨n0, hn0, rfl⟩ := nI_of h0
  obtain ⟨h1a, h1b⟩ := Decidable.not_not.mp h1
  obtain ⟨h2a, h2b⟩ := Decidable.not_not.mp h2
  obtain ⟨i0, hi0, rfl⟩ := nI_of (Int32.not_lt.mpr h1a)
  obtain ⟨j0, hj0, rfl⟩ := nI_of (Int32.not_lt.mpr h2a)
  exact ⟨i0, j0, n0, rfl, rfl, rfl, sh_le hlt hn0 hi0 h1b, sh_le hl2 hn0 hj0 h2b⟩
theorem m1_nn {x : Int32} (h : x = -1 ∨ ∃ s, s ≤ 4 ∧ x = nI s) (hne : ¬ x = -1) : 0 ≤ x := by
  obtain ⟨s, hs, rfl⟩ := h.resolve_left hne
  exact nI_pos' (by omega)
theorem sh_sp {E : It} {L : Nat → Int64} {e f n : Int32} {t o : Nat} (ht : t < 6) (ho : o < 6) (ta : isT (nI t)) (oa : isT (nI o)) :
    ((E 36 t = -1 ∨ E 36 o = -1) → (shiftS E (nI t) e (nI o) f n, shiftL E L (nI t) e (nI o) f n) = (-11, L)) ∧
    (¬ E 36 t = -1 → ¬ E 36 o = -1 → (E 36 t = -1 ∨ ∃ s, s ≤ 4 ∧ E 36 t = nI s) → (E 36 o = -1 ∨ ∃ s, s ≤ 4 ∧ E 36 o = nI s) → ¬ E 36 t = E 36 o → (shiftS E (nI t) e (nI o) f n, shiftL E L (nI t) e (nI o) f n) = (-12, L)) ∧
    (¬ E 36 t = -1 → ¬ E 36 o = -1 → (E 36 t = -1 ∨ ∃ s, s ≤ 4 ∧ E 36 t = nI s) → (E 36 o = -1 ∨ ∃ s, s ≤ 4 ∧ E 36 o = nI s) → E 36 t = E 36 o → (n < 0 ∨ ¬ (0 ≤ e ∧ e ≤ E 37 t - n) ∨ ¬ (0 ≤ f ∧ f ≤ E 37 o - n)) → (shiftS E (nI t) e (nI o) f n, shiftL E L (nI t) e (nI o) f n) = (-13, L)) ∧
    (¬ E 36 t = -1 → ¬ E 36 o = -1 → (E 36 t = -1 ∨ ∃ s, s ≤ 4 ∧ E 36 t = nI s) → (E 36 o = -1 ∨ ∃ s, s ≤ 4 ∧ E 36 o = nI s) → E 36 t = E 36 o → ∀ {lt l2 i0 j0 n0 : Nat}, E 37 t = nI lt → E 37 o = nI l2 → lt ≤ 60 → l2 ≤ 60 → i0 + n0 ≤ lt → j0 + n0 ≤ l2 →
      (shiftS E (nI t) (nI i0) (nI o) (nI j0) (nI n0), shiftL E L (nI t) (nI i0) (nI o) (nI j0) (nI n0)) = (nI n0, fun q => if 60 * o + j0 ≤ q ∧ q < 60 * o + j0 + n0 then L (60 * t + i0 + (q - (60 * o + j0))) else L q)) := by
  have et : tN (nI t) = t := tN_nI (by omega)
  have eo : tN (nI o) = o := tN_nI (by omega)
  unfold shiftS shiftL
  rw [if_neg (not_not_intro ta), if_neg (not_not_intro oa), if_neg (not_not_intro ta), if_neg (not_not_intro oa), et, eo]
  refine ⟨fun h => ?_, fun n1 n2 h1 h2 hne => ?_, fun n1 n2 h1 h2 he h => ?_, fun n1 n2 h1 h2 he lt l2 i0 j0 n0 el el2 hl hl2 hi hj => ?_⟩
  · by_cases z : E 36 t < 0
    · rw [if_pos z, if_pos z]
    · have z2 : ¬ 0 ≤ E 36 o := by
        rcases h with h | h
        · exact absurd (by rw [h]; decide) z
        · rw [h]; decide
      rw [if_neg z, if_pos z2, if_neg z, if_pos z2]
  · have z := Int32.not_lt.mpr (m1_nn h1 n1)
    have z2 := m1_nn h2 n2
    rw [if_neg z, if_neg (not_not_intro z2), if_pos hne, if_neg z, if_neg (not_not_intro z2), if_pos hne]
  · have z := Int32.not_lt.mpr (m1_nn h1 n1)
    have z2 := m1_nn h2 n2
    rw [if_neg z, if_neg (not_not_intro z2), if_neg (not_not_intro he), if_neg z, if_neg (not_not_intro z2), if_neg (not_not_intro he)]
    by_cases a1 : n < 0
    · rw [if_pos a1, if_pos a1]
    rw [if_neg a1, if_neg a1]
    by_cases a2 : e < 0
    · rw [if_pos a2, if_pos a2]
    rw [if_neg a2, if_neg a2]
    by_cases a3 : f < 0
    · rw [if_pos a3, if_pos a3]
    rw [if_neg a3, if_neg a3]
    by_cases a4 : E 37 t - n < e
    · rw [if_pos a4, if_pos a4]
    rw [if_neg a4, if_neg a4]
    by_cases a5 : ¬ f ≤ E 37 o - n
    · rw [if_pos a5, if_pos a5]
    · exfalso
      rcases h with h | h | h
      · exact a1 h
      · exact h ⟨Int32.not_lt.mp a2, Int32.not_lt.mp a4⟩
      · exact h ⟨Int32.not_lt.mp a3, Decidable.not_not.mp a5⟩
  · have z := Int32.not_lt.mpr (m1_nn h1 n1)
    have z2 := m1_nn h2 n2
    have p1 : ¬ nI n0 < 0 := nI_pos (by omega)
    have p2 : ¬ nI i0 < 0 := nI_pos (by omega)
    have p3 : ¬ nI j0 < 0 := nI_pos (by omega)
    have p4 : ¬ nI lt - nI n0 < nI i0 := by rw [pk_sub (by omega)]; exact Int32.not_lt.mpr (nI_le (by omega) (by omega))
    have p5 : ¬ ¬ nI j0 ≤ nI l2 - nI n0 := by rw [pk_sub (by omega)]; exact not_not_intro (nI_le (by omega) (by omega))
    rw [if_neg (not_not_intro ta), if_neg (not_not_intro oa), if_neg (not_not_intro ta), if_neg (not_not_intro oa), el, el2, if_neg z, if_neg (not_not_intro z2), if_neg (not_not_intro he), if_neg p1, if_neg p2, if_neg p3, if_neg p4, if_neg p5, if_neg z, if_neg (not_not_intro z2), if_neg (not_not_intro he), if_neg p1, if_neg p2, if_neg p3, if_neg p4, if_neg p5, tN_nI (by omega), tN_nI (by omega), tN_nI (by omega)]

