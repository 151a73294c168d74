/-! what stands of the reference's picture stands behind every call -/
theorem wfR_cg {E E2 : It} (h : E2 15 = E 15) : ∀ (k c n : Nat), wfR E2 k c n = wfR E k c n := by
  intro k
  induction k with
  | zero => intro c n; rfl
  | succ k ih =>
    intro c n
    rw [wfR_s, wfR_s, h]
    cases depR (E 15 c) n with
    | none => rfl
    | some m => exact ih (c + 1) m
theorem clOk_cg {E E2 : It} (h : ∀ a, a ∈ [11, 12, 13, 14, 15] → E2 a = E a) {p c : Nat} (hc : clOk E p c) : clOk E2 p c := by
  unfold clOk at hc ⊢
  rw [h 11 (by decide), h 12 (by decide), h 13 (by decide), h 14 (by decide), h 15 (by decide)]
  refine ⟨hc.1, hc.2.1, fun w => ?_⟩
  obtain ⟨a, b, e1, e2, e3, e4, e5, e6, e7⟩ := hc.2.2 w
  exact ⟨a, b, e1, e2, e3, e4, e5, by rw [wfR_cg (h 15 (by decide))]; exact e6, e7⟩
def iP (E : It) (p : Nat) : Prop := partOk (E 0 0) (E 0 1) (E 0 16) (E 0 44) (E 0 5) (E 0 6) (E 1) (E 2) (E 3) (E 4) (E 5) (E 6) (E 7) (E 8) (E 23) (E 24) p
def iM (E : It) (p : Nat) : Prop := E 0 47 = 0 ∨ E 0 47 = 1 ∧ partOk (E 0 49) (E 0 50) (E 0 48) (E 0 56) (E 0 54) (E 0 55) (E 25) (E 26) (E 27) (E 28) (E 29) (E 30) (E 31) (E 32) (E 33) (E 34) p
def iT (E : It) : Prop := ∃ f, f ≤ 100 ∧ E 0 17 = nI f ∧ ∀ j, j < f → ∃ s, s ≤ 127 ∧ E 9 j = nI s
def iZ (E : It) : Prop := ∀ t, t < 6 → (E 36 t = -1 ∧ E 37 t = 0) ∨ ∃ s l, s ≤ 4 ∧ l ≤ 60 ∧ E 36 t = nI s ∧ E 37 t = nI l
theorem Inv.cg {E E2 : It} (hE : Inv E) (hp : iP E2 (nP E)) (hi : iM E2 (nP E)) (h15 : E2 0 15 = E 0 15) (hC : ∀ a, a ∈ [10, 11, 12, 13, 14, 15] → E2 a = E a) (h5 : iT E2) (h6 : ∃ x, x ≤ 100 ∧ E2 0 67 = nI x) (h7 : iZ E2) : Inv E2 := by
  have hn : nP E2 = nP E := by unfold nP; rw [h15]
  refine ⟨by rw [hn]; exact hp, by rw [hn]; exact hi, ⟨by rw [hn, h15]; exact hE.2.2.1.1, by rw [hn]; exact hE.2.2.1.2⟩, fun p hp => ?_, h5, h6, h7⟩
  rw [hn] at hp
  obtain ⟨x, x1, x2, x3, x4⟩ := hE.2.2.2.1 p hp
  exact ⟨x, x1, x2, by rw [hC 10 (by decide)]; exact x3, fun c hc => clOk_cg (fun a ha => hC a (List.mem_cons_of_mem _ ha)) (x4 c hc)⟩
theorem iM_cg {E E2 : It} {p : Nat} (h : iM E p) (h0 : ∀ j, j ∈ [47, 48, 49, 50, 54, 55, 56] → E2 0 j = E 0 j) (hC : ∀ a, a ∈ [25, 26, 27, 28, 29, 30, 31, 32, 33, 34] → E2 a = E a) : iM E2 p := by
  unfold iM
  rw [h0 47 (by decide), h0 48 (by decide), h0 49 (by decide), h0 50 (by decide), h0 54 (by decide), h0 55 (by decide), h0 56 (by decide), hC 25 (by decide), hC 26 (by decide), hC 27 (by decide), hC 28 (by decide), hC 29 (by decide), hC 30 (by decide), hC 31 (by decide), hC 32 (by decide), hC 33 (by decide), hC 34 (by decide)]
  exact h
theorem iP_cg {E E2 : It} {p : Nat} (h : iP E p) (h0 : ∀ j, j ∈ [0, 1, 16, 44, 5, 6] → E2 0 j = E 0 j) (hC : ∀ a, a ∈ [1, 2, 3, 4, 5, 6, 7, 8, 23, 24] → E2 a = E a) : iP E2 p := by
  unfold iP
  rw [h0 0 (by decide), h0 1 (by decide), h0 16 (by decide), h0 44 (by decide), h0 5 (by decide), h0 6 (by decide), hC 1 (by decide), hC 2 (by decide), hC 3 (by decide), hC 4 (by decide), hC 5 (by decide), hC 6 (by decide), hC 7 (by decide), hC 8 (by decide), hC 23 (by decide), hC 24 (by decide)]
  exact h
theorem iT_cg {E E2 : It} (h : iT E) (h0 : E2 0 17 = E 0 17) (hC : E2 9 = E 9) : iT E2 := by
  unfold iT; rw [h0, hC]; exact h
theorem iZ_cg {E E2 : It} (h : iZ E) (h1 : E2 36 = E 36) (h2 : E2 37 = E 37) : iZ E2 := by
  unfold iZ; rw [h1, h2]; exact h
theorem Inv.s {E E2 : It} (hE : Inv E) (hp : iP E2 (nP E)) (h0 : ∀ j, j ∈ [15, 17, 47, 48, 49, 50, 54, 55, 56, 67] → E2 0 j = E 0 j) (hC : ∀ a, a ∈ [9, 10, 11, 12, 13, 14, 15, 25, 26, 27, 28, 29, 30, 31, 32, 33, 34, 36, 37] → E2 a = E a) : Inv E2 :=
  hE.cg hp (iM_cg hE.2.1 (fun j hj => h0 j (by revert hj; simp; omega)) (fun a ha => hC a (by revert ha; simp; omega))) (h0 15 (by decide)) (fun a ha => hC a (by revert ha; simp; omega)) (iT_cg hE.2.2.2.2.1 (h0 17 (by decide)) (hC 9 (by decide))) (by rw [h0 67 (by decide)]; exact hE.2.2.2.2.2.1) (iZ_cg hE.2.2.2.2.2.2 (hC 36 (by decide)) (hC 37 (by decide)))
theorem Inv.f6 {E : It} {x : Int32} (hE : Inv E) (hx : kb (cnt E) x) : Inv (upI E 0 6 x) :=
  hE.s ⟨hE.1.1, hE.1.2.1, hE.1.2.2.1, hE.1.2.2.2.1, hE.1.2.2.2.2.1, hE.1.2.2.2.2.2.1, hE.1.2.2.2.2.2.2.1, hx⟩ (fun b hb => upn (fun e => absurd hb (by rw [e.2]; decide))) (fun a ha => upI_off (by rintro rfl; revert ha; decide))
theorem Inv.f5 {E : It} {x : Int32} (hE : Inv E) (hx : kb (cnt E) x) : Inv (upI E 0 5 x) :=
  hE.s ⟨hE.1.1, hE.1.2.1, hE.1.2.2.1, hE.1.2.2.2.1, hE.1.2.2.2.2.1, hE.1.2.2.2.2.2.1, hx, hE.1.2.2.2.2.2.2.2⟩ (fun b hb => upn (fun e => absurd hb (by rw [e.2]; decide))) (fun a ha => upI_off (by rintro rfl; revert ha; decide))
theorem Inv.needless {E : It} (hE : Inv E) {a z : Int32} : Inv (needlessS E a z).2 := by
  by_cases h : isD E a
  · obtain ⟨d, hd, rfl⟩ := isD_of hE h
    rw [needless_e h]
    exact hE.f6 (kb_with _ (inv_id hE) hd (inv_cnt hE).2)
  · unfold needlessS; rw [if_pos h]; exact hE
theorem Inv.learn {E : It} (hE : Inv E) {a z : Int32} : Inv (learnS E a z).2 := by
  by_cases h : isD E a
  · obtain ⟨d, hd, rfl⟩ := isD_of hE h
    rw [learn_e h]
    exact hE.f5 (kb_with _ (inv_kn hE) hd (inv_cnt hE).2)
  · unfold learnS; rw [if_pos h]; exact hE
theorem Inv.odds {E : It} (hE : Inv E) {a n : Int32} : Inv (oddsS E a n).2 := by
  unfold oddsS
  split
  · exact hE
  · next h =>
    split
    · exact hE
    · next h2 =>
      obtain ⟨d, hd, rfl⟩ := isD_of hE (Decidable.not_not.mp h)
      obtain ⟨x, hx, rfl⟩ := in_of (b := 10) (by decide) (Decidable.not_not.mp h2)
      obtain ⟨m, hm, em, hdo⟩ := hE.1.1
      dsimp only
      refine hE.s ⟨⟨m, hm, em, fun i hi => ?_⟩, hE.1.2⟩ (fun b hb => upn (fun e => absurd e.1 (by decide))) (fun a ha => upI_off (by rintro rfl; revert ha; decide))
      obtain ⟨q1, q2, q3, q4, q5, q6⟩ := hdo i hi
      refine ⟨q1, q2, q3, q4, q5, ?_⟩
      by_cases e : i = tN (nI d)
      · subst e; exact ⟨x, hx, up0 _ _ _ _⟩
      · rw [upn (fun z => e z.2)]; exact q6
theorem Inv.hours {E : It} (hE : Inv E) {a n : Int32} : Inv (hoursS E a n).2 := by
  unfold hoursS
  split
  · exact hE
  · split
    · exact hE
    · next h2 =>
      obtain ⟨x, hx, rfl⟩ := in_of (b := 9) (by decide) (Decidable.not_not.mp h2)
      dsimp only
      refine hE.s ⟨hE.1.1, hE.1.2.1, hE.1.2.2.1, hE.1.2.2.2.1, fun y hy => ?_, hE.1.2.2.2.2.2⟩ (fun b hb => upn (fun e => absurd e.1 (by decide))) (fun a ha => upI_off (by rintro rfl; revert ha; decide))
      by_cases e : y = tN a
      · subst e; exact ⟨x, hx, up0 _ _ _ _⟩
      · rw [upn (fun z => e z.2)]; exact hE.1.2.2.2.2.1 y hy
theorem Inv.feed {E : It} (hE : Inv E) {s : Int32} : Inv (feedS E s).2 := by
  unfold feedS
  split
  · exact hE
  · next h =>
    split
    · exact hE
    · next h2 =>
      obtain ⟨x, hx, rfl⟩ := in_of (b := 127) (by decide) (Decidable.not_not.mp h)
      obtain ⟨f, hf, ef, ht⟩ := hE.2.2.2.2.1
      have hf2 : f < 100 := by
        rcases Nat.lt_or_ge f 100 with z | z
        · exact z
        · exact absurd (by rw [ef, show f = 100 by omega]; rfl) h2
      have g0 : ∀ j, j ≠ 17 → upI (upI E 9 (tN (E 0 17)) (nI x)) 0 17 (E 0 17 + 1) 0 j = E 0 j := fun j hj => (upn (fun z => hj z.2)).trans (upn (fun z => absurd z.1 (by decide)))
      have gC : ∀ a, a ≠ 0 → a ≠ 9 → upI (upI E 9 (tN (E 0 17)) (nI x)) 0 17 (E 0 17 + 1) a = E a := fun a h0 h9 => (upI_off h0).trans (upI_off h9)
      dsimp only
      refine hE.cg (iP_cg hE.1 (fun j hj => g0 j (by rintro rfl; revert hj; decide)) (fun a ha => gC a (by rintro rfl; revert ha; decide) (by rintro rfl; revert ha; decide))) (iM_cg hE.2.1 (fun j hj => g0 j (by rintro rfl; revert hj; decide)) (fun a ha => gC a (by rintro rfl; revert ha; decide) (by rintro rfl; revert ha; decide))) (g0 15 (by decide)) (fun a ha => gC a (by rintro rfl; revert ha; decide) (by rintro rfl; revert ha; decide)) ⟨f + 1, by omega, by rw [up0, ef, nI_1], fun j hj => ?_⟩ (by rw [g0 67 (by decide)]; exact hE.2.2.2.2.2.1) (iZ_cg hE.2.2.2.2.2.2 (gC 36 (by decide) (by decide)) (gC 37 (by decide) (by decide)))
      rw [upI_off (by decide), ef, tN_nI (by omega)]
      by_cases e : j = f
      · subst e; exact ⟨x, hx, up0 _ _ _ _⟩
      · rw [upn (fun z => e z.2)]; exact ht j (by omega)
theorem Inv.hand {E : It} (hE : Inv E) : Inv (handS E).2 := hE.f5 (kb_or (inv_kn hE) (kb_over _ (inv_cnt hE).2))
theorem Inv.go {E : It} (hE : Inv E) {n : Int32} : Inv (goS E n).2 := by
  unfold goS
  split
  · exact hE
  · next h =>
    split
    · exact hE
    · next h2 =>
      obtain ⟨x, hx1, hx2, rfl⟩ := in1_of (c := 1) (b := 60) (by decide) (by decide) (Decidable.not_not.mp h)
      obtain ⟨ew, hw⟩ := inv_wk hE
      have h3 := Decidable.not_not.mp h2
      rw [ew, nI_add] at h3
      have hle := (nI_leI (b := 9999) (by omega) (by decide)).mp h3
      have hr := kb_run hE (idl := E 0 6) (n := tN (nI x)) (inv_kn hE)
      dsimp only
      generalize runF E (E 0 5) (E 0 6) (tN (nI x)) = R at hr ⊢
      refine hE.s ⟨hE.1.1, ⟨wk E + x, hle, ?_⟩, hE.1.2.2.1, hE.1.2.2.2.1, hE.1.2.2.2.2.1, hE.1.2.2.2.2.2.1, hr, hE.1.2.2.2.2.2.2.2⟩ (fun j hj => ?_) (fun a ha => ?_)
      · show E 0 1 + nI x = nI (wk E + x)
        rw [ew, nI_add]
      · unfold goE
        rw [upn (fun z => absurd hj (by rw [z.2]; decide)), upn (fun z => absurd hj (by rw [z.2]; decide)), upn (fun z => absurd hj (by rw [z.2]; decide)), upn (fun z => absurd hj (by rw [z.2]; decide)), upn (fun z => absurd hj (by rw [z.2]; decide))]
      · have h0 : a ≠ 0 := by rintro rfl; revert ha; decide
        unfold goE
        rw [upI_off h0, upI_off h0, upI_off h0, upI_off h0, upI_off h0]
theorem Inv.list {E : It} (hE : Inv E) {w a : Int32} : Inv (listS E w a).2 := by
  unfold listS
  split
  · dsimp only
    exact hE.s ⟨hE.1.1, hE.1.2.1, hE.1.2.2.1, ⟨0, by decide, rfl⟩, hE.1.2.2.2.2⟩ (fun b hb => upn (fun e => absurd hb (by rw [e.2]; decide))) (fun a ha => upI_off (by rintro rfl; revert ha; decide))
  · split
    · exact hE
    · next h1 =>
      split
      · exact hE
      · next h2 =>
        split
        · exact hE
        · next h3 =>
          obtain ⟨x, hx, rfl⟩ := in_of (b := 99) (by decide) (Decidable.not_not.mp h1)
          obtain ⟨d, hd, rfl⟩ := isD_of hE (Decidable.not_not.mp h2)
          obtain ⟨r, hr, er⟩ := inv_rows hE
          have hc := (inv_cnt hE).2
          have hr2 : r < 12 := by
            rcases Nat.lt_or_ge r 12 with z | z
            · exact z
            · exact absurd (by rw [er, show r = 12 by omega]; rfl) h3
          have g0 : ∀ j, j ≠ 44 → upI (upI (upI E 23 (tN (E 0 44)) (nI x)) 24 (tN (E 0 44)) (nI d)) 0 44 (E 0 44 + 1) 0 j = E 0 j := fun j hj => (upn (fun z => hj z.2)).trans ((upn (fun z => absurd z.1 (by decide))).trans (upn (fun z => absurd z.1 (by decide))))
          have gC : ∀ a, a ≠ 0 → a ≠ 23 → a ≠ 24 → upI (upI (upI E 23 (tN (E 0 44)) (nI x)) 24 (tN (E 0 44)) (nI d)) 0 44 (E 0 44 + 1) a = E a := fun a h0 h1 h2 => (upI_off h0).trans ((upI_off h2).trans (upI_off h1))
          dsimp only
          refine hE.s ⟨hE.1.1, hE.1.2.1, hE.1.2.2.1, ⟨r + 1, by omega, by rw [up0, er, nI_1]⟩, hE.1.2.2.2.2.1, fun k hk => ?_, hE.1.2.2.2.2.2.2⟩ (fun j hj => g0 j (by rintro rfl; revert hj; decide)) (fun a ha => gC a (by rintro rfl; revert ha; decide) (by rintro rfl; revert ha; decide) (by rintro rfl; revert ha; decide))
          obtain ⟨u, v, hu, hv, eu, ev⟩ := hE.1.2.2.2.2.2.1 k hk
          have e23 : upI (upI (upI E 23 (tN (E 0 44)) (nI x)) 24 (tN (E 0 44)) (nI d)) 0 44 (E 0 44 + 1) 23 k = upI E 23 (tN (E 0 44)) (nI x) 23 k := (upn (fun z => absurd z.1 (by decide))).trans (upn (fun z => absurd z.1 (by decide)))
          have e24 : upI (upI (upI E 23 (tN (E 0 44)) (nI x)) 24 (tN (E 0 44)) (nI d)) 0 44 (E 0 44 + 1) 24 k = upI (upI E 23 (tN (E 0 44)) (nI x)) 24 (tN (E 0 44)) (nI d) 24 k := upn (fun z => absurd z.1 (by decide))
          show ∃ x_1 z, x_1 ≤ 99 ∧ z ≤ 9 ∧ upI (upI (upI E 23 (tN (E 0 44)) (nI x)) 24 (tN (E 0 44)) (nI d)) 0 44 (E 0 44 + 1) 23 k = nI x_1 ∧ upI (upI (upI E 23 (tN (E 0 44)) (nI x)) 24 (tN (E 0 44)) (nI d)) 0 44 (E 0 44 + 1) 24 k = nI z
          rw [e23, e24]
          by_cases e : k = tN (E 0 44)
          · subst e; exact ⟨x, d, hx, by omega, up0 _ _ _ _, up0 _ _ _ _⟩
          · exact ⟨u, v, hu, hv, (upn (fun z => e z.2)).trans eu, (upn (fun z => e z.2)).trans ((upn (fun z => absurd z.1 (by decide))).trans ev)⟩
theorem inv_putB {E : It} (hE : Inv E) (l : List Int32) (hl : l.length ≤ 12) : Inv (putB (upI E 0 67 0) l) := by
  obtain ⟨f1, f2⟩ := putB_fr l (upI E 0 67 0)
  have hr := putB_ran l (upI E 0 67 0) (r := 0) (up0 _ _ _ _)
  have g0 : ∀ j, j ≠ 67 → putB (upI E 0 67 0) l 0 j = E 0 j := fun j hj => (f1 j (by simpa using hj)).trans (upn (fun z => hj z.2))
  have gC : ∀ a, a ≠ 0 → a ≠ 35 → putB (upI E 0 67 0) l a = E a := fun a h0 h9 => (f2 a h0 (by simpa using h9)).trans (upI_off h0)
  exact hE.cg (iP_cg hE.1 (fun j hj => g0 j (by rintro rfl; revert hj; decide)) (fun a ha => gC a (by rintro rfl; revert ha; decide) (by rintro rfl; revert ha; decide))) (iM_cg hE.2.1 (fun j hj => g0 j (by rintro rfl; revert hj; decide)) (fun a ha => gC a (by rintro rfl; revert ha; decide) (by rintro rfl; revert ha; decide))) (g0 15 (by decide)) (fun a ha => gC a (by rintro rfl; revert ha; decide) (by rintro rfl; revert ha; decide)) (iT_cg hE.2.2.2.2.1 (g0 17 (by decide)) (gC 9 (by decide) (by decide))) ⟨_, by omega, hr⟩ (iZ_cg hE.2.2.2.2.2.2 (gC 36 (by decide) (by decide)) (gC 37 (by decide) (by decide)))
theorem Inv.act {E : It} (hE : Inv E) {a w x : Int32} : Inv (actS E a w x).2 := by
  have h0 : Inv (upI E 0 67 0) := inv_putB hE [] (by decide)
  unfold actS
  split
  · exact h0
  · split
    · exact h0
    · split
      · split
        · exact inv_putB hE _ (Nat.le_trans (holdsB_len E _) (by decide))
        · exact inv_putB hE _ (tellsB_len E _)
      · exact inv_putB hE _ (Nat.le_trans (saysB_len E _) (by decide))
theorem Inv.tp1 {E : It} (hE : Inv E) {t : Nat} {s n : Int32} (h : (s = -1 ∧ n = 0) ∨ ∃ s2 l, s2 ≤ 4 ∧ l ≤ 60 ∧ s = nI s2 ∧ n = nI l) : Inv (upI (upI E 36 t s) 37 t n) := by
  have gC : ∀ a, a ≠ 36 → a ≠ 37 → upI (upI E 36 t s) 37 t n a = E a := fun a h0 h9 => (upI_off h9).trans (upI_off h0)
  have g0 : upI (upI E 36 t s) 37 t n 0 = E 0 := gC 0 (by decide) (by decide)
  refine hE.cg (iP_cg hE.1 (fun j hj => by rw [g0]) (fun a ha => gC a (by rintro rfl; revert ha; decide) (by rintro rfl; revert ha; decide))) (iM_cg hE.2.1 (fun j hj => by rw [g0]) (fun a ha => gC a (by rintro rfl; revert ha; decide) (by rintro rfl; revert ha; decide))) (by rw [g0]) (fun a ha => gC a (by rintro rfl; revert ha; decide) (by rintro rfl; revert ha; decide)) (iT_cg hE.2.2.2.2.1 (by rw [g0]) (gC 9 (by decide) (by decide))) (by rw [g0]; exact hE.2.2.2.2.2.1) (fun r hr => ?_)
  have e36 : upI (upI E 36 t s) 37 t n 36 = upI E 36 t s 36 := upI_off (by decide)
  have e37 : ∀ r, upI (upI E 36 t s) 37 t n 37 r = if r = t then n else E 37 r := fun r => by
    by_cases e : r = t
    · subst e; rw [up0, if_pos rfl]
    · rw [upn (fun z => e z.2), if_neg e]; exact upn (fun z => absurd z.1 (by decide))
  rw [e36, e37]
  by_cases e : r = t
  · subst e
    rw [up0, if_pos rfl]
    exact h
  · rw [upn (fun z => e z.2), if_neg e]
    exact hE.2.2.2.2.2.2 r hr
theorem Inv.tape {E : It} (hE : Inv E) {a s n : Int32} : Inv (tapeS E a s n).2 := by
  unfold tapeS
  split
  · exact hE
  · split
    · exact hE
    · next h2 =>
      have h2 := Decidable.not_not.mp h2
      split
      · next h3 =>
        refine hE.tp1 (Or.inl ⟨?_, rfl⟩)
        apply Int32.toInt_inj.mp
        have a1 := Int32.le_iff_toInt_le.mp h2.1
        have a2 := Int32.lt_iff_toInt_lt.mp h3
        have e1 : (-1 : Int32).toInt = -1 := by decide
        have e0 : (0 : Int32).toInt = 0 := by decide
        omega
      · next h3 =>
        split
        · exact hE
        · next h4 =>
          split
          · exact hE
          · next h5 =>
            obtain ⟨s2, hs2, rfl⟩ := in_of (b := 4) (by decide) ⟨Int32.not_lt.mp h3, h2.2⟩
            obtain ⟨l, hl, rfl⟩ := in_of (b := 60) (by decide) ⟨Decidable.not_not.mp h5, Decidable.not_not.mp h4⟩
            exact hE.tp1 (Or.inr ⟨s2, l, hs2, hl, rfl, rfl⟩)
theorem partOk_mv {n w the rows kn idl : Int32} {kd v rd pl co ne od hr rw rdd kd2 v2 rd2 pl2 co2 ne2 od2 hr2 rw2 rdd2 : Nat → Int32} {p : Nat} (h : partOk n w the rows kn idl kd v rd pl co ne od hr rw rdd p)
    (e10 : ∀ j, j < 10 → kd2 j = kd j ∧ v2 j = v j ∧ rd2 j = rd j ∧ pl2 j = pl j ∧ co2 j = co j ∧ ne2 j = ne j ∧ od2 j = od j) (e4 : ∀ j, j < 4 → hr2 j = hr j) (e12 : ∀ j, j < 12 → rw2 j = rw j ∧ rdd2 j = rdd j) : partOk n w the rows kn idl kd2 v2 rd2 pl2 co2 ne2 od2 hr2 rw2 rdd2 p := by
  obtain ⟨⟨x, hx, ex, h1⟩, h2, h3, h4, h5, h6, h7⟩ := h
  refine ⟨⟨x, hx, ex, fun d hd => ?_⟩, h2, h3, h4, fun y hy => by rw [e4 y hy]; exact h5 y hy, fun k hk => by rw [(e12 k hk).1, (e12 k hk).2]; exact h6 k hk, h7⟩
  obtain ⟨a1, a2, a3, a4, a5, a6, a7⟩ := e10 d (by omega)
  unfold dOk
  rw [a1, a2, a3, a4, a5, a6, a7]
  exact h1 d hd
theorem img_r {E : It} {a : Nat} (ha : a = 33 ∨ a = 34) {j : Nat} (hj : j < 12) : imgC (imgF E) a j = E (a - 10) j := by
  unfold imgC imgF
  rw [if_neg (by omega), if_neg (by omega), if_pos ha, if_pos hj]
  rcases ha with rfl | rfl <;> rfl
theorem und_r {E : It} {a : Nat} (ha : a = 23 ∨ a = 24) {j : Nat} (hj : j < 12) : undC (undF E) a j = E (a + 10) j := by
  unfold undC undF
  rw [if_neg (by omega), if_neg (by omega), if_pos ha, if_pos hj]
  rcases ha with rfl | rfl <;> rfl
theorem Inv.image {E : It} (hE : Inv E) : Inv (imageS E).2 := by
  have gC : ∀ a, a ≠ 0 → ¬ (25 ≤ a ∧ a ≤ 34) → imgC (imgF E) a = E a := fun a h0 h => img_off h0 h
  refine hE.cg (E2 := imgC (imgF E)) (iP_cg hE.1 (fun j hj => img_0 (by intro z; revert hj z; simp; omega)) (fun a ha => gC a (by rintro rfl; revert ha; decide) (by intro z; revert ha; simp; omega))) (Or.inr ⟨rfl, ?_⟩) (img_0 (by decide)) (fun a ha => gC a (by rintro rfl; revert ha; decide) (by intro z; revert ha; simp; omega)) (iT_cg hE.2.2.2.2.1 (img_0 (by decide)) (gC 9 (by decide) (by decide))) (by rw [img_0 (by decide)]; exact hE.2.2.2.2.2.1) (iZ_cg hE.2.2.2.2.2.2 (gC 36 (by decide) (by decide)) (gC 37 (by decide) (by decide)))
  show partOk (E 0 0) (E 0 1) (E 0 16) (E 0 44) (E 0 5) (E 0 6) _ _ _ _ _ _ _ _ _ _ _
  exact partOk_mv hE.1 (fun j hj => ⟨img_in (by decide) (by decide) hj, img_in (by decide) (by decide) hj, img_in (by decide) (by decide) hj, img_in (by decide) (by decide) hj, img_in (by decide) (by decide) hj, img_in (by decide) (by decide) hj, img_in (by decide) (by decide) hj⟩) (fun j hj => img_32 hj) (fun j hj => ⟨img_r (Or.inl rfl) hj, img_r (Or.inr rfl) hj⟩)
theorem Inv.undo {E : It} (hE : Inv E) : Inv (undoS E).2 := by
  unfold undoS
  split
  · exact hE
  · next h =>
    have hI := (hE.2.1.resolve_left h).2
    have gC : ∀ a, a ≠ 0 → ¬ ((1 ≤ a ∧ a ≤ 8) ∨ a = 23 ∨ a = 24) → undC (undF E) a = E a := fun a h0 h => und_off h0 h
    refine hE.cg (E2 := undC (undF E)) ?_ (iM_cg hE.2.1 (fun j hj => und_0 (by intro z; revert hj z; simp; omega)) (fun a ha => gC a (by rintro rfl; revert ha; decide) (by intro z; revert ha; simp; omega))) (und_0 (by decide)) (fun a ha => gC a (by rintro rfl; revert ha; decide) (by intro z; revert ha; simp; omega)) (iT_cg hE.2.2.2.2.1 (und_0 (by decide)) (gC 9 (by decide) (by decide))) (by rw [und_0 (by decide)]; exact hE.2.2.2.2.2.1) (iZ_cg hE.2.2.2.2.2.2 (gC 36 (by decide) (by decide)) (gC 37 (by decide) (by decide)))
    show partOk (E 0 49) (E 0 50) (E 0 48) (E 0 56) (E 0 54) (E 0 55) _ _ _ _ _ _ _ _ _ _ _
    exact partOk_mv hI (fun j hj => ⟨und_in (by decide) (by decide) hj, und_in (by decide) (by decide) hj, und_in (by decide) (by decide) hj, und_in (by decide) (by decide) hj, und_in (by decide) (by decide) hj, und_in (by decide) (by decide) hj, und_in (by decide) (by decide) hj⟩) (fun j hj => und_8 hj) (fun j hj => ⟨und_r (Or.inl rfl) hj, und_r (Or.inr rfl) hj⟩)
theorem kb_up {n : Nat} {x : Int32} (h : kb n x) : kb (n + 1) x := by
  obtain ⟨m, hm, e⟩ := h
  exact ⟨m, Nat.lt_of_lt_of_le hm (Nat.pow_le_pow_right (by decide) (Nat.le_succ n)), e⟩
theorem Inv.doing {E : It} (hE : Inv E) {k n r p c d : Int32} : Inv (doingS E k n r p c d).2 := by
  unfold doingS
  split
  · exact hE
  split
  · exact hE
  split
  · exact hE
  split
  · exact hE
  split
  · exact hE
  split
  · exact hE
  split
  · exact hE
  next h1 h2 h3 h4 h5 h6 h7 =>
  obtain ⟨e0, hc⟩ := inv_cnt hE
  have hc9 : cnt E < 10 := by
    rcases Nat.lt_or_ge (cnt E) 10 with z | z
    · exact z
    · exact absurd (by rw [e0, show cnt E = 10 by omega]; rfl) h7
  obtain ⟨x1, hx1, rfl⟩ := in_of (b := 6) (by decide) (Decidable.not_not.mp h1)
  obtain ⟨x2, hx2, rfl⟩ := in_of (b := 9) (by decide) (Decidable.not_not.mp h2)
  obtain ⟨x3, hx3, hx3b, rfl⟩ := in1_of (c := 1) (b := 60) (by decide) (by decide) (Decidable.not_not.mp h3)
  obtain ⟨x5, hx5, rfl⟩ := in_of (b := 99) (by decide) (Decidable.not_not.mp h5)
  obtain ⟨x6, hx6, rfl⟩ := in_of (b := 99) (by decide) (Decidable.not_not.mp h6)
  have h4' := Decidable.not_not.mp h4
  rw [show (1 : Int32) = nI 1 from rfl, pk_sub hx3] at h4'
  obtain ⟨x4, hx4, rfl⟩ := in_of (b := x3 - 1) (by omega) h4'
  obtain ⟨z0, z5, z6⟩ := @do_z E (nI x1) (nI x2) (nI x3) (nI x4) (nI x5) (nI x6)
  obtain ⟨n1, n2, n3, n4, n5, n6, n7⟩ := @do_n E (nI x1) (nI x2) (nI x3) (nI x4) (nI x5) (nI x6)
  have ec : tN (E 0 0 + 1) = cnt E + 1 := by rw [e0, nI_1, tN_nI (by omega)]
  dsimp only
  refine hE.s ?_ (fun j hj => do_0 (by refine ⟨?_, ?_, ?_⟩ <;> (rintro rfl; revert hj; decide))) (fun a ha => do_r (by rintro rfl; revert ha; decide) (by intro z; revert ha; simp; omega))
  unfold iP
  rw [z0, z5, z6, do_0 (by decide), do_0 (by decide), do_0 (by decide), do_r (a := 8) (by decide) (by decide), do_r (a := 23) (by decide) (by decide), do_r (a := 24) (by decide) (by decide)]
  obtain ⟨⟨x, hx, ex, hdo⟩, q2, q3, q4, q5, q6, q7, q8⟩ := hE.1
  refine ⟨⟨cnt E + 1, by omega, by rw [e0, nI_1], fun i hi => ?_⟩, q2, q3, q4, q5, q6, ?_, ?_⟩
  · by_cases e : i = cnt E
    · subst e
      unfold dOk
      rw [n1, n2, n3, n4, n5, n6, n7]
      exact ⟨⟨x1, hx1, rfl⟩, ⟨x2, hx2, rfl⟩, ⟨x3, hx3, hx3b, rfl, x4, by omega, rfl⟩, ⟨x5, hx5, rfl⟩, ⟨x6, hx6, rfl⟩, 5, by decide, rfl⟩
    · unfold dOk
      rw [do_c (by decide) (Or.inr e), do_c (by decide) (Or.inr e), do_c (by decide) (Or.inr e), do_c (by decide) (Or.inr e), do_c (by decide) (Or.inr e), do_c (by decide) (Or.inr e), do_c (by decide) (Or.inr e)]
      exact inv_d hE (by omega)
  · rw [ec, e0, kb_w0 (inv_kn hE) hc]; exact kb_up (inv_kn hE)
  · rw [ec, e0, kb_w0 (inv_id hE) hc]; exact kb_up (inv_id hE)

