/-! what is read is well made: codes, clauses, the picture behind a post -/
def dpL : List Int32 → Nat → Option Nat := fun l => match l with
  | [] => fun n => some n
  | x :: r => fun n => match depR x n with
    | none => none
    | some m => dpL r m
theorem dpL_c (x : Int32) (r : List Int32) (n : Nat) : dpL (x :: r) n = (match depR x n with
    | none => none
    | some m => dpL r m) := rfl
theorem dpL_app {x : Int32} : ∀ {l : List Int32} {n m : Nat}, dpL l n = some m → dpL (l ++ [x]) n = depR x m := by
  intro l
  induction l with
  | nil =>
    intro n m h
    cases h
    show dpL [x] n = _
    rw [dpL_c]
    cases depR x n <;> rfl
  | cons y r ih =>
    intro n m h
    rw [List.cons_append, dpL_c]
    rw [dpL_c] at h
    cases e : depR y n with
    | none => rw [e] at h; cases h
    | some q => rw [e] at h; exact ih h
def okCo (x : Int32) : Prop := (∃ t, t ≤ 6299 ∧ x = nI t) ∨ x = -33 ∨ x = -38 ∨ x = -124
def bns : List Int32 → Nat := fun ws => match ws with
  | [] => 0
  | x :: r => if x = 38 ∨ x = 124 then bns r + 1 else bns r
theorem bns_c (x : Int32) (r : List Int32) : bns (x :: r) = if x = 38 ∨ x = 124 then bns r + 1 else bns r := rfl
theorem dep_t {t n : Nat} (ht : t ≤ 6299) : depR (nI t) n = some (n + 1) := by
  unfold depR
  rw [if_neg (fun z => absurd (show nI t < 0 by rw [z]; decide) (nI_pos (by omega))), if_neg (nI_pos (by omega))]
theorem dep_b (n : Nat) : depR (-33) (n + 1) = some (n + 1) := by
  unfold depR
  rw [if_pos rfl, if_neg (by omega)]
theorem dep_o {x : Int32} (hx : x = 38 ∨ x = 124) (n : Nat) : depR (-x) (n + 2) = some (n + 1) := by
  unfold depR
  rcases hx with rfl | rfl
  · rw [if_neg (by decide), if_pos (by decide), if_neg (by omega)]; rfl
  · rw [if_neg (by decide), if_pos (by decide), if_neg (by omega)]; rfl
def okL (cs : List Int32) (m : Nat) : Prop := (∀ x, x ∈ cs → okCo x) ∧ dpL cs 0 = some m
theorem okL.put {cs : List Int32} {m m2 : Nat} {x : Int32} (h : okL cs m) (hx : okCo x) (hd : depR x m = some m2) : okL (cs ++ [x]) m2 :=
  ⟨fun y hy => by
    rcases List.mem_append.mp hy with z | z
    · exact h.1 y z
    · rw [List.mem_singleton.mp z]; exact hx, (dpL_app h.2).trans hd⟩
theorem okL.wh : ∀ {ws cs : List Int32}, okL cs (bns ws + 1) → okL (whA ws cs).1 (bns (whA ws cs).2 + 1) := by
  intro ws
  induction ws with
  | nil => intro cs h; exact h
  | cons x r ih =>
    intro cs h
    rw [whA_c]
    by_cases e : x = 33
    · rw [if_pos e]
      rw [bns_c, if_neg (by rw [e]; decide)] at h
      exact ih (h.put (Or.inr (Or.inl rfl)) (dep_b _))
    · rw [if_neg e]; exact h
theorem okL.se {s : Int32} : ∀ {ws cs : List Int32}, okL cs (bns ws + 1) → okL (seA s ws cs).1 (bns (seA s ws cs).2 + 1) := by
  intro ws
  induction ws with
  | nil => intro cs h; exact h
  | cons x r ih =>
    intro cs h
    rw [seA_c]
    by_cases e : x = 38
    · rw [if_pos e]
      rw [bns_c, if_pos (Or.inl e)] at h
      exact ih (h.put (by rw [e]; exact Or.inr (Or.inr (Or.inl rfl))) (dep_o (Or.inl e) _))
    · rw [if_neg e]
      by_cases e2 : x = 124
      · rw [if_pos e2]
        by_cases e3 : s = 38
        · rw [if_pos e3]; exact h
        · rw [if_neg e3]
          rw [bns_c, if_pos (Or.inr e2)] at h
          exact ih (h.put (by rw [e2]; exact Or.inr (Or.inr (Or.inr rfl))) (dep_o (Or.inr e2) _))
      · rw [if_neg e2]; exact h
theorem dg_c {x : Int32} (h : 48 ≤ x ∧ x ≤ 57) : ∃ c, 48 ≤ c ∧ c ≤ 57 ∧ x = nI c := in1_of (c := 48) (b := 57) (by decide) (by decide) h
theorem dg_1 : ∀ c, c ≤ 57 → 48 ≤ c → 10 * 0 + nI c - 48 = nI (c - 48) := by decide
theorem dg_2 : ∀ c, c ≤ 57 → 48 ≤ c → ∀ e, e ≤ 57 → 48 ≤ e → 10 * nI (c - 48) + nI e - 48 = nI (10 * (c - 48) + (e - 48)) := by decide +kernel
theorem nv_99 {X : Nat → Int32} {n a : Nat} (h : dgA X n a) : ∃ d, d ≤ 99 ∧ nvA X n a = nI d := by
  obtain ⟨c, c1, c2, ec⟩ := dg_c h
  unfold nvA
  by_cases h2 : dgA X n (a + 1)
  · obtain ⟨e, e1, e2, ee⟩ := dg_c h2
    rw [if_pos h2, ec, ee, dg_1 c c2 c1, dg_2 c c2 c1 e e2 e1]
    exact ⟨_, by omega, rfl⟩
  · rw [if_neg h2, ec, dg_1 c c2 c1]
    exact ⟨_, by omega, rfl⟩
theorem pl_c {c : Int32} (h : ¬ plA c < 0) : ∃ f, f ≤ 6 ∧ plA c = nI f := by
  unfold plA at h ⊢
  split at h
  · next e => rw [if_pos e]; exact ⟨4, by decide, rfl⟩
  next e1 =>
  rw [if_neg e1]
  split at h
  · next e => rw [if_pos e]; exact ⟨0, by decide, rfl⟩
  next e1 =>
  rw [if_neg e1]
  split at h
  · next e => rw [if_pos e]; exact ⟨1, by decide, rfl⟩
  next e1 =>
  rw [if_neg e1]
  split at h
  · next e => rw [if_pos e]; exact ⟨2, by decide, rfl⟩
  next e1 =>
  rw [if_neg e1]
  split at h
  · next e => rw [if_pos e]; exact ⟨3, by decide, rfl⟩
  next e1 =>
  rw [if_neg e1]
  split at h
  · next e => rw [if_pos e]; exact ⟨6, by decide, rfl⟩
  next e1 =>
  rw [if_neg e1]
  split at h
  · next e => rw [if_pos e]; exact ⟨5, by decide, rfl⟩
  · exact absurd (by decide) h
theorem cd_e : ∀ f, f ≤ 6 → ∀ s, s ≤ 62 → 60 ≤ s → 1000 * nI f + 100 * (nI s - 60) = nI (1000 * f + 100 * (s - 60)) := by decide +kernel
theorem ts_ok {X : Nat → Int32} {n a : Nat} (h : (tsA X n a).1 = true) : ∃ f s d, f ≤ 6 ∧ s ≤ 2 ∧ d ≤ 99 ∧ plA (nxA X n a) = nI f ∧ nxA X n (a + 1) = nI (s + 60) ∧ nvA X n (a + 2) = nI d ∧ (tsA X n a).2.2 = nI (1000 * f + 100 * s + d) := by
  unfold tsA at h ⊢
  split at h
  · exact absurd h Bool.false_ne_true
  next h1 =>
  rw [if_neg h1]
  split at h
  · exact absurd h Bool.false_ne_true
  next h2 =>
  rw [if_neg h2]
  split at h
  · exact absurd h Bool.false_ne_true
  next h3 =>
  rw [if_neg h3]
  obtain ⟨f, hf, ef⟩ := pl_c h1
  obtain ⟨s, s1, s2, es⟩ := in1_of (c := 60) (b := 62) (by decide) (by decide) (Decidable.not_not.mp h2)
  obtain ⟨d, hd, ed⟩ := nv_99 (Decidable.not_not.mp h3)
  refine ⟨f, s - 60, d, hf, by omega, hd, ef, by rw [es, show s - 60 + 60 = s by omega], ed, ?_⟩
  show 1000 * plA (nxA X n a) + 100 * (nxA X n (a + 1) - 60) + nvA X n (a + 2) = _
  rw [ef, es, ed, cd_e f hf s s2 s1, nI_add]
theorem am_ok {X : Nat → Int32} {n : Nat} : ∀ (f : Nat) (w : Bool) (a : Nat) (cs ws : List Int32), okW ws → okL cs (bns ws + (if w = true then 0 else 1)) → (amR X n f w a cs ws).1 = true → okL (amR X n f w a cs ws).2.2 1 := by
  intro f
  induction f with
  | zero => intro w a cs ws _ _ h; exact absurd h Bool.false_ne_true
  | succ f ih =>
    intro w a cs ws hw hL h
    cases w with
    | true =>
      rw [if_pos rfl, Nat.add_zero] at hL
      by_cases h1 : nxA X n a = 33 ∨ nxA X n a = 40
      · by_cases h4 : opn ws = 4
        · rw [am_o4 h1 h4] at h; exact absurd h Bool.false_ne_true
        · rw [am_o h1 h4] at h ⊢
          refine ih true _ _ _ (hw.cn (by rcases h1 with z | z <;> rw [z] <;> decide)) ?_ h
          rw [bns_c, if_neg (by rcases h1 with z | z <;> rw [z] <;> decide), if_pos rfl, Nat.add_zero]
          exact hL
      · by_cases h4 : (tsA X n a).1 = true
        · rw [am_t h1 h4] at h ⊢
          obtain ⟨q, s, d, q1, q2, q3, -, -, -, q4⟩ := ts_ok h4
          refine ih false _ _ _ (hw.wh _) ?_ h
          rw [if_neg Bool.false_ne_true]
          refine okL.wh (hL.put ?_ ?_)
          · rw [q4]; exact Or.inl ⟨_, by omega, rfl⟩
          · rw [q4]; exact dep_t (by omega)
        · rw [am_tf h1 h4] at h; exact absurd h Bool.false_ne_true
    | false =>
      rw [if_neg Bool.false_ne_true] at hL
      by_cases h1 : nxA X n a = 38 ∨ nxA X n a = 124
      · rw [am_b h1] at h ⊢
        refine ih true _ _ _ ((hw.se _).cn (by rcases h1 with z | z <;> rw [z] <;> decide)) ?_ h
        rw [bns_c, if_pos h1, if_pos rfl]
        exact hL.se
      · by_cases h2 : (seA 124 ws cs).2 = []
        · rw [am_e h1 h2]
          have := hL.se (s := 124)
          rw [h2] at this
          exact this
        · by_cases h3 : nxA X n a = 41
          · rw [am_c h1 h2 h3] at h ⊢
            obtain ⟨x, t, ext⟩ := List.exists_cons_of_ne_nil h2
            have q1 := hw.se (s := 124) cs
            have q2 := se_top ext
            have q3 := hL.se (s := 124)
            rw [ext] at q1 q3 h ⊢
            rw [bns_c, if_neg (by rintro (z | z); exact q2.1 z; exact q2.2 z)] at q3
            refine ih false _ _ _ (q1.tl.wh _) ?_ h
            rw [if_neg Bool.false_ne_true]
            exact okL.wh q3
          · rw [am_x h1 h2 h3] at h; exact absurd h Bool.false_ne_true
def okCl (x : Cl) : Prop := (x.1 = 0 ∨ x.1 = 1 ∨ x.1 = 2 ∨ x.1 = 3) ∧ (∃ v, v ≤ 99 ∧ x.2.1 = nI v) ∧ (¬ 1 < x.1 → okL x.2.2 1)
theorem hd_w {X : Nat → Int32} {n a : Nat} : (hdA X n a).2.2 = 0 ∨ (hdA X n a).2.2 = 1 ∨ (hdA X n a).2.2 = 2 ∨ (hdA X n a).2.2 = 3 := by
  unfold hdA
  split
  · split
    · exact Or.inr (Or.inr (Or.inl rfl))
    · exact Or.inr (Or.inl rfl)
  · split
    · exact Or.inl rfl
    · exact Or.inr (Or.inr (Or.inr rfl))
theorem clA_ok {X : Nat → Int32} {n a : Nat} (h : (clA X n a).1 = true) : okCl (clA X n a).2.2 := by
  by_cases h1 : (hdA X n a).1 = true
  · by_cases h2 : dgA X n (hdA X n a).2.1
    · by_cases h3 : 1 < (hdA X n a).2.2
      · rw [cl_w h1 h2 h3]; exact ⟨hd_w, nv_99 h2, fun z => absurd h3 z⟩
      · by_cases h4 : nxA X n (nuA X n (hdA X n a).2.1) = 32
        · rw [cl_E h1 h2 h3 h4] at h ⊢
          exact ⟨hd_w, nv_99 h2, fun _ => am_ok 101 true _ [] [] (fun _ z => absurd z List.not_mem_nil) ⟨fun _ z => absurd z List.not_mem_nil, rfl⟩ h⟩
        · rw [cl_s h1 h2 h3 h4] at h; exact absurd h Bool.false_ne_true
    · rw [cl_n h1 h2] at h; exact absurd h Bool.false_ne_true
  · rw [cl_h h1] at h; exact absurd h Bool.false_ne_true
theorem gt_ok {X : Nat → Int32} {n : Nat} : ∀ (f a : Nat) (l : List Cl), l.length + f = 10 → (∀ x, x ∈ l → okCl x) → (gtA X n f a l).1 = true → (∀ x, x ∈ (gtA X n f a l).2.2 → okCl x) ∧ 1 ≤ (gtA X n f a l).2.2.length ∧ (gtA X n f a l).2.2.length ≤ 10 := by
  intro f
  induction f with
  | zero => intro a l _ _ h; exact absurd h Bool.false_ne_true
  | succ f ih =>
    intro a l hl hk h
    by_cases h1 : (clA X n a).1 = true
    · have hk2 : ∀ x, x ∈ l ++ [(clA X n a).2.2] → okCl x := fun x hx => by
        rcases List.mem_append.mp hx with z | z
        · exact hk x z
        · rw [List.mem_singleton.mp z]; exact clA_ok h1
      have eln : (l ++ [(clA X n a).2.2]).length = l.length + 1 := by simp
      by_cases h2 : (clA X n a).2.1 = n
      · rw [gt_e h1 h2]
        exact ⟨hk2, by show 1 ≤ (l ++ [(clA X n a).2.2]).length; omega, by show (l ++ [(clA X n a).2.2]).length ≤ 10; omega⟩
      · by_cases h3 : l.length + 1 = 10
        · rw [gt_10 h1 h2 h3] at h; exact absurd h Bool.false_ne_true
        · by_cases h4 : nxA X n (clA X n a).2.1 = 59
          · rw [gt_s h1 h2 h3 h4] at h ⊢
            exact ih _ _ (by omega) hk2 h
          · rw [gt_x h1 h2 h3 h4] at h; exact absurd h Bool.false_ne_true
    · rw [gt_f h1] at h; exact absurd h Bool.false_ne_true
/-! the picture -/
theorem wf_dp {E : It} : ∀ (cs : List Int32) (fr n : Nat), CD fr E cs → dpL cs n = some 1 → wfR E cs.length fr n = true := by
  intro cs
  induction cs with
  | nil => intro fr n _ h; cases h; rfl
  | cons x r ih =>
    intro fr n hc h
    have e0 : E 15 fr = x := hc 0 (by simp)
    rw [List.length_cons, wfR_s, e0]
    rw [dpL_c] at h
    cases e : depR x n with
    | none => rw [e] at h; cases h
    | some m =>
      rw [e] at h
      refine ih (fr + 1) m (fun i hi => ?_) h
      have := hc (i + 1) (by simp only [List.length_cons]; omega)
      rw [show fr + (i + 1) = fr + 1 + i by omega] at this
      rw [this]
      simp
theorem wfR_mv {E E2 : It} {b : Nat} (h : ∀ j, j < b → E2 15 j = E 15 j) : ∀ (k c n : Nat), c + k ≤ b → wfR E2 k c n = wfR E k c n := by
  intro k
  induction k with
  | zero => intro c n _; rfl
  | succ k ih =>
    intro c n hb
    rw [wfR_s, wfR_s, h c (by omega)]
    cases depR (E 15 c) n with
    | none => rfl
    | some m => exact ih (c + 1) m (by omega)
theorem clOk_mv {E E2 : It} {p q c : Nat} (hq : q < p) (h1 : E2 11 c = E 11 c ∧ E2 12 c = E 12 c ∧ E2 13 c = E 13 c ∧ E2 14 c = E 14 c) (h2 : ∀ j, j < 100 * p → E2 15 j = E 15 j) (hc : clOk E q c) : clOk E2 q c := by
  unfold clOk at hc ⊢
  rw [h1.1, h1.2.1, h1.2.2.1, h1.2.2.2]
  refine ⟨hc.1, hc.2.1, fun w => ?_⟩
  obtain ⟨a, b, e1, e2, e3, e4, e5, e6, e7⟩ := hc.2.2 w
  exact ⟨a, b, e1, e2, e3, e4, e5, by rw [wfR_mv h2 _ _ _ (by omega)]; exact e6, fun j j1 j2 => by rw [h2 j (by omega)]; exact e7 j j1 j2⟩
theorem clOk_of {E : It} {p c fr : Nat} {x : Cl} (h : CLr E c fr x) (hx : okCl x) (h1 : 100 * p ≤ fr) (h2 : fr + x.2.2.length ≤ 100 * p + 100) : clOk E p c := by
  obtain ⟨e1, e2, e3⟩ := h
  obtain ⟨x1, x2, x3⟩ := hx
  refine ⟨by rw [e1]; exact x1, by rw [e2]; exact x2, fun w => ?_⟩
  have hw : ¬ 1 < x.1 := by
    rw [e1] at w
    rcases w with w | w <;> rw [w] <;> decide
  obtain ⟨g1, g2, g3⟩ := e3 hw
  obtain ⟨k1, k2⟩ := x3 hw
  refine ⟨fr, fr + x.2.2.length, g1, g2, h1, by omega, h2, ?_, fun j j1 j2 => ?_⟩
  · rw [show fr + x.2.2.length - fr = x.2.2.length by omega]
    exact wf_dp _ _ _ g3 k2
  · have hi : j - fr < x.2.2.length := by omega
    have := g3 (j - fr) hi
    rw [show fr + (j - fr) = j by omega] at this
    have hm : x.2.2.getD (j - fr) 0 ∈ x.2.2 := by
      rw [List.getD_eq_getElem?_getD, List.getElem?_eq_getElem hi]
      exact List.getElem_mem hi
    rw [this]
    rcases k1 _ hm with ⟨t, ht, et⟩ | z | z | z
    · exact ⟨t, ht, Or.inl et⟩
    · exact ⟨0, by decide, Or.inr (Or.inl z)⟩
    · exact ⟨0, by decide, Or.inr (Or.inr (Or.inl z))⟩
    · exact ⟨0, by decide, Or.inr (Or.inr (Or.inr z))⟩
theorem STc_at {E : It} {p : Nat} : ∀ {l : List Cl} {k fr : Nat}, STc E p l k fr → ∀ c, c < l.length → ∃ x fr2, x ∈ l ∧ CLr E (10 * p + (k + c)) fr2 x ∧ fr ≤ fr2 ∧ fr2 + x.2.2.length ≤ fr + tot l := by
  intro l
  induction l with
  | nil => intro k fr _ c hc; exact absurd hc (Nat.not_lt_zero c)
  | cons y r ih =>
    intro k fr h c hc
    rw [List.length_cons] at hc
    rw [tot_c]
    cases c with
    | zero => exact ⟨y, fr, List.mem_cons_self, h.1, Nat.le_refl _, by omega⟩
    | succ c =>
      obtain ⟨x, fr2, q1, q2, q3, q4⟩ := ih h.2 c (by omega)
      exact ⟨x, fr2, List.mem_cons_of_mem _ q1, by rw [show k + (c + 1) = k + 1 + c by omega]; exact q2, by omega, by omega⟩
theorem partOk_up {n w the rows kn idl : Int32} {kd v rd pl co ne od hr rw rdd : Nat → Int32} {p : Nat} (h : partOk n w the rows kn idl kd v rd pl co ne od hr rw rdd p) : partOk n w the rows kn idl kd v rd pl co ne od hr rw rdd (p + 1) := by
  obtain ⟨h1, h2, h3, h4⟩ := h
  refine ⟨h1, h2, ?_, h4⟩
  rcases h3 with z | ⟨x, hx, e⟩
  · exact Or.inl z
  · exact Or.inr ⟨x, by omega, e⟩
theorem PN.inv {E E2 : It} {l : List Cl} (hE : Inv E) (hp : nP E < 6) (h : PN E E2 l) (hk : ∀ x, x ∈ l → okCl x) (h1 : 1 ≤ l.length) (h10 : l.length ≤ 10) : Inv E2 := by
  obtain ⟨⟨z15, z16, z17⟩, f0, fC, f10, f11, f15, g10, gS, gt⟩ := h
  have hn : nP E2 = nP E + 1 := by unfold nP at *; rw [z15, tN_nI (by omega)]
  refine ⟨?_, ?_, ⟨by rw [hn]; exact z15, by omega⟩, fun p hpp => ?_, ⟨0, by decide, z17, fun j hj => absurd hj (Nat.not_lt_zero j)⟩, ?_, ?_⟩
  · rw [hn, f0 0 (by decide), f0 1 (by decide), f0 44 (by decide), f0 5 (by decide), f0 6 (by decide), fC 1 (by decide), fC 2 (by decide), fC 3 (by decide), fC 4 (by decide), fC 5 (by decide), fC 6 (by decide), fC 7 (by decide), fC 8 (by decide), fC 23 (by decide), fC 24 (by decide), z16]
    obtain ⟨q1, q2, -, q4⟩ := hE.1
    exact ⟨q1, q2, Or.inr ⟨nP E, by omega, rfl⟩, q4⟩
  · have := hE.2.1
    have h2 : iM E2 (nP E) := iM_cg hE.2.1 (fun j hj => f0 j (by intro z; revert hj z; simp; omega)) (fun a ha => fC a (by intro z; revert ha z; simp; omega))
    rw [hn]
    rcases h2 with z | ⟨z, q⟩
    · exact Or.inl z
    · exact Or.inr ⟨z, partOk_up q⟩
  · rw [hn] at hpp
    by_cases e : p = nP E
    · subst e
      refine ⟨l.length, h1, h10, g10, fun c hc => ?_⟩
      obtain ⟨x, fr2, q1, q2, q3, q4⟩ := STc_at gS c hc
      rw [Nat.zero_add] at q2
      exact clOk_of q2 (hk x q1) q3 (by omega)
    · have hlt : p < nP E := by omega
      obtain ⟨x, x1, x2, x3, x4⟩ := hE.2.2.2.1 p hlt
      exact ⟨x, x1, x2, by rw [f10 p hlt]; exact x3, fun c hc => clOk_mv hlt (f11 _ (by omega)) f15 (x4 c hc)⟩
  · rw [f0 67 (by decide)]; exact hE.2.2.2.2.2.1
  · rw [fC 36 (by decide), fC 37 (by decide)]; exact hE.2.2.2.2.2.2
theorem Inv.f17 {E : It} (hE : Inv E) : Inv (upI E 0 17 0) :=
  hE.cg (iP_cg hE.1 (fun j hj => upn (fun z => absurd hj (by rw [z.2]; decide))) (fun a ha => upI_off (by rintro rfl; revert ha; decide))) (iM_cg hE.2.1 (fun j hj => upn (fun z => absurd hj (by rw [z.2]; decide))) (fun a ha => upI_off (by rintro rfl; revert ha; decide))) rfl (fun a ha => upI_off (by rintro rfl; revert ha; decide)) ⟨0, by decide, rfl, fun j hj => absurd hj (Nat.not_lt_zero j)⟩ hE.2.2.2.2.2.1 hE.2.2.2.2.2.2
theorem PoS.inv {E E2 : It} {v : Int32} (hE : Inv E) (h : PoS E E2 v) : Inv E2 := by
  rcases h with ⟨-, -, rfl⟩ | ⟨-, -, -, rfl⟩ | ⟨hp, hr, -, h⟩
  · exact hE
  · exact hE.f17
  · obtain ⟨q1, q2, q3⟩ := gt_ok 10 0 [] rfl (fun _ z => absurd z List.not_mem_nil) hr
    exact h.inv hE hp q1 q2 q3
/-- nothing that is compared without posts is changed by a post -/
theorem PoS.eE {E E2 : It} {v : Int32} (h : PoS E E2 v) : (∀ j, j ∈ [0, 1, 6, 44, 47, 49, 50, 55, 56, 67] → E2 0 j = E 0 j) ∧ ∀ a, a ∈ [1, 2, 3, 4, 5, 6, 7, 8, 25, 26, 27, 28, 29, 30, 31, 32, 35, 36, 37] → E2 a = E a := by
  rcases h with ⟨-, -, rfl⟩ | ⟨-, -, -, rfl⟩ | ⟨hp, hr, -, -, f0, fC, -⟩
  · exact ⟨fun _ _ => rfl, fun _ _ => rfl⟩
  · exact ⟨fun j hj => upn (fun z => absurd hj (by rw [z.2]; decide)), fun a ha => upI_off (by rintro rfl; revert ha; decide)⟩
  · exact ⟨fun j hj => f0 j (by intro z; revert hj z; simp; omega), fun a ha => fC a (by intro z; revert ha z; simp; omega)⟩

