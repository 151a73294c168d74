section
/-! posts: the class's and the reference's are one list of clauses -/
def okC2 (x : Cl) : Prop := (x.1 = 0 ∨ x.1 = 1 ∨ x.1 = 2 ∨ x.1 = 3) ∧ (∃ v, v ≤ 99 ∧ x.2.1 = nI v) ∧ (¬ 1 < x.1 → okB x.2.2 1) ∧ (1 < x.1 → x.2.2 = [])
theorem clA_ok2 {X : Nat → Int32} {n a : Nat} (h : (clA X n a).1 = true) : okC2 (clA X n a).2.2 := by
  by_cases h1 : (hdA X n a).1 = true
  · by_cases h2 : dgA X n (hdA X n a).2.1
    · by_cases h3 : 1 < (hdA X n a).2.2
      · rw [cl_w h1 h2 h3]; exact ⟨hd_w, nv_99 h2, fun z => absurd h3 z, fun _ => rfl⟩
      · by_cases h4 : nxA X n (nuA X n (hdA X n a).2.1) = 32
        · rw [cl_E h1 h2 h3 h4] at h ⊢
          exact ⟨hd_w, nv_99 h2, fun _ => am_okB 101 true _ [] [] (fun _ z => absurd z List.not_mem_nil) (Nat.zero_le _) trivial ⟨fun _ z => absurd z List.not_mem_nil, rfl⟩ h, fun z => absurd z h3⟩
        · rw [cl_s h1 h2 h3 h4] at h; exact absurd h Bool.false_ne_true
    · rw [cl_n h1 h2] at h; exact absurd h Bool.false_ne_true
  · rw [cl_h h1] at h; exact absurd h Bool.false_ne_true
theorem gt_ok2 {X : Nat → Int32} {n : Nat} : ∀ (f a : Nat) (l : List Cl), (∀ x, x ∈ l → okC2 x) → (gtA X n f a l).1 = true → ∀ x, x ∈ (gtA X n f a l).2.2 → okC2 x := by
  intro f
  induction f with
  | zero => intro a l _ h; exact absurd h Bool.false_ne_true
  | succ f ih =>
    intro a l hk h
    by_cases h1 : (clA X n a).1 = true
    · have hk2 : ∀ x, x ∈ l ++ [(clA X n a).2.2] → okC2 x := fun x hx => by
        rcases List.mem_append.mp hx with z | z
        · exact hk x z
        · rw [List.mem_singleton.mp z]; exact clA_ok2 h1
      by_cases h2 : (clA X n a).2.1 = n
      · rw [gt_e h1 h2]; exact hk2
      · by_cases h3 : l.length + 1 = 10
        · rw [gt_10 h1 h2 h3] at h; exact absurd h Bool.false_ne_true
        · by_cases h4 : nxA X n (clA X n a).2.1 = 59
          · rw [gt_s h1 h2 h3 h4] at h ⊢
            exact ih _ _ hk2 h
          · rw [gt_x h1 h2 h3 h4] at h; exact absurd h Bool.false_ne_true
    · rw [gt_f h1] at h; exact absurd h Bool.false_ne_true
def wcd (w : Int32) : Int32 := if w = 0 then 115 else if w = 1 then 99 else if w = 2 then 108 else 102
/-- the class's rows of a post -/
def CTc (I : It) (p : Nat) : List Cl → Nat → Nat → Prop := fun l => match l with
  | [] => fun _ _ => True
  | x :: r => fun k fr => (I (44 + 5 * p) k = wcd x.1 ∧ I (45 + 5 * p) k = x.2.1 ∧ I (46 + 5 * p) k = nI (fr + x.2.2.length) ∧ CC2 fr (I (47 + 5 * p)) x.2.2) ∧ CTc I p r (k + 1) (fr + x.2.2.length)
theorem CTc.mv {I J : It} {p : Nat} (h : ∀ a, 43 + 5 * p ≤ a → a ≤ 47 + 5 * p → J a = I a) : ∀ {l : List Cl} {k fr : Nat}, CTc I p l k fr → CTc J p l k fr := by
  intro l
  induction l with
  | nil => intro _ _ _; trivial
  | cons x r ih =>
    intro k fr hc
    refine ⟨?_, ih hc.2⟩
    rw [h (44 + 5 * p) (by omega) (by omega), h (45 + 5 * p) (by omega) (by omega), h (46 + 5 * p) (by omega) (by omega), h (47 + 5 * p) (by omega) (by omega)]
    exact hc.1
/-- call, or fade: the last one's n -/
def lstL (w : Int32) : List Cl → Int32 → Int32 := fun l => match l with
  | [] => fun n => n
  | x :: r => fun n => lstL w r (if x.1 = w then x.2.1 else n)
theorem lstL_c (w : Int32) (x : Cl) (r : List Cl) (n : Int32) : lstL w (x :: r) n = lstL w r (if x.1 = w then x.2.1 else n) := rfl
def sumL (E : It) (what : Int32) (i : Nat) (y w : Int32) : List Cl → Int32 → Int32 := fun l => match l with
  | [] => fun s => s
  | x :: r => fun s => sumL E what i y w r (s + (if x.1 = what ∧ (evL E i y w x.2.2 []).headD false = true then x.2.1 else 0))
theorem sumL_c (E : It) (what : Int32) (i : Nat) (y w : Int32) (x : Cl) (r : List Cl) (s : Int32) : sumL E what i y w (x :: r) s = sumL E what i y w r (s + (if x.1 = what ∧ (evL E i y w x.2.2 []).headD false = true then x.2.1 else 0)) := rfl
/-- post p, the reference's and the class's, by its clauses -/
def PRl (E I : It) (p : Nat) (l : List Cl) : Prop :=
  (E 10 p = nI l.length ∧ STc E p l 0 (100 * p)) ∧ (∀ x, x ∈ l → okC2 x) ∧ (l.length ≤ 10 ∧ tot l ≤ 100) ∧ CTc I p l 0 0 ∧ I (43 + 5 * p) 2 = nI l.length ∧ I (43 + 5 * p) 0 = lstL 2 l 7 ∧ I (43 + 5 * p) 1 = lstL 3 l 1
theorem PRl.mv {E E2 I J : It} {p : Nat} {l : List Cl} (h : PRl E I p l) (e10 : E2 10 p = E 10 p) (eC : ∀ c, c < 10 * p + 10 → E2 11 c = E 11 c ∧ E2 12 c = E 12 c ∧ E2 13 c = E 13 c ∧ E2 14 c = E 14 c) (e15 : ∀ j, j < 100 * p + 100 → E2 15 j = E 15 j) (hJ : ∀ a, 43 + 5 * p ≤ a → a ≤ 47 + 5 * p → J a = I a) : PRl E2 J p l := by
  obtain ⟨⟨h1, h2⟩, h3, ⟨h4, h4b⟩, h5, h6, h7, h8⟩ := h
  refine ⟨⟨by rw [e10]; exact h1, STc_mv h2 (fun c _ hc => eC c (by omega)) (fun j _ hj => e15 j (by omega))⟩, h3, ⟨h4, h4b⟩, h5.mv hJ, ?_, ?_, ?_⟩
  · rw [hJ _ (by omega) (by omega)]; exact h6
  · rw [hJ _ (by omega) (by omega)]; exact h7
  · rw [hJ _ (by omega) (by omega)]; exact h8
theorem lastF_L {E : It} {w : Int32} {p : Nat} : ∀ (l : List Cl) (k fr : Nat) (n : Int32), STc E p l k fr → lastF E w l.length (10 * p + k) n = lstL w l n := by
  intro l
  induction l with
  | nil => intro k fr n _; rfl
  | cons x r ih =>
    intro k fr n h
    rw [List.length_cons, lastF_s, lstL_c, h.1.1, h.1.2.1]
    exact ih (k + 1) _ _ h.2
theorem w01 {x : Int32} (h : x = 0 ∨ x = 1) : ¬ 1 < x := by rcases h with rfl | rfl <;> decide
theorem sumF_L {E : It} {what : Int32} {i : Nat} {y w : Int32} {p : Nat} (hw : what = 0 ∨ what = 1) : ∀ (l : List Cl) (k fr : Nat) (s : Int32), STc E p l k fr → (fr + tot l < 2 ^ 31) → sumF E what i y w l.length (10 * p + k) s = sumL E what i y w l s := by
  intro l
  induction l with
  | nil => intro k fr s _ _; rfl
  | cons x r ih =>
    intro k fr s h hb
    rw [tot_c] at hb
    rw [List.length_cons, sumF_s, sumL_c, h.1.1, h.1.2.1]
    have key : (x.1 = what ∧ holdsF E (10 * p + k) i y w = true) ↔ (x.1 = what ∧ (evL E i y w x.2.2 []).headD false = true) := by
      constructor
      · rintro ⟨e, z⟩
        refine ⟨e, ?_⟩
        obtain ⟨g1, g2, g3⟩ := h.1.2.2 (by rw [e]; exact w01 hw)
        unfold holdsF clLen at z
        rw [g1, g2, tN_nI (by omega), tN_nI (by omega), show fr + x.2.2.length - fr = x.2.2.length by omega, evalR_L _ _ _ g3] at z
        exact z
      · rintro ⟨e, z⟩
        refine ⟨e, ?_⟩
        obtain ⟨g1, g2, g3⟩ := h.1.2.2 (by rw [e]; exact w01 hw)
        unfold holdsF clLen
        rw [g1, g2, tN_nI (by omega), tN_nI (by omega), show fr + x.2.2.length - fr = x.2.2.length by omega, evalR_L _ _ _ g3]
        exact z
    have e2 : (if x.1 = what ∧ holdsF E (10 * p + k) i y w = true then x.2.1 else 0) = (if x.1 = what ∧ (evL E i y w x.2.2 []).headD false = true then x.2.1 else 0) := by
      by_cases z : x.1 = what ∧ holdsF E (10 * p + k) i y w = true
      · rw [if_pos z, if_pos (key.mp z)]
      · rw [if_neg z, if_neg (fun q => z (key.mpr q))]
    rw [e2]
    exact ih (k + 1) _ _ h.2 (by omega)
theorem wcd_e {x what : Int32} (hx : x = 0 ∨ x = 1 ∨ x = 2 ∨ x = 3) (hw : what = 0 ∨ what = 1) : (wcd x = wcd what) ↔ x = what := by
  rcases hx with rfl | rfl | rfl | rfl <;> rcases hw with rfl | rfl <;> decide
/-- the class's sum -/
theorem tgR_L {E : It} {L : Nat → Int64} {I : It} {h : Ht} (hE : Inv E) (hY : RY E L I h) {d p : Nat} (hd : d < cnt E) {what y w : Int32} (hw : what = 0 ∨ what = 1) : ∀ (l : List Cl) (k fr : Nat) (z : Int32), (∀ x, x ∈ l → okC2 x) → CTc I p l k fr → (fr + tot l < 2 ^ 31) → ((k = 0 ∧ fr = 0) ∨ (k ≠ 0 ∧ I (46 + 5 * p) (k - 1) = nI fr)) → tgR I h p (wcd what) (dn h d) y w l.length k z = sumL E what d y w l z := by
  intro l
  induction l with
  | nil => intro k fr z _ _ _ _; rfl
  | cons x r ih =>
    intro k fr z hk hc hb hfr
    rw [tot_c] at hb
    obtain ⟨⟨c1, c2, c3, c4⟩, c5⟩ := hc
    rw [List.length_cons, tgR_s, sumL_c, c1, c2]
    have hx := hk x List.mem_cons_self
    have eBe : eB I p k = fr := by
      unfold eB
      rcases hfr with ⟨h1, h2⟩ | ⟨h1, h2⟩
      · rw [if_pos h1, h2]
      · rw [if_neg h1, h2, tN_nI (by omega)]
    have eEe : eE I p k = fr + x.2.2.length := by unfold eE; rw [c3, tN_nI (by omega)]
    have key : (wcd x.1 = wcd what ∧ hoC I h p k (dn h d) y w) ↔ (x.1 = what ∧ (evL E d y w x.2.2 []).headD false = true) := by
      have q : x.1 = what → (hoC I h p k (dn h d) y w ↔ (evL E d y w x.2.2 []).headD false = true) := by
        intro e
        have hB := hx.2.2.1 (by rw [e]; exact w01 hw)
        show (hbR I h p (dn h d) y w (eE I p k - eB I p k) (eB I p k) 0 &&& 1 ≠ 0) ↔ _
        rw [eBe, eEe, show fr + x.2.2.length - fr = x.2.2.length by omega]
        obtain ⟨s1, s2⟩ := hb_e hE hY hd (y := y) (w := w) (p := p) x.2.2 fr 0 [] 1 c4 (fun i hi => absurd hi (Nat.not_lt_zero i)) (by decide) hB.2
        exact s1.head s2
      constructor
      · rintro ⟨e, z⟩
        have e' := (wcd_e hx.1 hw).mp e
        exact ⟨e', (q e').mp z⟩
      · rintro ⟨e, z⟩
        exact ⟨(wcd_e hx.1 hw).mpr e, (q e).mpr z⟩
    have e2 : (if wcd x.1 = wcd what ∧ hoC I h p k (dn h d) y w then z + x.2.1 else z) = z + (if x.1 = what ∧ (evL E d y w x.2.2 []).headD false = true then x.2.1 else 0) := by
      by_cases q : wcd x.1 = wcd what ∧ hoC I h p k (dn h d) y w
      · rw [if_pos q, if_pos (key.mp q)]
      · rw [if_neg q, if_neg (fun t => q (key.mpr t)), Int32.add_zero]
    rw [e2]
    exact ih (k + 1) (fr + x.2.2.length) _ (fun x hx => hk x (List.mem_cons_of_mem _ hx)) c5 (by omega) (Or.inr ⟨by omega, by rw [Nat.add_sub_cancel]; exact c3⟩)
/-- which post holds -/
def pRf (E : It) (x : Int32) (r : Option Nat) : Prop := (x = -1 ∧ r = none) ∨ ∃ p, p < nP E ∧ x = nI p ∧ r = some (43 + 5 * p)
/-- what RY leaves out -/
def RX (E I : It) (h : Ht) : Prop :=
  (I 1 3 = E 0 5 ∧ I 1 7 = E 0 2 ∧ I 1 8 = E 0 3 ∧ I 1 9 = E 0 4) ∧ (E 0 47 = 1 → (I 7 3 = E 0 54 ∧ I 7 7 = E 0 51 ∧ I 7 8 = E 0 52 ∧ I 7 9 = E 0 53) ∧ pRf E (E 0 48) (hR h 7 13)) ∧
  pRf E (E 0 16) (hR h 1 13) ∧ (I 0 5 = E 0 15 ∧ ∀ p, p < nP E → ∃ l, PRl E I p l) ∧ I 0 7 = E 0 17 ∧ ∀ j, j < fedN E → I 31 j = E 9 j
def RZ (E : It) (L : Nat → Int64) (I : It) (h : Ht) : Prop := RY E L I h ∧ RX E I h
theorem pRf.mv {E E2 : It} {x : Int32} {r : Option Nat} (h : pRf E x r) (e : nP E2 = nP E) : pRf E2 x r := by
  rcases h with z | ⟨p, q1, q2⟩
  · exact Or.inl z
  · exact Or.inr ⟨p, by rw [e]; exact q1, q2⟩
/-- the frame of RX -/
theorem RX.keep {E E2 I J : It} {h h2 : Ht} (hX : RX E I h) (e0 : ∀ j, j ∈ [2, 3, 4, 5, 15, 16, 17, 47, 48, 51, 52, 53, 54] → E2 0 j = E 0 j) (eC : ∀ a, a ∈ [9, 10, 11, 12, 13, 14, 15] → E2 a = E a) (j0 : ∀ j, j ∈ [5, 7] → J 0 j = I 0 j) (j1 : ∀ j, j ∈ [3, 7, 8, 9] → J 1 j = I 1 j) (j7 : ∀ j, j ∈ [3, 7, 8, 9] → J 7 j = I 7 j) (jC : ∀ a, (a = 31 ∨ (43 ≤ a ∧ a < 73)) → J a = I a) (r1 : hR h2 1 13 = hR h 1 13) (r7 : hR h2 7 13 = hR h 7 13) (h6 : nP E ≤ 6) : RX E2 J h2 := by
  have hn : nP E2 = nP E := by unfold nP; rw [e0 15 (by decide)]
  obtain ⟨g1, g2, g3, ⟨g4, g5⟩, g6, g7⟩ := hX
  refine ⟨?_, fun q => ?_, ?_, ⟨?_, fun p hp => ?_⟩, ?_, fun j hj => ?_⟩
  · rw [j1 3 (by decide), j1 7 (by decide), j1 8 (by decide), j1 9 (by decide), e0 5 (by decide), e0 2 (by decide), e0 3 (by decide), e0 4 (by decide)]; exact g1
  · rw [e0 47 (by decide)] at q
    obtain ⟨q1, q2⟩ := g2 q
    rw [j7 3 (by decide), j7 7 (by decide), j7 8 (by decide), j7 9 (by decide), e0 54 (by decide), e0 51 (by decide), e0 52 (by decide), e0 53 (by decide), e0 48 (by decide), r7]
    exact ⟨q1, q2.mv hn⟩
  · rw [e0 16 (by decide), r1]; exact g3.mv hn
  · rw [j0 5 (by decide), e0 15 (by decide)]; exact g4
  · rw [hn] at hp
    obtain ⟨l, hl⟩ := g5 p hp
    exact ⟨l, hl.mv (by rw [eC 10 (by decide)]) (fun c _ => by rw [eC 11 (by decide), eC 12 (by decide), eC 13 (by decide), eC 14 (by decide)]; exact ⟨rfl, rfl, rfl, rfl⟩) (fun j _ => by rw [eC 15 (by decide)]) (fun a a1 a2 => jC a (Or.inr ⟨by omega, by omega⟩))⟩
  · rw [j0 7 (by decide), e0 17 (by decide)]; exact g6
  · have hf : fedN E2 = fedN E := by unfold fedN; rw [e0 17 (by decide)]
    rw [hf] at hj
    rw [jC 31 (Or.inl rfl), eC 9 (by decide)]; exact g7 j hj
/-! what posts come to, in both -/
theorem pos_e {E : It} {L : Nat → Int64} {I : It} {h : Ht} (hE : Inv E) (hZ : RZ E L I h) : (E 0 16 = -1 ∧ hR h 1 13 = none ∧ ncl E = 0 ∧ beg E = 0) ∨ ∃ p l, p < 6 ∧ hR h 1 13 = some (43 + 5 * p) ∧ PRl E I p l ∧ ncl E = l.length ∧ beg E = 10 * p := by
  rcases hZ.2.2.2.1 with ⟨e1, e2⟩ | ⟨p, hp, e1, e2⟩
  · left
    refine ⟨e1, e2, ?_, ?_⟩
    · unfold ncl; rw [e1]; rfl
    · unfold beg; rw [e1]; rfl
  · right
    obtain ⟨l, hl⟩ := hZ.2.2.2.2.1.2 p hp
    have h6 := hE.2.2.1.2
    refine ⟨p, l, by omega, e2, hl, ?_, ?_⟩
    · unfold ncl; rw [e1, if_neg (nI_pos (by omega)), tN_nI (by omega), hl.1.1, tN_nI (by have := hl.2.2.1.1; omega)]
    · unfold beg; rw [e1, if_neg (nI_pos (by omega)), tN_nI (by omega)]
theorem ca_e {E : It} {L : Nat → Int64} {I : It} {h : Ht} (hE : Inv E) (hZ : RZ E L I h) : caF I h = callF E ∧ faF I h = fadeF E := by
  unfold caF faF callF fadeF
  rcases pos_e hE hZ with ⟨-, e2, e3, -⟩ | ⟨p, l, hp, e2, hl, e3, e4⟩
  · rw [e2, e3]; exact ⟨rfl, rfl⟩
  · rw [e2, e3, e4]
    have h1 := lastF_L (w := 2) l 0 (100 * p) 7 hl.1.2
    have h2 := lastF_L (w := 3) l 0 (100 * p) 1 hl.1.2
    rw [Nat.add_zero] at h1 h2
    rw [h1, h2]
    exact ⟨hl.2.2.2.2.2.1, hl.2.2.2.2.2.2⟩
theorem tg_e {E : It} {L : Nat → Int64} {I : It} {h : Ht} (hE : Inv E) (hZ : RZ E L I h) {d : Nat} (hd : d < cnt E) {what y w : Int32} (hw : what = 0 ∨ what = 1) : tgF I h (wcd what) (dn h d) y w = sumP E what d y w := by
  unfold tgF sumP
  rcases pos_e hE hZ with ⟨-, e2, e3, -⟩ | ⟨p, l, hp, e2, hl, e3, e4⟩
  · rw [e2, e3]; rfl
  · obtain ⟨⟨-, h2⟩, h3, ⟨h4, h4b⟩, h5, h6, -⟩ := hl
    have q := sumF_L (E := E) (i := d) (y := y) (w := w) hw l 0 (100 * p) 0 h2 (by omega)
    rw [Nat.add_zero] at q
    rw [e2, e3, e4, q]
    show tgR I h (pN (43 + 5 * p)) (wcd what) (dn h d) y w (tN (I (43 + 5 * p) 2)) 0 0 = _
    rw [pN_eq, h6, tN_nI (by omega)]
    exact tgR_L hE hZ.1 hd hw l 0 0 0 h3 h5 (by omega) (Or.inl ⟨rfl, rfl⟩)
theorem say_e {E : It} {L : Nat → Int64} {I : It} {h : Ht} (hE : Inv E) (hZ : RZ E L I h) {d : Nat} (hd : d < cnt E) {y : Int32} : tgF I h 115 (dn h d) y 0 = sayF E d y := tg_e hE hZ hd (what := 0) (Or.inl rfl)
theorem dear_e {E : It} {L : Nat → Int64} {I : It} {h : Ht} (hE : Inv E) (hZ : RZ E L I h) {d : Nat} (hd : d < cnt E) {w : Int32} : I (dn h d) 4 + tgF I h 99 (dn h d) 9 (remI w 60) = dearF E d w := by
  rw [show tgF I h 99 (dn h d) 9 (remI w 60) = sumP E 1 d 9 (remI w 60) from tg_e hE hZ hd (what := 1) (Or.inr rfl), (hZ.1.d hd).2.2.2.2.2.2.2.2.1]
  rfl
end
section
/-! looking ahead, exactly: weeks as the class goes through them against the reference's -/
theorem RZ.sc {E : It} {L : Nat → Int64} {I J : It} {h : Ht} (hE : Inv E) (hZ : RZ E L I h) (hS : Sc I J) : RZ E L J h :=
  ⟨hZ.1.sc hS, hZ.2.keep (fun _ _ => rfl) (fun _ _ => rfl) (fun j _ => congrFun (hS 0 (by omega)) j) (fun j _ => congrFun (hS 1 (by omega)) j) (fun j _ => congrFun (hS 7 (by omega)) j) (fun a ha => hS a (by omega)) rfl rfl hE.2.2.1.2⟩
theorem gb_ext {a b : Int32} (h : ∀ i, i < 32 → gb a i = gb b i) : a = b := by
  apply Int32.toBitVec.inj
  apply BitVec.eq_of_getLsbD_eq
  intro i hi
  exact h i hi
theorem sm_d : ∀ d, d < 32 → (nI d &&& 31).toBitVec.smod 32 = BitVec.ofNat 32 d := by decide
theorem has_gb (s : Int32) {d : Nat} (hd : d < 32) : hasI s (nI d) = b2 (gb s d) := by
  apply gb_ext
  intro i hi
  unfold hasI
  rw [gb_and, gb_1 i hi, gb_b2 _ hi]
  by_cases e : i = 0
  · subst e
    have : gb (s >>> (nI d &&& 31)) 0 = gb s d := by
      unfold gb
      rw [Int32.toBitVec_shiftRight, sm_d d hd, BitVec.sshiftRight_eq', BitVec.getLsbD_sshiftRight]
      rw [BitVec.toNat_ofNat, Nat.mod_eq_of_lt (by omega), if_pos (by omega), Nat.add_zero]
      rfl
    rw [this]; simp
  · simp [e]
theorem has_1 (s : Int32) {d : Nat} (hd : d < 32) : (hasI s (nI d) = 1) ↔ gb s d = true := by
  rw [has_gb s hd]
  cases gb s d <;> decide
theorem has_0 (s : Int32) {d : Nat} (hd : d < 32) : (hasI s (nI d) = 0) ↔ gb s d = false := by
  rw [has_gb s hd]
  cases gb s d <;> decide
set_option maxRecDepth 100000 in
theorem gb_bit : ∀ d, d < 32 → ∀ i, i < 32 → gb (bitI (nI d)) i = decide (i = d) := by decide +kernel
theorem gb_not (b : Int32) {i : Nat} (hi : i < 32) : gb (b ^^^ (-1)) i = !gb b i := by
  rw [gb_xor]
  have : ∀ i, i < 32 → gb (-1) i = true := by decide
  rw [this i hi]
  cases gb b i <;> rfl
theorem gb_with (s z : Int32) {d i : Nat} (hd : d < 32) (hi : i < 32) : gb (withI s (nI d) z) i = if i = d then decide (z ≠ 0) else gb s i := by
  unfold withI
  by_cases hz : z = 0
  · rw [if_pos hz, gb_and, gb_not _ hi, gb_bit d hd i hi]
    by_cases e : i = d
    · simp [e, hz]
    · simp [e]
  · rw [if_neg hz, gb_or, gb_bit d hd i hi]
    by_cases e : i = d
    · simp [e, hz]
    · simp [e]
theorem gb_hi {n : Nat} {x : Int32} (h : kb n x) {i : Nat} (hi : n ≤ i) (h32 : i < 32) : gb x i = false := by
  obtain ⟨m, hm, rfl⟩ := h
  unfold gb
  rw [nI_bv, BitVec.getLsbD_ofNat]
  simp only [h32, decide_true, Bool.true_and]
  exact Nat.testBit_lt_two_pow (Nat.lt_of_lt_of_le hm (Nat.pow_le_pow_right (by decide) hi))
/-! how many bits -/
def cfR (f : Nat → Bool) : Nat → Nat → Int32 → Int32 := fun k => match k with
  | 0 => fun _ z => z
  | k + 1 => fun i z => cfR f k (i + 1) (z + b2 (f i))
theorem cfR_s (f : Nat → Bool) (k i : Nat) (z : Int32) : cfR f (k + 1) i z = cfR f k (i + 1) (z + b2 (f i)) := rfl
theorem cfR_cg {f g : Nat → Bool} : ∀ (k i : Nat) (z : Int32), (∀ j, i ≤ j → j < i + k → f j = g j) → cfR f k i z = cfR g k i z := by
  intro k
  induction k with
  | zero => intro i z _; rfl
  | succ k ih =>
    intro i z h
    rw [cfR_s, cfR_s, h i (Nat.le_refl _) (by omega)]
    exact ih (i + 1) _ (fun j h1 h2 => h j (by omega) (by omega))
theorem cfR_z {f : Nat → Bool} : ∀ (k i : Nat) (z : Int32), cfR f k i z = z + cfR f k i 0 := by
  intro k
  induction k with
  | zero => intro i z; show z = z + 0; rw [Int32.add_zero]
  | succ k ih => intro i z; rw [cfR_s, cfR_s, ih (i + 1) (z + b2 (f i)), ih (i + 1) (0 + b2 (f i)), Int32.zero_add, Int32.add_assoc]
set_option maxRecDepth 100000 in
theorem ones_f : ∀ n, n ≤ 10 → ∀ m, m < 2 ^ n → nI (onesN m) = cfR (fun i => gb (nI m) i) n 0 0 := by decide +kernel
/-- who comes, as bits -/
def cbR (E : It) (w : Nat) : Nat → Nat → Int32 → Int32 := fun k => match k with
  | 0 => fun _ b => b
  | k + 1 => fun d b => cbR E w k (d + 1) (if remI (nI w) (E 3 d) = E 4 d then b ||| bitI (nI d) else b)
theorem cbR_s (E : It) (w k d : Nat) (b : Int32) : cbR E w (k + 1) d b = cbR E w k (d + 1) (if remI (nI w) (E 3 d) = E 4 d then b ||| bitI (nI d) else b) := rfl
def cbF (E : It) (w : Nat) : Int32 := cbR E w (cnt E) 0 0
theorem cb_m {E : It} {L : Nat → Int64} {I : It} {h : Ht} (hE : Inv E) (hY : RY E L I h) {w : Nat} (hw : w ≤ 20000) : cmF I h (nI w) = cbF E w := by
  have key : ∀ (k d : Nat) (b : Int32), d + k = cnt E → cmR I h (nI w) k d b = cbR E w k d b := by
    intro k
    induction k with
    | zero => intro d b _; rfl
    | succ k ih =>
      intro d b hk
      rw [cmR_s, cbR_s]
      have e : (if wuF I (dn h d) (nI w) = 0 then b ||| bitI (nI d) else b) = (if remI (nI w) (E 3 d) = E 4 d then b ||| bitI (nI d) else b) := by
        by_cases z : remI (nI w) (E 3 d) = E 4 d
        · rw [if_pos z, if_pos ((cm_0 hE hY (by omega) hw).mpr z)]
        · rw [if_neg z, if_neg (fun q => z ((cm_0 hE hY (by omega) hw).mp q))]
      rw [e]
      exact ih (d + 1) _ (by omega)
  unfold cmF cbF
  rw [hY.cn]
  exact key (cnt E) 0 0 (Nat.zero_add _)
def dcC (E : It) (i w : Nat) : Decidable (comesF E i w) := by unfold comesF; exact inferInstance
theorem cb_gb {E : It} (w : Nat) : ∀ (k d : Nat) (b : Int32) (i : Nat), d + k ≤ 32 → i < 32 → gb (cbR E w k d b) i = (gb b i || (decide (d ≤ i ∧ i < d + k) && @decide (comesF E i w) (dcC E i w))) := by
  intro k
  induction k with
  | zero =>
    intro d b i _ _
    show gb b i = _
    rw [show decide (d ≤ i ∧ i < d + 0) = false from decide_eq_false (by omega)]
    simp
  | succ k ih =>
    intro d b i hk hi
    rw [cbR_s, ih (d + 1) _ i (by omega) hi]
    by_cases e : i = d
    · subst e
      rw [show decide (i + 1 ≤ i ∧ i < i + 1 + k) = false from decide_eq_false (by omega), show decide (i ≤ i ∧ i < i + (k + 1)) = true from decide_eq_true (by omega)]
      by_cases z : remI (nI w) (E 3 i) = E 4 i
      · have zc : comesF E i w := z
        rw [if_pos z, gb_or, gb_bit i (by omega) i hi, @decide_eq_true _ (dcC E i w) zc]; simp
      · have zc : ¬ comesF E i w := z
        rw [if_neg z, @decide_eq_false _ (dcC E i w) zc]; simp
    · have h1 : gb (if remI (nI w) (E 3 d) = E 4 d then b ||| bitI (nI d) else b) i = gb b i := by
        by_cases z : remI (nI w) (E 3 d) = E 4 d
        · rw [if_pos z, gb_or, gb_bit d (by omega) i hi]; simp [e]
        · rw [if_neg z]
      rw [h1, show decide (d + 1 ≤ i ∧ i < d + 1 + k) = decide (d ≤ i ∧ i < d + (k + 1)) from decide_eq_decide.mpr (by omega)]
theorem cbF_gb {E : It} (hE : Inv E) (w : Nat) {i : Nat} (hi : i < cnt E) : gb (cbF E w) i = @decide (comesF E i w) (dcC E i w) := by
  have hc := (inv_cnt hE).2
  unfold cbF
  rw [cb_gb w (cnt E) 0 0 i (by omega) (by omega), gb_0 i (by omega)]
  simp [hi]
theorem cbF_hi {E : It} (hE : Inv E) (w : Nat) {i : Nat} (hi : cnt E ≤ i) (h32 : i < 32) : gb (cbF E w) i = false := by
  have hc := (inv_cnt hE).2
  unfold cbF
  rw [cb_gb w (cnt E) 0 0 i (by omega) h32, gb_0 i h32]
  simp
  omega
theorem kb_cb {E : It} (hE : Inv E) (w : Nat) : kb (cnt E) (cbF E w) := by
  have hc := (inv_cnt hE).2
  have key : ∀ (k d : Nat) (b : Int32), d + k = cnt E → kb (cnt E) b → kb (cnt E) (cbR E w k d b) := by
    intro k
    induction k with
    | zero => intro d b _ h; exact h
    | succ k ih =>
      intro d b hk h
      rw [cbR_s]
      refine ih (d + 1) _ (by omega) ?_
      split
      · exact kb_or h (kb_bit (by omega) hc)
      · exact h
  exact key (cnt E) 0 0 (Nat.zero_add _) (kb_0 _)
/-! numbers stay small -/
theorem sumF_b {E : It} (hE : Inv E) {what : Int32} {i : Nat} {y w : Int32} : ∀ (k c s : Nat), beg E ≤ c → c + k = beg E + ncl E → s + 99 * k < 2 ^ 30 → ∃ s', sumF E what i y w k c (nI s) = nI s' ∧ s' ≤ s + 99 * k := by
  intro k
  induction k with
  | zero => intro c s _ _ _; exact ⟨s, rfl, by omega⟩
  | succ k ih =>
    intro c s h1 h2 h3
    rw [sumF_s]
    obtain ⟨p, -, -, hcl⟩ := cl_of hE h1 (by omega)
    obtain ⟨v, hv, ev⟩ := hcl.2.1
    have : ∃ v, v ≤ 99 ∧ (if E 11 c = what ∧ holdsF E c i y w = true then E 12 c else 0) = nI v := by
      split
      · exact ⟨v, hv, ev⟩
      · exact ⟨0, by decide, rfl⟩
    obtain ⟨v, hv, ev⟩ := this
    rw [ev, nI_add]
    obtain ⟨s', e1, e2⟩ := ih (c + 1) (s + v) (by omega) (by omega) (by omega)
    exact ⟨s', e1, by omega⟩
theorem dear_b {E : It} (hE : Inv E) {d : Nat} (hd : d < cnt E) (w : Int32) : ∃ x, x ≤ 1089 ∧ dearF E d w = nI x := by
  obtain ⟨-, -, -, ⟨c, hc, ec⟩, -⟩ := inv_d hE hd
  have hb : ncl E ≤ 10 := by
    rcases inv_the hE with ⟨-, -, e⟩ | ⟨x, c, -, -, -, -, h2, -, -, e, -⟩ <;> omega
  obtain ⟨s, e1, e2⟩ := sumF_b hE (what := 1) (i := d) (y := 9) (w := remI w 60) (ncl E) (beg E) 0 (Nat.le_refl _) rfl (by omega)
  refine ⟨c + s, by omega, ?_⟩
  unfold dearF sumP
  rw [ec, show (0 : Int32) = nI 0 from rfl, e1, nI_add]
theorem dear_60 {E : It} {d x : Nat} (hx : x < 2 ^ 31) : dearF E d (nI x) = dearF E d (nI (x % 60)) := by
  unfold dearF
  rw [show (60 : Int32) = nI 60 from rfl, rem_nI hx (by decide) (by decide), rem_nI (by omega) (by decide) (by decide), Nat.mod_mod]
/-! a week, as the class goes through it -/
def kcV (E : It) (d : Nat) : Int32 := if E 1 d = 6 then 0 else 1
def klV (E : It) (d : Nat) : Int32 := @bI (learnsF E d) (dcL E d)
/-- one that stops -/
def csS (E : It) (w : Nat) (may : Int32) (d : Nat) (a : WS) : WS := match a with
  | (had, kn, co, st, ca, fw, fd) =>
    if had < may then (had + 1, if kcV E d = 0 then kn else kn ||| bitI (nI d), co + 1, st + 1, ca + 1, if st = 0 then nI w else fw, if st = 0 then nI d else fd)
    else (had, if klV E d = 0 then kn else kn ||| bitI (nI d), co + dearF E d (nI w), st + 1, ca, if st = 0 then nI w else fw, if st = 0 then nI d else fd)
def csR (E : It) (w : Nat) (may who : Int32) : Nat → Nat → WS → WS := fun k => match k with
  | 0 => fun _ a => a
  | k + 1 => fun d a => csR E w may who k (d + 1) (if gb who d = true then csS E w may d a else a)
theorem csR_s (E : It) (w : Nat) (may who : Int32) (k d : Nat) (a : WS) : csR E w may who (k + 1) d a = csR E w may who k (d + 1) (if gb who d = true then csS E w may d a else a) := rfl
/-- stops so far, and the first one's week -/
def FW (N : Nat) (st fw : Int32) : Prop := ∃ s, s ≤ N ∧ st = nI s ∧ (s = 0 ↔ fw < 0)
theorem FW.st {N w : Nat} {st fw : Int32} (hN : N < 2 ^ 30) (hw : w < 2 ^ 31) (h : FW N st fw) : FW (N + 1) (st + 1) (if fw < 0 then nI w else fw) ∧ (st = 0 ↔ fw < 0) := by
  obtain ⟨s, hs, rfl, e⟩ := h
  have e0 : nI s = 0 ↔ s = 0 := nI_eq (b := 0) (by omega) (by decide)
  refine ⟨⟨s + 1, by omega, nI_1 s, ?_⟩, e0.trans e⟩
  constructor
  · intro z; omega
  · intro z
    by_cases q : fw < 0
    · rw [if_pos q] at z; exact absurd z (nI_pos hw)
    · rw [if_neg q] at z; exact absurd z q
theorem with_or {kn : Int32} {d : Nat} (hd : d < 32) (h : gb kn d = false) (z : Int32) : withI kn (nI d) z = if z = 0 then kn else kn ||| bitI (nI d) := by
  unfold withI
  by_cases hz : z = 0
  · rw [if_pos hz, if_pos hz]
    apply gb_ext
    intro i hi
    rw [gb_and, gb_not _ hi, gb_bit d hd i hi]
    by_cases e : i = d
    · subst e; rw [h]; rfl
    · simp [e]
  · rw [if_neg hz, if_neg hz]
/-- the reference's step, for one that stops -/
theorem step_st {E : It} {idl may : Int32} {w d N : Nat} {had kn co st ca fw fd : Int32} (hd : d < 32) (hc : comesF E d w) (h1 : gb idl d = false) (h2 : gb kn d = false) (hst : st = 0 ↔ fw < 0) :
    wkStep E idl w may d (had, kn, co, st, ca, fw, fd) = csS E w may d (had, kn, co, st, ca, fw, fd) := by
  unfold wkStep csS
  have hc' : remI (nI w) (E 3 d) = E 4 d := hc
  have i1 : ¬ hasI idl (nI d) = 1 := fun z => by rw [has_1 _ hd, h1] at z; exact absurd z (by decide)
  have i2 : ¬ hasI kn (nI d) = 1 := fun z => by rw [has_1 _ hd, h2] at z; exact absurd z (by decide)
  have f1 : (if fw < 0 then nI w else fw) = if st = 0 then nI w else fw := by
    by_cases z : fw < 0
    · rw [if_pos z, if_pos (hst.mpr z)]
    · rw [if_neg z, if_neg (fun q => z (hst.mp q))]
  have f2 : (if fw < 0 then nI d else fd) = if st = 0 then nI d else fd := by
    by_cases z : fw < 0
    · rw [if_pos z, if_pos (hst.mpr z)]
    · rw [if_neg z, if_neg (fun q => z (hst.mp q))]
  dsimp only
  rw [if_neg (not_not_intro hc'), if_neg i1, if_neg i2, f1, f2, with_or hd h2, with_or hd h2]
  by_cases hm : had < may
  · rw [if_pos hm, if_pos hm]
    congr 2
    by_cases e6 : E 1 d = 6
    · unfold kcV; rw [if_pos e6, bI_f (not_not_intro e6)]
    · unfold kcV; rw [if_neg e6, bI_t e6]
  · rw [if_neg hm, if_neg hm]
    rfl
theorem csS_gb {E : It} {w d j : Nat} {may had kn co st ca fw fd : Int32} (hd : d < 32) (hj : j < 32) (h : j ≠ d) : gb (csS E w may d (had, kn, co, st, ca, fw, fd)).2.1 j = gb kn j := by
  have q : gb (kn ||| bitI (nI d)) j = gb kn j := by rw [gb_or, gb_bit d hd j hj]; simp [h]
  unfold csS
  dsimp only
  split
  · dsimp only; split
    · rfl
    · exact q
  · dsimp only; split
    · rfl
    · exact q
theorem csS_co {E : It} {w d : Nat} {may had kn co z st ca fw fd : Int32} : csS E w may d (had, kn, co + z, st, ca, fw, fd) = ((csS E w may d (had, kn, co, st, ca, fw, fd)).1, (csS E w may d (had, kn, co, st, ca, fw, fd)).2.1, (csS E w may d (had, kn, co, st, ca, fw, fd)).2.2.1 + z, (csS E w may d (had, kn, co, st, ca, fw, fd)).2.2.2.1, (csS E w may d (had, kn, co, st, ca, fw, fd)).2.2.2.2.1, (csS E w may d (had, kn, co, st, ca, fw, fd)).2.2.2.2.2.1, (csS E w may d (had, kn, co, st, ca, fw, fd)).2.2.2.2.2.2) := by
  unfold csS
  dsimp only
  split
  · dsimp only; rw [Int32.add_assoc, Int32.add_comm z, ← Int32.add_assoc]
  · dsimp only; rw [Int32.add_assoc, Int32.add_comm z, ← Int32.add_assoc]
theorem csS_fw {E : It} {w d N : Nat} {may had kn co st ca fw fd : Int32} (hN : N < 2 ^ 30) (hw : w < 2 ^ 31) (h : FW N st fw) : FW (N + 1) (csS E w may d (had, kn, co, st, ca, fw, fd)).2.2.2.1 (csS E w may d (had, kn, co, st, ca, fw, fd)).2.2.2.2.2.1 := by
  obtain ⟨h1, h2⟩ := h.st hN hw
  have f1 : (if fw < 0 then nI w else fw) = if st = 0 then nI w else fw := by
    by_cases z : fw < 0
    · rw [if_pos z, if_pos (h2.mpr z)]
    · rw [if_neg z, if_neg (fun q => z (h2.mp q))]
  rw [f1] at h1
  unfold csS
  dsimp only
  split
  · exact h1
  · exact h1
/-- those that are NEEDLESS, come, and are KNOWN -/
def nkB (E : It) (idl kn : Int32) (w : Nat) : Nat → Bool := fun j => @decide (comesF E j w) (dcC E j w) && (gb idl j && gb kn j)
theorem wk_e {E : It} {idl may who : Int32} {w : Nat} (hw : w < 2 ^ 31) : ∀ (k i N : Nat) (had kn co z st ca fw fd : Int32), i + k ≤ 32 → N + k < 2 ^ 30 → (∀ j, i ≤ j → j < i + k → gb who j = (@decide (comesF E j w) (dcC E j w) && (!gb idl j && !gb kn j))) → FW N st fw →
    wkRun E idl w may k i (had, kn, co + z, st, ca, fw, fd) = ((csR E w may who k i (had, kn, co, st, ca, fw, fd)).1, (csR E w may who k i (had, kn, co, st, ca, fw, fd)).2.1, (csR E w may who k i (had, kn, co, st, ca, fw, fd)).2.2.1 + (z + cfR (nkB E idl kn w) k i 0), (csR E w may who k i (had, kn, co, st, ca, fw, fd)).2.2.2.1, (csR E w may who k i (had, kn, co, st, ca, fw, fd)).2.2.2.2.1, (csR E w may who k i (had, kn, co, st, ca, fw, fd)).2.2.2.2.2.1, (csR E w may who k i (had, kn, co, st, ca, fw, fd)).2.2.2.2.2.2) := by
  intro k
  induction k with
  | zero =>
    intro i N had kn co z st ca fw fd _ _ _ _
    show (had, kn, co + z, st, ca, fw, fd) = (had, kn, co + (z + 0), st, ca, fw, fd)
    rw [Int32.add_zero]
  | succ k ih =>
    intro i N had kn co z st ca fw fd hk hN hwho hF
    rw [wkRun_s, csR_s, cfR_s, hwho i (Nat.le_refl _) (by omega)]
    have hi : i < 32 := by omega
    by_cases hc : comesF E i w
    · have hc' : remI (nI w) (E 3 i) = E 4 i := hc
      cases hid : gb idl i with
      | true =>
        -- NEEDLESS: costs 1 if KNOWN
        have i1 : hasI idl (nI i) = 1 := (has_1 _ hi).mpr hid
        have e1 : wkStep E idl w may i (had, kn, co + z, st, ca, fw, fd) = (had, kn, co + (z + b2 (gb kn i)), st, ca, fw, fd) := by
          unfold wkStep
          dsimp only
          rw [if_neg (not_not_intro hc'), if_pos i1, Int32.add_assoc]
          congr 4
          cases hk2 : gb kn i with
          | true => rw [if_pos ((has_1 _ hi).mpr hk2)]; rfl
          | false => rw [if_neg (fun q => by rw [has_1 _ hi, hk2] at q; exact absurd q (by decide))]; rfl
        rw [e1, if_neg (by simp)]
        rw [ih (i + 1) N had kn co (z + b2 (gb kn i)) st ca fw fd (by omega) (by omega) (fun j h1 h2 => hwho j (by omega) (by omega)) hF]
        have e2 : nkB E idl kn w i = gb kn i := by unfold nkB; rw [@decide_eq_true _ (dcC E i w) hc, hid]; simp
        rw [e2, Int32.zero_add, cfR_z k (i + 1) (b2 (gb kn i)), ← Int32.add_assoc z]
      | false =>
        cases hkn : gb kn i with
        | true =>
          -- KNOWN: nothing
          have i1 : ¬ hasI idl (nI i) = 1 := fun q => by rw [has_1 _ hi, hid] at q; exact absurd q (by decide)
          have i2 : hasI kn (nI i) = 1 := (has_1 _ hi).mpr hkn
          have e1 : wkStep E idl w may i (had, kn, co + z, st, ca, fw, fd) = (had, kn, co + z, st, ca, fw, fd) := by
            unfold wkStep
            dsimp only
            rw [if_neg (not_not_intro hc'), if_neg i1, if_pos i2]
          rw [e1, if_neg (by simp)]
          have e2 : nkB E idl kn w i = false := by unfold nkB; rw [hid]; simp
          rw [e2, show b2 false = 0 from rfl, Int32.zero_add]
          exact ih (i + 1) N had kn co z st ca fw fd (by omega) (by omega) (fun j h1 h2 => hwho j (by omega) (by omega)) hF
        | false =>
          -- it STOPS
          have e1 := step_st (E := E) (idl := idl) (may := may) (had := had) (co := co + z) (ca := ca) (fd := fd) hi hc hid hkn (hF.st (w := w) (by omega) hw).2 (N := N)
          rw [e1, csS_co, if_pos (by rw [@decide_eq_true _ (dcC E i w) hc]; rfl)]
          have e2 : nkB E idl kn w i = false := by unfold nkB; rw [hid]; simp
          rw [e2, show b2 false = 0 from rfl, Int32.zero_add]
          have hFn := csS_fw (E := E) (d := i) (may := may) (had := had) (kn := kn) (co := co) (ca := ca) (fd := fd) (w := w) (by omega) hw hF
          have hgb : ∀ j, i + 1 ≤ j → j < i + 1 + k → gb (csS E w may i (had, kn, co, st, ca, fw, fd)).2.1 j = gb kn j := fun j h1 h2 => csS_gb hi (by omega) (by omega)
          generalize csS E w may i (had, kn, co, st, ca, fw, fd) = A at hFn hgb
          obtain ⟨had', kn', co', st', ca', fw', fd'⟩ := A
          dsimp only at hFn hgb ⊢
          rw [ih (i + 1) (N + 1) had' kn' co' z st' ca' fw' fd' (by omega) (by omega) (fun j h1 h2 => by rw [hgb j h1 h2]; exact hwho j (by omega) (by omega)) hFn]
          rw [cfR_cg (f := nkB E idl kn' w) (g := nkB E idl kn w) k (i + 1) 0 (fun j h1 h2 => by unfold nkB; rw [hgb j h1 h2])]
    · have hc' : ¬ remI (nI w) (E 3 i) = E 4 i := hc
      have e1 : wkStep E idl w may i (had, kn, co + z, st, ca, fw, fd) = (had, kn, co + z, st, ca, fw, fd) := by
        unfold wkStep
        dsimp only
        rw [if_pos hc']
      rw [e1, @decide_eq_false _ (dcC E i w) hc, if_neg (by simp)]
      have e2 : nkB E idl kn w i = false := by unfold nkB; rw [@decide_eq_false _ (dcC E i w) hc]; rfl
      rw [e2, show b2 false = 0 from rfl, Int32.zero_add]
      exact ih (i + 1) N had kn co z st ca fw fd (by omega) (by omega) (fun j h1 h2 => hwho j (by omega) (by omega)) hF

theorem csR_gb {E : It} {w : Nat} {may who : Int32} {j : Nat} (hj : j < 32) (h : gb who j = false) : ∀ (k i : Nat) (A : WS), i + k ≤ 32 → gb (csR E w may who k i A).2.1 j = gb A.2.1 j := by
  intro k
  induction k with
  | zero => intro i A _; rfl
  | succ k ih =>
    intro i A hk
    rw [csR_s, ih (i + 1) _ (by omega)]
    by_cases e : gb who i = true
    · rw [if_pos e]
      obtain ⟨had, kn, co, st, ca, fw, fd⟩ := A
      refine csS_gb (by omega) hj ?_
      rintro rfl
      rw [h] at e
      exact absurd e (by decide)
    · rw [if_neg e]
theorem csR_kb {E : It} {w n : Nat} {may who : Int32} (hn : n ≤ 10) : ∀ (k i : Nat) (A : WS), i + k ≤ n → kb n A.2.1 → kb n (csR E w may who k i A).2.1 := by
  intro k
  induction k with
  | zero => intro i A _ h; exact h
  | succ k ih =>
    intro i A hk h
    rw [csR_s]
    refine ih (i + 1) _ (by omega) ?_
    split
    · obtain ⟨had, kn, co, st, ca, fw, fd⟩ := A
      have q : kb n (kn ||| bitI (nI i)) := kb_or h (kb_bit (by omega) hn)
      unfold csS
      dsimp only
      split
      · dsimp only; split
        · exact h
        · exact q
      · dsimp only; split
        · exact h
        · exact q
    · exact h
theorem csR_fw {E : It} {w : Nat} {may who : Int32} (hw : w < 2 ^ 31) : ∀ (k i N : Nat) (A : WS), N + k < 2 ^ 30 → FW N A.2.2.2.1 A.2.2.2.2.2.1 → FW (N + k) (csR E w may who k i A).2.2.2.1 (csR E w may who k i A).2.2.2.2.2.1 := by
  intro k
  induction k with
  | zero => intro i N A _ h; exact h
  | succ k ih =>
    intro i N A hN h
    rw [csR_s]
    have : FW (N + 1) (if gb who i = true then csS E w may i A else A).2.2.2.1 (if gb who i = true then csS E w may i A else A).2.2.2.2.2.1 := by
      by_cases e : gb who i = true
      · rw [if_pos e]
        obtain ⟨had, kn, co, st, ca, fw, fd⟩ := A
        exact csS_fw (by omega) hw h
      · rw [if_neg e]
        obtain ⟨s, h1, h2, h3⟩ := h
        exact ⟨s, by omega, h2, h3⟩
    have := ih (i + 1) (N + 1) _ (by omega) this
    rw [show N + 1 + k = N + (k + 1) by omega] at this
    exact this
theorem csR_none {E : It} {w : Nat} {may : Int32} : ∀ (k i : Nat) (A : WS), i + k ≤ 32 → csR E w may 0 k i A = A := by
  intro k
  induction k with
  | zero => intro i A _; rfl
  | succ k ih => intro i A hk; rw [csR_s, gb_0 i (by omega), if_neg (by decide)]; exact ih (i + 1) A (by omega)
/-- who stops in a week -/
def whoF (E : It) (idl kn : Int32) (w : Nat) : Int32 := cbF E w &&& (idl ^^^ (-1)) &&& (kn ^^^ (-1))
def mayF (E : It) (w : Nat) : Int32 := callF E - fadeF E * nI w
theorem who_gb {E : It} (hE : Inv E) {idl kn : Int32} {w j : Nat} (hj : j < cnt E) : gb (whoF E idl kn w) j = (@decide (comesF E j w) (dcC E j w) && (!gb idl j && !gb kn j)) := by
  have hc := (inv_cnt hE).2
  unfold whoF
  rw [gb_and, gb_and, gb_not _ (by omega), gb_not _ (by omega), cbF_gb hE w hj, Bool.and_assoc]
/-- a week behind the class's pass, and behind the reference's -/
theorem week_e {E : It} (hE : Inv E) {idl : Int32} {w N : Nat} (hw : w < 2 ^ 31) (hN : N + 10 < 2 ^ 30) {had kn co st ca fw fd : Int32} (hkn : kb (cnt E) kn) (hid : kb (cnt E) idl) (hF : FW N st fw) :
    ∃ m, m < 1024 ∧ cbF E w &&& idl &&& (csR E w (mayF E w) (whoF E idl kn w) (cnt E) 0 (0, kn, co, st, ca, fw, fd)).2.1 = nI m ∧
      (wkF E idl w (had, kn, co, st, ca, fw, fd)).2 = ((csR E w (mayF E w) (whoF E idl kn w) (cnt E) 0 (0, kn, co, st, ca, fw, fd)).2.1, (csR E w (mayF E w) (whoF E idl kn w) (cnt E) 0 (0, kn, co, st, ca, fw, fd)).2.2.1 + nI (onesN m), (csR E w (mayF E w) (whoF E idl kn w) (cnt E) 0 (0, kn, co, st, ca, fw, fd)).2.2.2) ∧
      FW (N + 10) (wkF E idl w (had, kn, co, st, ca, fw, fd)).2.2.2.1 (wkF E idl w (had, kn, co, st, ca, fw, fd)).2.2.2.2.2.1 ∧ kb (cnt E) (wkF E idl w (had, kn, co, st, ca, fw, fd)).2.1 := by
  have hc := (inv_cnt hE).2
  have h1 := wk_e (E := E) (idl := idl) (may := mayF E w) (who := whoF E idl kn w) hw (cnt E) 0 N 0 kn co 0 st ca fw fd (by omega) (by omega) (fun j _ h2 => who_gb hE (by omega)) hF
  rw [Int32.add_zero, Int32.zero_add] at h1
  have hkb := csR_kb (E := E) (w := w) (may := mayF E w) (who := whoF E idl kn w) hc (cnt E) 0 (0, kn, co, st, ca, fw, fd) (by omega) hkn
  have hfw := csR_fw (E := E) (may := mayF E w) (who := whoF E idl kn w) hw (cnt E) 0 N (0, kn, co, st, ca, fw, fd) (by omega) hF
  have hg : ∀ j, j < cnt E → gb idl j = true → gb (csR E w (mayF E w) (whoF E idl kn w) (cnt E) 0 (0, kn, co, st, ca, fw, fd)).2.1 j = gb kn j := fun j hj h2 => csR_gb (by omega) (by rw [who_gb hE hj, h2]; simp) (cnt E) 0 _ (by omega)
  generalize csR E w (mayF E w) (whoF E idl kn w) (cnt E) 0 (0, kn, co, st, ca, fw, fd) = C at h1 hkb hfw hg ⊢
  obtain ⟨had', kn', co', st', ca', fw', fd'⟩ := C
  dsimp only at h1 hkb hfw hg ⊢
  obtain ⟨m, hm, em⟩ : kb (cnt E) (cbF E w &&& idl &&& kn') := by
    rw [Int32.and_assoc, Int32.and_comm]
    exact kb_and _ (kb_and _ hid)
  have hm10 : m < 1024 := Nat.lt_of_lt_of_le hm (Nat.le_trans (Nat.pow_le_pow_right (by decide) hc) (by decide))
  have e1 : cfR (nkB E idl kn w) (cnt E) 0 0 = nI (onesN m) := by
    rw [ones_f (cnt E) hc m hm]
    refine cfR_cg (cnt E) 0 0 (fun j _ h2 => ?_)
    have hj : j < cnt E := by omega
    show nkB E idl kn w j = gb (nI m) j
    rw [← em, gb_and, gb_and, cbF_gb hE w hj]
    unfold nkB
    rw [Bool.and_assoc]
    cases hi : gb idl j with
    | false => simp
    | true => rw [hg j hj hi]
  have e2 : wkF E idl w (had, kn, co, st, ca, fw, fd) = (had', kn', co' + nI (onesN m), st', ca', fw', fd') := by
    unfold wkF
    show wkRun E idl w (mayF E w) (cnt E) 0 (0, kn, co, st, ca, fw, fd) = _
    rw [h1, e1]
  refine ⟨m, hm10, em, by rw [e2], ?_, by rw [e2]; exact hkb⟩
  rw [e2]
  obtain ⟨s, s1, s2, s3⟩ := hfw
  exact ⟨s, by omega, s2, s3⟩
/-! COSTS stay small, and are none below 0 -/
def Sm (M : Nat) (x : Int32) : Prop := ∃ c, c ≤ M ∧ x = nI c
theorem step_b {E : It} (hE : Inv E) {idl may : Int32} {w i M : Nat} {a : WS} (hi : i < cnt E) (h : Sm M a.2.2.1) : Sm (M + 1100) (wkStep E idl w may i a).2.2.1 := by
  obtain ⟨had, kn, co, st, ca, fw, fd⟩ := a
  obtain ⟨c, hc, ec⟩ := h
  replace ec : co = nI c := ec
  subst ec
  obtain ⟨x, hx, ex⟩ := dear_b hE hi (nI w)
  unfold wkStep
  dsimp only
  split
  · exact ⟨c, by omega, rfl⟩
  · split
    · dsimp only
      split
      · exact ⟨c + 1, by omega, nI_1 c⟩
      · exact ⟨c, by omega, Int32.add_zero _⟩
    · split
      · exact ⟨c, by omega, rfl⟩
      · split
        · exact ⟨c + 1, by omega, nI_1 c⟩
        · exact ⟨c + x, by omega, by dsimp only; rw [ex, nI_add]⟩
theorem run_b {E : It} (hE : Inv E) {idl may : Int32} {w : Nat} : ∀ (k i M : Nat) (a : WS), i + k ≤ cnt E → Sm M a.2.2.1 → Sm (M + 1100 * k) (wkRun E idl w may k i a).2.2.1 := by
  intro k
  induction k with
  | zero => intro i M a _ h; exact h
  | succ k ih =>
    intro i M a hk h
    rw [wkRun_s]
    have := ih (i + 1) (M + 1100) _ (by omega) (step_b hE (idl := idl) (may := may) (w := w) (i := i) (by omega) h)
    obtain ⟨c, h1, h2⟩ := this
    exact ⟨c, by omega, h2⟩
theorem wks_b {E : It} (hE : Inv E) {idl : Int32} : ∀ (k w M : Nat) (a : WS), Sm M a.2.2.1 → Sm (M + 11000 * k) (wksF E idl k w a).2.2.1 := by
  intro k
  induction k with
  | zero => intro w M a h; exact h
  | succ k ih =>
    intro w M a h
    rw [wksF_s]
    have hc := (inv_cnt hE).2
    have h1 : Sm (M + 1100 * cnt E) (wkF E idl w a).2.2.1 := by
      obtain ⟨had, r⟩ := a
      exact run_b hE (cnt E) 0 M (0, r) (by omega) h
    obtain ⟨c, c1, c2⟩ := h1
    obtain ⟨c', d1, d2⟩ := ih (w + 1) (M + 11000) _ ⟨c, by omega, c2⟩
    exact ⟨c', by omega, d2⟩
theorem cost_b {E : It} (hE : Inv E) {kn idl : Int32} {n : Nat} (hn : n ≤ 200) : ∃ c, c ≤ 2200000 ∧ costF E kn idl n = nI c := by
  obtain ⟨c, c1, c2⟩ := wks_b hE (idl := idl) n (wk E) 0 (0, kn, 0, 0, 0, -5, -5) ⟨0, Nat.le_refl _, rfl⟩
  exact ⟨c, by omega, c2⟩
end
section
/-! what is looked at, what is heard: the class's scratch against the picture -/
def DM (E J : It) : Prop := ∀ d, d < cnt E → ∀ r, r < 60 → J 15 (d * 60 + r) = -1 ∨ J 15 (d * 60 + r) = dearF E d (nI r)
theorem DM.o {E J K : It} (h : DM E J) (e : K 15 = J 15) : DM E K := fun d hd r hr => by rw [e]; exact h d hd r hr
/-- dear laid for the first d of a set, from world I on -/
def LD (E : It) (u : Int32) (x d : Nat) (I J : It) : Prop := (∀ a, a ≠ 15 → J a = I a) ∧ DM E J ∧ (∀ q, q < d → q < cnt E → gb u q = true → J 15 (q * 60 + x % 60) = dearF E q (nI (x % 60))) ∧ ∀ q r, q < cnt E → r < 60 → I 15 (q * 60 + r) = dearF E q (nI r) → J 15 (q * 60 + r) = dearF E q (nI r)
theorem LD.a {E I J : It} {u : Int32} {x d : Nat} (h : LD E u x d I J) (hu : gb u d = false) : LD E u x (d + 1) I J := by
  refine ⟨h.1, h.2.1, fun q hq hc hg => ?_, h.2.2.2⟩
  by_cases e : q = d
  · subst e; rw [hu] at hg; exact absurd hg (by decide)
  · exact h.2.2.1 q (by omega) hc hg
theorem LD.b {E I J : It} {u : Int32} {x d : Nat} (h : LD E u x d I J) (hd : d < cnt E) (hv : 0 ≤ J 15 (d * 60 + x % 60)) : LD E u x (d + 1) I J := by
  refine ⟨h.1, h.2.1, fun q hq hc hg => ?_, h.2.2.2⟩
  by_cases e : q = d
  · subst e
    rcases h.2.1 q hd (x % 60) (Nat.mod_lt _ (by decide)) with z | z
    · rw [z] at hv; exact absurd hv (by decide)
    · exact z
  · exact h.2.2.1 q (by omega) hc hg
theorem LD.c {E I J : It} {u : Int32} {x d : Nat} (h : LD E u x d I J) : LD E u x (d + 1) I (upI J 15 (d * 60 + x % 60) (dearF E d (nI (x % 60)))) := by
  have hm := Nat.mod_lt x (show 0 < 60 by decide)
  have key : ∀ q r, r < 60 → (q * 60 + r = d * 60 + x % 60) → q = d ∧ r = x % 60 := fun q r h1 h2 => by omega
  refine ⟨fun a ha => (upI_off ha).trans (h.1 a ha), fun q hq r hr => ?_, fun q hq hc hg => ?_, fun q r hq hr hI => ?_⟩
  · by_cases e : q * 60 + r = d * 60 + x % 60
    · obtain ⟨e1, e2⟩ := key q r hr e
      subst e1; subst e2
      exact Or.inr (up0 _ _ _ _)
    · rw [upn (fun z => e z.2)]; exact h.2.1 q hq r hr
  · by_cases e : q = d
    · subst e; exact up0 _ _ _ _
    · rw [upn (fun z => e (key q _ hm z.2).1)]; exact h.2.2.1 q (by omega) hc hg
  · by_cases e : q * 60 + r = d * 60 + x % 60
    · obtain ⟨e1, e2⟩ := key q r hr e
      subst e1; subst e2
      exact up0 _ _ _ _
    · rw [upn (fun z => e z.2)]; exact h.2.2.2 q r hq hr hI
/-- m weeks are looked at -/
def AH (E J : It) (m : Nat) : Prop := (∀ o, o < m → J 14 o = cbF E (wk E + o)) ∧ ∀ o d, o < m → d < cnt E → comesF E d (wk E + o) → J 15 (d * 60 + (wk E + o) % 60) = dearF E d (nI ((wk E + o) % 60))
theorem AH.o {E J K : It} {m : Nat} (h : AH E J m) (e1 : K 14 = J 14) (e2 : K 15 = J 15) : AH E K m := by unfold AH; rw [e1, e2]; exact h
theorem AH.p2 {E J K : It} {m : Nat} (h : AH E J m) (hP : P2 J K) : AH E K m := h.o (hP.1 14 (by decide) (by decide)) (hP.1 15 (by decide) (by decide))
theorem AH.z (E J : It) : AH E J 0 := ⟨fun o ho => absurd ho (Nat.not_lt_zero o), fun o d ho => absurd ho (Nat.not_lt_zero o)⟩
theorem AH.s {E J K K2 : It} {m : Nat} (hE : Inv E) (h : AH E J m) (eK : K = upI J 14 m (cbF E (wk E + m))) (hL : LD E (cbF E (wk E + m)) (wk E + m) (cnt E) K K2) : AH E K2 (m + 1) := by
  have hc := (inv_cnt hE).2
  have e14 : K2 14 = K 14 := hL.1 14 (by decide)
  refine ⟨fun o ho => ?_, fun o d ho hd hcm => ?_⟩
  · rw [e14, eK]
    by_cases e : o = m
    · subst e; exact up0 _ _ _ _
    · rw [upn (fun z => e z.2)]; exact h.1 o (by omega)
  · by_cases e : o = m
    · subst e
      refine hL.2.2.1 d hd hd ?_
      rw [cbF_gb hE _ hd]
      exact @decide_eq_true _ (dcC E d (wk E + o)) hcm
    · refine hL.2.2.2 d _ hd (Nat.mod_lt _ (by decide)) ?_
      rw [eK]
      exact (upn (fun z => absurd z.1 (by decide))).trans (h.2 o d (by omega) hd hcm)
theorem AH.d {E J : It} {m o d : Nat} (hE : Inv E) (h : AH E J m) (ho : o < m) (hm : m ≤ 200) (hd : d < cnt E) {idl kn : Int32} (hg : gb (whoF E idl kn (wk E + o)) d = true) : J 15 (d * 60 + (wk E + o) % 60) = dearF E d (nI (wk E + o)) := by
  have hw := (inv_wk hE).2
  rw [dear_60 (by omega)]
  refine h.2 o d ho hd ?_
  rw [who_gb hE hd] at hg
  by_cases z : comesF E d (wk E + o)
  · exact z
  · rw [@decide_eq_false _ (dcC E d (wk E + o)) z] at hg; exact absurd hg (by simp)
/-- SAID of each by each way -/
def HD (E J : It) : Prop := ∀ d, d < cnt E → ∀ y, y < 4 → J (17 + d) y = sayF E d (nI y)
theorem HD.o {E J K : It} (h : HD E J) (e : ∀ a, 17 ≤ a → a < 27 → K a = J a) (hE : Inv E) : HD E K := fun d hd y hy => by
  have := (inv_cnt hE).2
  rw [e _ (by omega) (by omega)]; exact h d hd y hy
theorem svA_e {E : It} {by_ hr : Nat → Int32} {d : Nat} (h : ∀ y, y < 4 → by_ y = sayF E d (nI y)) : ∀ (k y : Nat) (z : Int32), y + k ≤ 4 → svA by_ hr k y z = allR E hr d k y z := by
  intro k
  induction k with
  | zero => intro y z _; rfl
  | succ k ih => intro y z hk; rw [svA_s, allR_s, h y (by omega)]; exact ih (y + 1) _ (by omega)
theorem sv_e {E : It} {by_ hr : Nat → Int32} {d : Nat} (hE : Inv E) (hd : d < cnt E) (h : ∀ y, y < 4 → by_ y = sayF E d (nI y)) : svC (kcl (E 1 d)) (E 2 d) by_ hr = saidF E hr d := by
  obtain ⟨⟨x, hx, ex⟩, -⟩ := inv_d hE hd
  have h0 : svA by_ hr 4 0 0 = allF E hr d 0 := svA_e h 4 0 0 (by decide)
  have h2 : hr 2 * by_ 2 + hr 3 * by_ 3 = allF E hr d 2 := by
    rw [h 2 (by decide), h 3 (by decide)]
    show _ = 0 + hr 2 * sayF E d (nI 2) + hr 3 * sayF E d (nI 3)
    rw [Int32.zero_add]
  unfold saidF
  rw [ex]
  rcases (by omega : x = 0 ∨ x = 1 ∨ x = 2 ∨ x = 3 ∨ x = 4 ∨ x = 5 ∨ x = 6) with rfl | rfl | rfl | rfl | rfl | rfl | rfl
  · rw [show kcl (nI 0) = 1 by decide, svC_1, h0]; rfl
  · rw [show kcl (nI 1) = 9 by decide, svC_9, h0]; rfl
  · rw [show kcl (nI 2) = 2 by decide, svC_2, h2]; rfl
  · rw [show kcl (nI 3) = 4 by decide, svC_4, h0]; rfl
  · rw [show kcl (nI 4) = 8 by decide, svC_8, h0]; rfl
  · rw [show kcl (nI 5) = 6 by decide, svC_6, h2]; rfl
  · rw [show kcl (nI 6) = 10 by decide, svC_10, h0]; rfl
/-! the numbers of a pass -/
def TA6 (J : It) (idl : Int32) (a : WS) : Prop := match a with
  | (had, kn, co, st, ca, fw, fd) => J 13 6 = idl ∧ J 13 8 = had ∧ J 13 9 = kn ∧ J 13 7 = co ∧ J 13 10 = st ∧ J 13 11 = ca ∧ J 13 12 = fw ∧ J 13 13 = fd
def TAx (J : It) (idl : Int32) (a : WS) : Prop := match a with
  | (_, kn, co, st, ca, fw, fd) => J 13 6 = idl ∧ J 13 9 = kn ∧ J 13 7 = co ∧ J 13 10 = st ∧ J 13 11 = ca ∧ J 13 12 = fw ∧ J 13 13 = fd
theorem TA6.x {J : It} {idl : Int32} {a : WS} (h : TA6 J idl a) : TAx J idl a := by
  obtain ⟨had, kn, co, st, ca, fw, fd⟩ := a
  exact ⟨h.1, h.2.2⟩
theorem TAx.e {J : It} {idl : Int32} {a b : WS} (h : TAx J idl a) (e : a.2 = b.2) : TAx J idl b := by
  obtain ⟨had, r⟩ := a
  obtain ⟨had2, r2⟩ := b
  replace e : r = r2 := e
  subst e
  exact h
theorem TAx.all {J : It} {idl : Int32} {a : WS} (h : TAx J idl a) : J 13 9 = a.2.1 ∧ J 13 7 = a.2.2.1 ∧ J 13 10 = a.2.2.2.1 ∧ J 13 11 = a.2.2.2.2.1 ∧ J 13 12 = a.2.2.2.2.2.1 ∧ J 13 13 = a.2.2.2.2.2.2 := by
  obtain ⟨had, kn, co, st, ca, fw, fd⟩ := a
  exact h.2
theorem TAx.start {J : It} {idl had kn co st ca fw fd : Int32} (h : TAx J idl (had, kn, co, st, ca, fw, fd)) : TA6 (upI J 13 8 0) idl (0, kn, co, st, ca, fw, fd) := by
  obtain ⟨h1, h2, h3, h4, h5, h6, h7⟩ := h
  exact ⟨h1, rfl, h2, h3, h4, h5, h6, h7⟩
theorem TAx.u27 {J : It} {idl x : Int32} {j : Nat} {a : WS} (h : TAx J idl a) : TAx (upI J 27 j x) idl a := by
  obtain ⟨had, kn, co, st, ca, fw, fd⟩ := a
  exact h
theorem kl_t {E : It} {d : Nat} (h : learnsF E d) : klV E d = 1 := @if_pos _ (dcL E d) h _ _ _
theorem kl_f {E : It} {d : Nat} (h : ¬ learnsF E d) : klV E d = 0 := @if_neg _ (dcL E d) h _ _ _
theorem kc_e {E : It} (hE : Inv E) {d : Nat} (hd : d < cnt E) : kbC (kcl (E 1 d)) = kcV E d ∧ kbS (kcl (E 1 d)) (E 2 d) = klV E d := by
  obtain ⟨⟨x, hx, ex⟩, -⟩ := inv_d hE hd
  have hx7 : x = 0 ∨ x = 1 ∨ x = 2 ∨ x = 3 ∨ x = 4 ∨ x = 5 ∨ x = 6 := by omega
  have l1 : learnsF E d ↔ (((nI x = 3 ∨ nI x = 6) ∧ E 2 d = 0) ∨ ((nI x = 2 ∨ nI x = 5) ∧ 4 < E 2 d)) := by unfold learnsF; rw [ex]
  refine ⟨?_, ?_⟩
  · unfold kcV; rw [ex]
    rcases hx7 with rfl | rfl | rfl | rfl | rfl | rfl | rfl <;> decide
  · rw [ex]
    have non : (x ≠ 2 ∧ x ≠ 3 ∧ x ≠ 5 ∧ x ≠ 6) → klV E d = 0 := fun q => kl_f (fun z => by
      rcases l1.mp z with ⟨z | z, -⟩ | ⟨z | z, -⟩
      · exact q.2.1 ((nI_eq (b := 3) (by omega) (by decide)).mp z)
      · exact q.2.2.2 ((nI_eq (b := 6) (by omega) (by decide)).mp z)
      · exact q.1 ((nI_eq (b := 2) (by omega) (by decide)).mp z)
      · exact q.2.2.1 ((nI_eq (b := 5) (by omega) (by decide)).mp z))
    have p4 : (x = 2 ∨ x = 5) → klV E d = bI (4 < E 2 d) := fun q => by
      by_cases z : 4 < E 2 d
      · rw [bI_t z]; exact kl_t (l1.mpr (Or.inr ⟨by rcases q with rfl | rfl <;> decide, z⟩))
      · rw [bI_f z]
        refine kl_f (fun y => ?_)
        rcases l1.mp y with ⟨y1, -⟩ | ⟨-, y⟩
        · rcases q with rfl | rfl <;> exact absurd y1 (by decide)
        · exact z y
    have r0 : (x = 3 ∨ x = 6) → klV E d = bI (E 2 d = 0) := fun q => by
      by_cases z : E 2 d = 0
      · rw [bI_t z]; exact kl_t (l1.mpr (Or.inl ⟨by rcases q with rfl | rfl <;> decide, z⟩))
      · rw [bI_f z]
        refine kl_f (fun y => ?_)
        rcases l1.mp y with ⟨-, y⟩ | ⟨y1, -⟩
        · exact z y
        · rcases q with rfl | rfl <;> exact absurd y1 (by decide)
    rcases hx7 with h | h | h | h | h | h | h
    · rw [non (by omega), h]; rfl
    · rw [non (by omega), h]; rfl
    · rw [p4 (by omega), h]; rfl
    · rw [r0 (by omega), h]; rfl
    · rw [non (by omega), h]; rfl
    · rw [p4 (by omega), h]; rfl
    · rw [r0 (by omega), h]; rfl
/-! ASK and DROP; the best SPLIT -/
theorem cost_lt {E : It} (hE : Inv E) {kn idl : Int32} {n : Nat} (hn : n ≤ 200) : costF E kn idl n < 2147483647 ∧ ¬ costF E kn idl n < 0 := by
  obtain ⟨c, h1, h2⟩ := cost_b hE (kn := kn) (idl := idl) hn
  rw [h2]
  exact ⟨nI_lt (b := 2147483647) (by omega) (by decide), nI_pos (by omega)⟩
/-- the class's least: the greatest int stands for none -/
def lsI (f l ls : Int32) : Prop := (f < 0 ∧ l = 2147483647) ∨ (¬ f < 0 ∧ l = ls)
theorem with_1 (s : Int32) (d : Nat) : withI s (nI d) 1 = s ||| bitI (nI d) := by unfold withI; rw [if_neg (by decide)]
theorem has_n (s : Int32) {d : Nat} (hd : d < 32) : (hasI (s ^^^ (-1)) (nI d) = 0) ↔ hasI s (nI d) = 1 := by
  rw [has_0 _ hd, has_1 _ hd, gb_not _ hd]
  cases gb s d <;> decide
/-- one pick -/
theorem pick_1 {E : It} {n : Nat} {has co : Nat → Int32} {k i : Nat} {f l ls : Int32} (h : lsI f l ls) (hco : co i < 2147483647) (hh : ¬ has i = 1) : pickR E n has co (k + 1) i f ls = (if co i < l then pickR E n has co k (i + 1) (nI i) (co i) else pickR E n has co k (i + 1) f ls) := by
  rw [pickR_s, if_neg hh]
  rcases h with ⟨h1, rfl⟩ | ⟨h1, rfl⟩
  · rw [if_pos h1, if_pos hco]
  · rw [if_neg h1]
def spStep (co : Nat → Int32) (b : Nat → Nat → Int32) (s : Int32 × (Nat → Int32)) (c : Nat) : Int32 × (Nat → Int32) := if s.1 < 0 then (co c, b c) else if co c < s.1 then (co c, b c) else s
def spL (h : Nat) : Nat → Nat → List Nat := fun k => match k with
  | 0 => fun _ => []
  | k + 1 => fun c => if h < c / 100 + c / 10 % 10 + c % 10 then spL h k (c + 1) else c :: spL h k (c + 1)
theorem spL_s (h k c : Nat) : spL h (k + 1) c = if h < c / 100 + c / 10 % 10 + c % 10 then spL h k (c + 1) else c :: spL h k (c + 1) := rfl
theorem spR_L {E : It} {h n : Nat} : ∀ (k c : Nat) (l : Int32) (b : Nat → Int32), spR E h n k c l b = (spL h k c).foldl (spStep (fun c => hcF E (spC h c) n) (spC h)) (l, b) := by
  intro k
  induction k with
  | zero => intro c l b; rfl
  | succ k ih =>
    intro c l b
    rw [spR_s, spL_s]
    by_cases e : h < c / 100 + c / 10 % 10 + c % 10
    · rw [if_pos e, if_pos e]; exact ih _ _ _
    · rw [if_neg e, if_neg e, List.foldl_cons]
      unfold spStep
      by_cases e1 : l < 0
      · rw [if_pos e1]
        show _ = List.foldl _ (if l < 0 then _ else _) _
        rw [if_pos e1]; exact ih _ _ _
      · rw [if_neg e1]
        show _ = List.foldl _ (if l < 0 then _ else if _ < l then _ else _) _
        rw [if_neg e1]
        by_cases e2 : hcF E (spC h c) n < l
        · rw [if_pos e2, if_pos e2]; exact ih _ _ _
        · rw [if_neg e2, if_neg e2]; exact ih _ _ _
/-- the class's step, a code for three numbers -/
def bsStep (co : Nat → Int32) (b : Nat → Nat → Int32) (s : Int32 × (Nat → Int32)) (c : Nat) : Int32 × (Nat → Int32) := if co c < s.1 then (co c, b c) else s
def bsLC (hh a b : Nat) : Nat → Nat → List Nat := fun k => match k with
  | 0 => fun _ => []
  | k + 1 => fun c => (100 * a + 10 * b + c) :: bsLC hh a b k (c + 1)
def bsLB (hh a : Nat) : Nat → Nat → List Nat := fun k => match k with
  | 0 => fun _ => []
  | k + 1 => fun b => bsLC hh a b (hh - a - b + 1) 0 ++ bsLB hh a k (b + 1)
def bsLA (hh : Nat) : Nat → Nat → List Nat := fun k => match k with
  | 0 => fun _ => []
  | k + 1 => fun a => bsLB hh a (hh - a + 1) 0 ++ bsLA hh k (a + 1)
set_option maxRecDepth 100000 in
theorem bs_L : ∀ hh, hh ≤ 9 → bsLA hh (hh + 1) 0 = spL hh 1000 0 := by decide +kernel
theorem cod3 {a b c : Nat} (ha : a ≤ 9) (hb : b ≤ 9) (hc : c ≤ 9) : (100 * a + 10 * b + c) / 100 = a ∧ (100 * a + 10 * b + c) / 10 % 10 = b ∧ (100 * a + 10 * b + c) % 10 = c := by omega
theorem bsC_L {F : (Nat → Int32) → Int32} {hh a b : Nat} (hh9 : hh ≤ 9) (hab : a + b ≤ hh) : ∀ (k c : Nat) (s : Int32 × (Nat → Int32)), c + k = hh - a - b + 1 → bsC (fun a b c e => F (h4 a b c e)) hh a b k c s = (bsLC hh a b k c).foldl (bsStep (fun c => F (spC hh c)) (spC hh)) s := by
  intro k
  induction k with
  | zero => intro c s _; rfl
  | succ k ih =>
    intro c s hk
    obtain ⟨e1, e2, e3⟩ := cod3 (a := a) (b := b) (c := c) (by omega) (by omega) (by omega)
    have e : spC hh (100 * a + 10 * b + c) = h4 a b c (hh - a - b - c) := by
      unfold spC
      rw [e1, e2, e3, show hh - (a + b + c) = hh - a - b - c by omega]
    have h2 : bsStep (fun c => F (spC hh c)) (spC hh) s (100 * a + 10 * b + c) = (if F (h4 a b c (hh - a - b - c)) < s.1 then (F (h4 a b c (hh - a - b - c)), h4 a b c (hh - a - b - c)) else s) := by
      show (if F (spC hh (100 * a + 10 * b + c)) < s.1 then (F (spC hh (100 * a + 10 * b + c)), spC hh (100 * a + 10 * b + c)) else s) = _
      rw [e]
    rw [bsC_s]
    show _ = List.foldl _ (bsStep _ _ s (100 * a + 10 * b + c)) (bsLC hh a b k (c + 1))
    rw [h2]
    exact ih (c + 1) _ (by omega)
theorem bsB_L {F : (Nat → Int32) → Int32} {hh a : Nat} (hh9 : hh ≤ 9) (ha : a ≤ hh) : ∀ (k b : Nat) (s : Int32 × (Nat → Int32)), b + k = hh - a + 1 → bsB (fun a b c e => F (h4 a b c e)) hh a k b s = (bsLB hh a k b).foldl (bsStep (fun c => F (spC hh c)) (spC hh)) s := by
  intro k
  induction k with
  | zero => intro b s _; rfl
  | succ k ih =>
    intro b s hk
    rw [bsB_s, bsC_L hh9 (by omega) _ 0 s (by omega)]
    show _ = List.foldl _ s (bsLC hh a b (hh - a - b + 1) 0 ++ bsLB hh a k (b + 1))
    rw [List.foldl_append]
    exact ih (b + 1) _ (by omega)
theorem bsA_L {F : (Nat → Int32) → Int32} {hh : Nat} (hh9 : hh ≤ 9) : ∀ (k a : Nat) (s : Int32 × (Nat → Int32)), a + k = hh + 1 → bsA (fun a b c e => F (h4 a b c e)) hh k a s = (bsLA hh k a).foldl (bsStep (fun c => F (spC hh c)) (spC hh)) s := by
  intro k
  induction k with
  | zero => intro a s _; rfl
  | succ k ih =>
    intro a s hk
    rw [bsA_s, bsB_L hh9 (by omega) _ 0 s (by omega)]
    show _ = List.foldl _ s (bsLB hh a (hh - a + 1) 0 ++ bsLA hh k (a + 1))
    rw [List.foldl_append]
    exact ih (a + 1) _ (by omega)
/-- both folds go alike -/
theorem two_M {co : Nat → Int32} {b : Nat → Nat → Int32} (h2 : ∀ c, ¬ co c < 0) : ∀ (l : List Nat) (s : Int32 × (Nat → Int32)), ¬ s.1 < 0 → l.foldl (bsStep co b) s = l.foldl (spStep co b) s := by
  intro l
  induction l with
  | nil => intro s _; rw [List.foldl_nil, List.foldl_nil]
  | cons c r ih =>
    intro s h
    have e : bsStep co b s c = spStep co b s c := by unfold bsStep spStep; rw [if_neg h]
    have e2 : ¬ (spStep co b s c).1 < 0 := by
      unfold spStep
      rw [if_neg h]
      by_cases z : co c < s.1
      · rw [if_pos z]; exact h2 c
      · rw [if_neg z]; exact h
    rw [List.foldl_cons, List.foldl_cons, e]
    exact ih _ e2
theorem two_L {co : Nat → Int32} {b : Nat → Nat → Int32} {M : Int32} (h1 : ∀ c, co c < M) (h2 : ∀ c, ¬ co c < 0) {l : List Nat} (hl : l ≠ []) {s : Int32 × (Nat → Int32)} (hs : s.1 < 0) (b0 : Nat → Int32) : l.foldl (bsStep co b) (M, b0) = l.foldl (spStep co b) s := by
  obtain ⟨c, r, rfl⟩ := List.exists_cons_of_ne_nil hl
  have e : bsStep co b (M, b0) c = (co c, b c) := if_pos (h1 c)
  have e2 : spStep co b s c = (co c, b c) := if_pos hs
  rw [List.foldl_cons, List.foldl_cons, e, e2]
  exact two_M h2 r (co c, b c) (h2 c)
theorem spl_ne : ∀ hh, hh ≤ 9 → spL hh 1000 0 ≠ [] := by
  intro hh _ h
  rw [show (1000 : Nat) = 999 + 1 from rfl, spL_s, if_neg (by omega)] at h
  exact absurd h (List.cons_ne_nil _ _)
theorem bs_sp {E : It} (hE : Inv E) {hh n : Nat} (hh9 : hh ≤ 9) (hn : n ≤ 200) (b0 : Nat → Int32) : bsA (fun a b c e => hcF E (h4 a b c e) n) hh (hh + 1) 0 (2147483647, b0) = spF E hh n := by
  unfold spF
  rw [spR_L, bsA_L (F := fun hr => hcF E hr n) hh9 (hh + 1) 0 _ (Nat.zero_add _), bs_L hh hh9]
  exact two_L (fun c => (cost_lt hE hn).1) (fun c => (cost_lt hE hn).2) (spl_ne hh hh9) (by decide) b0
end
section
set_option maxRecDepth 8000 in
set_option maxHeartbeats 4000000 in
theorem e_lookDear {G : Gt} (hG : Gok G) {I : It} {h : Ht}  {E : It} {L : Nat → Int64} (hE : Inv E) (hZ : RZ E L I h) {u : Int32} {x : Nat} (hx : x ≤ 20000) (hDM : DM E I) : Con G (6) 0 0 mX0_lookDear [.ref 13, .int u, .int (nI x)] I h (qV (fun J h2 => LD E u x (cnt E) I J ∧ h2 = h)) := by
  refine con_intro (own := RX0) (lo0 := [some (.ref 13), some (.int u), some (.int (nI x)), none, none, none]) hG rfl pl_X0 (Nat.le_of_ble_eq_true rfl) rfl (fun X hX => ?_)
  have hW := hZ.1.wx hE
  have hH := hW.1
  have hc10 := (inv_cnt hE).2
  have hw9 := (inv_wk hE).2
  have loop2 : ∀ (k d : Nat) (J : It), d + k = cnt E → LD E u x d I J → GG G (6) 0 0 X (qV (fun J h2 => LD E u x (cnt E) I J ∧ h2 = h)) 2 [some (.ref 13), some (.int u), some (.int (nI x)), some (.int (nI d)), none, none] [] (J) (h) 0 0 := by
    intro k
    induction k using Nat.strongRecOn with | _ k ih => ?_
    intro d J hk hL
    have hS : Sc I J := Sc.of1 hL.1 (by decide)
    have hZJ := hZ.sc hE hS
    have hWJ := hZJ.1.wx hE
    refine g_iload_3 hX (dk DX0_lookDear 2 rfl) ?_
    refine g_aload_0 hX (dk DX0_lookDear 3 rfl) ?_
    refine g_getRs (r := 1) hX (dk DX0_lookDear 4 rfl) KX0 fX0_34 (by decide) rfl (CLt hH (q := 13) (by decide)) (CC hH 13 (by decide) rfl) (CR hH 13 0 1 (by decide)) ?_
    refine g_getIv hX (dk DX0_lookDear 5 rfl) KX5 fX0_69 (by decide) rfl (CLt hH (q := 1) (by decide)) (CC hH 1 (by decide) rfl) (hZJ.1.2.1.1.1.trans (inv_cnt hE).1) ?_
    refine g_icmp_ge (tgt := 76) hX (dk DX0_lookDear 6 rfl) (by decide) (fun hc1 => ?_) (fun hc1 => ?_)
    · refine g_return hX (dk DX0_lookDear 38 rfl) rfl (by decide) (by decide) ?_
      have hk0 := cl_end hk (by omega) hc1
      subst hk0
      exact qV_of ⟨by rw [show cnt E = d by omega]; exact hL, rfl⟩
    · obtain ⟨k, rfl⟩ := cl_go hk (by omega) hc1
      have hd : d < cnt E := by omega
      obtain ⟨g1, g2, g3, g4, g5, g6, g7, g8, g9, g10⟩ := hZJ.1.d hd
      refine g_iload_3 hX (dk DX0_lookDear 7 rfl) ?_
      refine g_iload_2 hX (dk DX0_lookDear 8 rfl) ?_
      refine g_c2I hX sX0_lookDear_15 (by decide) (Nat.le_of_ble_eq_true rfl) rcN (by decide) (by decide) (c_X0_dearCell hG) ?_
      refine g_nmI (nI (d * 60 + x % 60)) (dcell (by omega)) ?_
      refine g_istore_4 hX (dk DX0_lookDear 10 rfl) (by decide) rfl ?_
      refine g_aload_0 hX (dk DX0_lookDear 11 rfl) ?_
      refine g_getRs (r := 1) hX (dk DX0_lookDear 12 rfl) KX0 fX0_34 (by decide) rfl (CLt hH (q := 13) (by decide)) (CC hH 13 (by decide) rfl) (CR hH 13 0 1 (by decide)) ?_
      refine g_iload_3 hX (dk DX0_lookDear 13 rfl) ?_
      refine g_c2R hX sX0_lookDear_25 (by decide) (Nat.le_of_ble_eq_true rfl) (rc0 rfl (CLt hH (by decide)) (CC hH 1 (by decide) rfl)) (by decide) (by decide) (c_X5_find hG hWJ (by rw [hZJ.1.cn]; exact hd)) ?_
      refine g_astore_5 hX (dk DX0_lookDear 15 rfl) (by decide) rfl ?_
      refine g_aload_5 hX (dk DX0_lookDear 16 rfl) ?_
      refine g_ifnullR hX (dk DX0_lookDear 17 rfl) ?_
      refine g_iload_1 hX (dk DX0_lookDear 18 rfl) ?_
      refine g_iload_3 hX (dk DX0_lookDear 19 rfl) ?_
      refine g_c2I hX sX0_lookDear_37 (by decide) (Nat.le_of_ble_eq_true rfl) rcN (by decide) (by decide) (c_X11_bit hG) ?_
      refine g_if_eq (tgt := 70) hX (dk DX0_lookDear 21 rfl) (by decide) (fun hc2 => ?_) (fun hc2 => ?_)
      · refine g_iinc_3 hX (dk DX0_lookDear 36 rfl) (nI_1 d) (by decide) rfl ?_
        refine g_goto (tgt := 2) hX (dk DX0_lookDear 37 rfl) (by decide) ?_
        first
        | exact g_fgt (ih k (by omega) (d + 1) _ (by omega) (hL.a ((has_0 u (by omega)).mp (by assumption)))) ⟨rfl, rfl, rfl, rfl, trivial⟩
        | exact g_fgt (ih k (by omega) (d + 1) _ (by omega) (hL.b hd (by assumption))) ⟨rfl, rfl, rfl, rfl, trivial⟩
        | exact g_fgt (ih k (by omega) (d + 1) _ (by omega) hL.c) ⟨rfl, rfl, rfl, rfl, trivial⟩
      · refine g_aload_0 hX (dk DX0_lookDear 22 rfl) ?_
        refine g_getRs (r := 15) hX (dk DX0_lookDear 23 rfl) KX0 fX0_17 (by decide) rfl (CLt hH (q := 13) (by decide)) (CC hH 13 (by decide) rfl) (CR hH 13 3 15 (by decide)) ?_
        refine g_iload_4 hX (dk DX0_lookDear 24 rfl) ?_
        refine i_iaload hX (dk DX0_lookDear 25 rfl) (CLt hH (q := 15) (by decide)) (CS hH 15 (by decide) rfl) (⟨rfl, dcell_lt (by omega), by decide⟩) ?_
        refine g_if_ge (tgt := 70) hX (dk DX0_lookDear 26 rfl) (by decide) (fun hc3 => ?_) (fun hc3 => ?_)
        · refine g_iinc_3 hX (dk DX0_lookDear 36 rfl) (nI_1 d) (by decide) rfl ?_
          refine g_goto (tgt := 2) hX (dk DX0_lookDear 37 rfl) (by decide) ?_
          first
          | exact g_fgt (ih k (by omega) (d + 1) _ (by omega) (hL.a ((has_0 u (by omega)).mp (by assumption)))) ⟨rfl, rfl, rfl, rfl, trivial⟩
          | exact g_fgt (ih k (by omega) (d + 1) _ (by omega) (hL.b hd (by assumption))) ⟨rfl, rfl, rfl, rfl, trivial⟩
          | exact g_fgt (ih k (by omega) (d + 1) _ (by omega) hL.c) ⟨rfl, rfl, rfl, rfl, trivial⟩
        · refine g_aload_0 hX (dk DX0_lookDear 27 rfl) ?_
          refine g_getRs (r := 15) hX (dk DX0_lookDear 28 rfl) KX0 fX0_17 (by decide) rfl (CLt hH (q := 13) (by decide)) (CC hH 13 (by decide) rfl) (CR hH 13 3 15 (by decide)) ?_
          refine g_iload_4 hX (dk DX0_lookDear 29 rfl) ?_
          refine g_aload_0 hX (dk DX0_lookDear 30 rfl) ?_
          refine g_getRs (r := 1) hX (dk DX0_lookDear 31 rfl) KX0 fX0_34 (by decide) rfl (CLt hH (q := 13) (by decide)) (CC hH 13 (by decide) rfl) (CR hH 13 0 1 (by decide)) ?_
          refine g_aload_5 hX (dk DX0_lookDear 32 rfl) ?_
          refine g_iload_2 hX (dk DX0_lookDear 33 rfl) ?_
          refine g_c3I hX sX0_lookDear_66 (by decide) (Nat.le_of_ble_eq_true rfl) (rc0 rfl (CLt hH (by decide)) (CC hH 1 (by decide) rfl)) (by decide) (by decide) (c_X5_dearIn hG hWJ g3 (by rw [g4]; exact kcl_dc _)) ?_
          refine g_nmI (dearF E d (nI (x % 60))) ((dear_e hE hZJ hd).trans (dear_60 (by omega))) ?_
          refine i_iastore hX (dk DX0_lookDear 35 rfl) (CLt hH (q := 15) (by decide)) (CS hH 15 (by decide) rfl) (⟨rfl, dcell_lt (by omega), by decide⟩) ?_
          refine g_iinc_3 hX (dk DX0_lookDear 36 rfl) (nI_1 d) (by decide) rfl ?_
          refine g_goto (tgt := 2) hX (dk DX0_lookDear 37 rfl) (by decide) ?_
          first
          | exact g_fgt (ih k (by omega) (d + 1) _ (by omega) (hL.a ((has_0 u (by omega)).mp (by assumption)))) ⟨rfl, rfl, rfl, rfl, trivial⟩
          | exact g_fgt (ih k (by omega) (d + 1) _ (by omega) (hL.b hd (by assumption))) ⟨rfl, rfl, rfl, rfl, trivial⟩
          | exact g_fgt (ih k (by omega) (d + 1) _ (by omega) hL.c) ⟨rfl, rfl, rfl, rfl, trivial⟩
  refine g_iconst (v := 0) hX (dk DX0_lookDear 0 rfl) (by decide) ?_
  refine g_istore_3 hX (dk DX0_lookDear 1 rfl) (by decide) rfl ?_
  exact g_fgt (loop2 (cnt E) 0 I (Nat.zero_add _) ⟨fun _ _ => rfl, hDM, fun q hq => absurd hq (Nat.not_lt_zero q), fun _ _ _ _ e => e⟩) ⟨rfl, rfl, rfl, rfl, trivial⟩
end
section
set_option maxRecDepth 8000 in
set_option maxHeartbeats 4000000 in
theorem e_look {G : Gt} (hG : Gok G) {I : It} {h : Ht}  {E : It} {L : Nat → Int64} (hE : Inv E) (hZ : RZ E L I h) {m : Nat} (hm : m ≤ 200) : Con G (7) 0 0 mX0_look [.ref 13, .int (nI m)] I h (qV (fun J h2 => Sc I J ∧ J 13 1 = nI m ∧ AH E J m ∧ h2 = h)) := by
  refine con_intro (own := RX0) (lo0 := [some (.ref 13), some (.int (nI m)), none]) hG rfl pl_X0 (Nat.le_of_ble_eq_true rfl) rfl (fun X hX => ?_)
  have hW := hZ.1.wx hE
  have hH := hW.1
  have hc10 := (inv_cnt hE).2
  have hw9 := (inv_wk hE).2
  have loop25 : ∀ (k o : Nat) (J : It), o + k = m → Sc I J → J 13 1 = nI m → DM E J → AH E J o → GG G (7) 0 0 X (qV (fun J h2 => Sc I J ∧ J 13 1 = nI m ∧ AH E J m ∧ h2 = h)) 25 [some (.ref 13), some (.int (nI m)), some (.int (nI o))] [] (J) (h) 0 0 := by
    intro k
    induction k using Nat.strongRecOn with | _ k ih => ?_
    intro o J hk hS hsp hDM hA
    have hZJ := hZ.sc hE hS
    have hWJ := hZJ.1.wx hE
    refine g_iload_2 hX (dk DX0_look 13 rfl) ?_
    refine g_aload_0 hX (dk DX0_look 14 rfl) ?_
    refine g_getIv hX (dk DX0_look 15 rfl) KX0 fX0_47 (by decide) rfl (CLt hH (q := 13) (by decide)) (CC hH 13 (by decide) rfl) (hsp) ?_
    refine g_icmp_ge (tgt := 80) hX (dk DX0_look 16 rfl) (by decide) (fun hc1 => ?_) (fun hc1 => ?_)
    · refine g_return hX (dk DX0_look 42 rfl) rfl (by decide) (by decide) ?_
      have hk0 := ct_end hk (by omega) hc1
      subst hk0
      exact qV_of ⟨hS, hsp, by rw [show m = o by omega]; exact hA, rfl⟩
    · obtain ⟨k, rfl⟩ := ct_go hk (by omega) hc1
      refine g_aload_0 hX (dk DX0_look 17 rfl) ?_
      refine g_getRs (r := 14) hX (dk DX0_look 18 rfl) KX0 fX0_9 (by decide) rfl (CLt hH (q := 13) (by decide)) (CC hH 13 (by decide) rfl) (CR hH 13 2 14 (by decide)) ?_
      refine g_iload_2 hX (dk DX0_look 19 rfl) ?_
      refine g_aload_0 hX (dk DX0_look 20 rfl) ?_
      refine g_getRs (r := 1) hX (dk DX0_look 21 rfl) KX0 fX0_34 (by decide) rfl (CLt hH (q := 13) (by decide)) (CC hH 13 (by decide) rfl) (CR hH 13 0 1 (by decide)) ?_
      refine g_aload_0 hX (dk DX0_look 22 rfl) ?_
      refine g_getRs (r := 1) hX (dk DX0_look 23 rfl) KX0 fX0_34 (by decide) rfl (CLt hH (q := 13) (by decide)) (CC hH 13 (by decide) rfl) (CR hH 13 0 1 (by decide)) ?_
      refine g_getIv hX (dk DX0_look 24 rfl) KX5 fX0_57 (by decide) rfl (CLt hH (q := 1) (by decide)) (CC hH 1 (by decide) rfl) (hZJ.1.2.1.1.2.1.trans (inv_wk hE).1) ?_
      refine g_iload_2 hX (dk DX0_look 25 rfl) ?_
      refine g_iadd hX (dk DX0_look 26 rfl) ?_
      refine g_nmI (nI (wk E + o)) (nI_add _ _) ?_
      refine g_c2I hX sX0_look_51 (by decide) (Nat.le_of_ble_eq_true rfl) (rc0 rfl (CLt hH (by decide)) (CC hH 1 (by decide) rfl)) (by decide) (by decide) (c_X5_coming hG hWJ) ?_
      refine g_nmI (cbF E (wk E + o)) (cb_m hE hZJ.1 (by omega)) ?_
      refine i_iastore hX (dk DX0_look 28 rfl) (CLt hH (q := 14) (by decide)) (CS hH 14 (by decide) rfl) (⟨rfl, by omega, by decide⟩) ?_
      refine g_aload_0 hX (dk DX0_look 29 rfl) ?_
      refine g_aload_0 hX (dk DX0_look 30 rfl) ?_
      refine g_getRs (r := 14) hX (dk DX0_look 31 rfl) KX0 fX0_9 (by decide) rfl (CLt hH (q := 13) (by decide)) (CC hH 13 (by decide) rfl) (CR hH 13 2 14 (by decide)) ?_
      refine g_iload_2 hX (dk DX0_look 32 rfl) ?_
      refine v_iaload hX (dk DX0_look 33 rfl) (CLt hH (q := 14) (by decide)) (CS hH 14 (by decide) rfl) (⟨rfl, by omega, by decide⟩) (up0 _ _ _ _) ?_
      refine g_aload_0 hX (dk DX0_look 34 rfl) ?_
      refine g_getRs (r := 1) hX (dk DX0_look 35 rfl) KX0 fX0_34 (by decide) rfl (CLt hH (q := 13) (by decide)) (CC hH 13 (by decide) rfl) (CR hH 13 0 1 (by decide)) ?_
      refine g_getIv hX (dk DX0_look 36 rfl) KX5 fX0_57 (by decide) rfl (CLt hH (q := 1) (by decide)) (CC hH 1 (by decide) rfl) ((show _ = nI (wk E) from hZJ.1.2.1.1.2.1.trans (inv_wk hE).1)) ?_
      refine g_iload_2 hX (dk DX0_look 37 rfl) ?_
      refine g_iadd hX (dk DX0_look 38 rfl) ?_
      refine g_nmI (nI (wk E + o)) (nI_add _ _) ?_
      refine g_c3v hX sX0_look_71 (by decide) (Nat.le_of_ble_eq_true rfl) (rc0 rfl (CLt hH (by decide)) (CC hH 13 (by decide) rfl)) (by decide) (by decide) (e_lookDear hG hE (hZJ.sc hE (Sc.rf.up (q := 14) (j := o) ⟨by decide, by decide⟩)) (x := wk E + o) (by omega) (hDM.o (upI_off (by decide)))) ?_
      rintro J3 _ ⟨hL, rfl⟩
      refine g_iinc_2 hX (dk DX0_look 40 rfl) (nI_1 o) (by decide) rfl ?_
      refine g_goto (tgt := 25) hX (dk DX0_look 41 rfl) (by decide) ?_
      exact g_fgt (ih k (by omega) (o + 1) J3 (by omega) (hS.trans ((Sc.rf.up ⟨by decide, by decide⟩).trans (Sc.of1 hL.1 ⟨by decide, by decide⟩))) (by rw [hL.1 13 (by decide), upI_off (by decide)]; exact hsp) hL.2.1 (hA.s hE rfl hL)) ⟨rfl, rfl, rfl, trivial⟩
  refine g_aload_0 hX (dk DX0_look 0 rfl) ?_
  refine g_iconst (v := 0) hX (dk DX0_look 1 rfl) (by decide) ?_
  refine g_iload_1 hX (dk DX0_look 2 rfl) ?_
  refine g_sipush (v := 200) hX (dk DX0_look 3 rfl) (by decide) ?_
  refine g_c2I hX sX0_look_6 (by decide) (Nat.le_of_ble_eq_true rfl) rcN (by decide) (by decide) (c_J9_min_7cf53 hG) ?_
  refine g_nmI (nI m) (if_neg (Int32.not_lt.mpr (nI_le (b := 200) hm (by decide)))) ?_
  refine g_c2I hX sX0_look_9 (by decide) (Nat.le_of_ble_eq_true rfl) rcN (by decide) (by decide) (c_J9_max_7cf53 hG) ?_
  refine g_nmI (nI m) (by
    by_cases z : (0 : Int32) < nI m
    · exact if_pos z
    · rw [if_neg z]; exact Int32.le_antisymm (nI_pos' (by omega)) (Int32.not_lt.mp z)) ?_
  refine g_putI hX (dk DX0_look 6 rfl) KX0 fX0_47 (by decide) rfl (CLt hH (q := 13) (by decide)) (CC hH 13 (by decide) rfl) (Or.inl rfl) (rfl) (rfl) ?_
  refine g_aload_0 hX (dk DX0_look 7 rfl) ?_
  refine g_getRs (r := 15) hX (dk DX0_look 8 rfl) KX0 fX0_17 (by decide) rfl (CLt hH (q := 13) (by decide)) (CC hH 13 (by decide) rfl) (CR hH 13 3 15 (by decide)) ?_
  refine g_iconst (v := -1) hX (dk DX0_look 9 rfl) (by decide) ?_
  refine g_c2v hX sX0_look_20 (by decide) (Nat.le_of_ble_eq_true rfl) rcN (by decide) (by decide) (c_J7_fill_53178 hG (len := 600) (CLt hH (q := 15) (by decide)) (CS hH 15 (by decide) rfl) (by decide)) ?_
  rintro J2 _ ⟨hf1, hf2, hf3, rfl⟩
  have hS2 : Sc I J2 := (Sc.rf.up ⟨by decide, by decide⟩).trans (Sc.of1 hf3 ⟨by decide, by decide⟩)
  have hsp2 : J2 13 1 = nI m := by rw [hf3 13 (by decide), up0]
  refine g_iconst (v := 0) hX (dk DX0_look 11 rfl) (by decide) ?_
  refine g_istore_2 hX (dk DX0_look 12 rfl) (by decide) rfl ?_
  exact g_fgt (loop25 m 0 J2 (Nat.zero_add _) hS2 hsp2 (fun d hd r hr => Or.inl (hf1 _ (by omega))) (AH.z E J2)) ⟨rfl, rfl, rfl, trivial⟩

set_option maxRecDepth 8000 in
set_option maxHeartbeats 4000000 in
theorem e_hearOf {G : Gt} (hG : Gok G) {I : It} {h : Ht}  {E : It} {L : Nat → Int64} (hE : Inv E) (hZ : RZ E L I h) {d : Nat} (hd : d < cnt E) : Con G (6) 0 0 mX0_hearOf [.ref 13, .ref (dn h d)] I h (qV (fun J h2 => (∀ a, a ≠ 17 + d → J a = I a) ∧ (∀ y, y < 4 → J (17 + d) y = sayF E d (nI y)) ∧ h2 = h)) := by
  refine con_intro (own := RX0) (lo0 := [some (.ref 13), some (.ref (dn h d)), none]) hG rfl pl_X0 (Nat.le_of_ble_eq_true rfl) rfl (fun X hX => ?_)
  have hW := hZ.1.wx hE
  have hH := hW.1
  have hc10 := (inv_cnt hE).2
  have hw9 := (inv_wk hE).2
  have loop2 : ∀ (k y : Nat) (J : It), y + k = 4 → (∀ a, a ≠ 17 + d → J a = I a) → (∀ z, z < y → J (17 + d) z = sayF E d (nI z)) → GG G (6) 0 0 X (qV (fun J h2 => (∀ a, a ≠ 17 + d → J a = I a) ∧ (∀ y, y < 4 → J (17 + d) y = sayF E d (nI y)) ∧ h2 = h)) 2 [some (.ref 13), some (.ref (dn h d)), some (.int (nI y))] [] (J) (h) 0 0 := by
    intro k
    induction k using Nat.strongRecOn with | _ k ih => ?_
    intro y J hk hf hs
    have hS : Sc I J := Sc.of1 hf ⟨by omega, by omega⟩
    have hZJ := hZ.sc hE hS
    have hWJ := hZJ.1.wx hE
    obtain ⟨g1, g2, g3, g4, g5, g6, g7, g8, g9, g10⟩ := hZJ.1.d hd
    refine g_iload_2 hX (dk DX0_hearOf 2 rfl) ?_
    refine g_iconst (v := 4) hX (dk DX0_hearOf 3 rfl) (by decide) ?_
    refine g_icmp_ge (tgt := 33) hX (dk DX0_hearOf 4 rfl) (by decide) (fun hc1 => ?_) (fun hc1 => ?_)
    · refine g_return hX (dk DX0_hearOf 19 rfl) rfl (by decide) (by decide) ?_
      have hk0 := cl_end (e := 4) hk (by decide) hc1
      subst hk0
      exact qV_of ⟨hf, fun y hy => hs y (by omega), rfl⟩
    · obtain ⟨k, rfl⟩ := cl_go (e := 4) hk (by decide) hc1
      refine g_aload_0 hX (dk DX0_hearOf 5 rfl) ?_
      refine g_getRs (r := 16) hX (dk DX0_hearOf 6 rfl) KX0 fX0_22 (by decide) rfl (CLt hH (q := 13) (by decide)) (CC hH 13 (by decide) rfl) (CR hH 13 4 16 (by decide)) ?_
      refine g_aload_1 hX (dk DX0_hearOf 7 rfl) ?_
      refine g_getD (v := (nI d)) hX (dk DX0_hearOf 8 rfl) fX0_93 (by decide) g3 (by rw [g4]; exact kcl_dc _) (g5) ?_
      refine i_aaload (i0 := 6) hX (dk DX0_hearOf 9 rfl) (CLt hH (q := 16) (by decide)) (CS hH 16 (by decide) rfl) (by decide) rfl rfl (⟨rfl, by omega, by decide⟩) (SR hH (by omega)) ?_
      refine g_iload_2 hX (dk DX0_hearOf 10 rfl) ?_
      refine g_aload_0 hX (dk DX0_hearOf 11 rfl) ?_
      refine g_getRs (r := 1) hX (dk DX0_hearOf 12 rfl) KX0 fX0_34 (by decide) rfl (CLt hH (q := 13) (by decide)) (CC hH 13 (by decide) rfl) (CR hH 13 0 1 (by decide)) ?_
      refine g_aload_1 hX (dk DX0_hearOf 13 rfl) ?_
      refine g_iload_2 hX (dk DX0_hearOf 14 rfl) ?_
      refine g_c3I hX sX0_hearOf_23 (by decide) (Nat.le_of_ble_eq_true rfl) (rc0 rfl (CLt hH (by decide)) (CC hH 1 (by decide) rfl)) (by decide) (by decide) (c_X5_saidBy hG hWJ g3 (by rw [g4]; exact kcl_dc _)) ?_
      refine g_nmI (sayF E d (nI y)) (say_e hE hZJ hd) ?_
      refine i_iastore hX (dk DX0_hearOf 16 rfl) (SL hH (by omega)) (SA hH (by omega)) (⟨rfl, by omega, by decide⟩) ?_
      refine g_iinc_2 hX (dk DX0_hearOf 17 rfl) (nI_1 y) (by decide) rfl ?_
      refine g_goto (tgt := 2) hX (dk DX0_hearOf 18 rfl) (by decide) ?_
      exact g_fgt (ih k (by omega) (y + 1) _ (by omega) (fun a ha => (upI_off ha).trans (hf a ha)) (fun z hz => by
        by_cases e : z = y
        · subst e; exact up0 _ _ _ _
        · rw [upn (fun q => e q.2)]; exact hs z (by omega))) ⟨rfl, rfl, rfl, trivial⟩
  refine g_iconst (v := 0) hX (dk DX0_hearOf 0 rfl) (by decide) ?_
  refine g_istore_2 hX (dk DX0_hearOf 1 rfl) (by decide) rfl ?_
  exact g_fgt (loop2 4 0 I (Nat.zero_add _) (fun _ _ => rfl) (fun y hy => absurd hy (Nat.not_lt_zero y))) ⟨rfl, rfl, rfl, trivial⟩

set_option maxRecDepth 8000 in
set_option maxHeartbeats 4000000 in
theorem e_hear {G : Gt} (hG : Gok G) {I : It} {h : Ht}  {E : It} {L : Nat → Int64} (hE : Inv E) (hZ : RZ E L I h)  : Con G (7) 0 0 mX0_hear [.ref 13] I h (qV (fun J h2 => (∀ a, ¬ (17 ≤ a ∧ a < 27) → J a = I a) ∧ HD E J ∧ h2 = h)) := by
  refine con_intro (own := RX0) (lo0 := [some (.ref 13), none, none]) hG rfl pl_X0 (Nat.le_of_ble_eq_true rfl) rfl (fun X hX => ?_)
  have hW := hZ.1.wx hE
  have hH := hW.1
  have hc10 := (inv_cnt hE).2
  have hw9 := (inv_wk hE).2
  have loop2 : ∀ (k d : Nat) (J : It), d + k = cnt E → (∀ a, ¬ (17 ≤ a ∧ a < 27) → J a = I a) → (∀ q, q < d → ∀ y, y < 4 → J (17 + q) y = sayF E q (nI y)) → GG G (7) 0 0 X (qV (fun J h2 => (∀ a, ¬ (17 ≤ a ∧ a < 27) → J a = I a) ∧ HD E J ∧ h2 = h)) 2 [some (.ref 13), some (.int (nI d)), none] [] (J) (h) 0 0 := by
    intro k
    induction k using Nat.strongRecOn with | _ k ih => ?_
    intro d J hk hf hs
    have hS : Sc I J := fun a ha => hf a (by omega)
    have hZJ := hZ.sc hE hS
    have hWJ := hZJ.1.wx hE
    refine g_iload_1 hX (dk DX0_hear 2 rfl) ?_
    refine g_aload_0 hX (dk DX0_hear 3 rfl) ?_
    refine g_getRs (r := 1) hX (dk DX0_hear 4 rfl) KX0 fX0_34 (by decide) rfl (CLt hH (q := 13) (by decide)) (CC hH 13 (by decide) rfl) (CR hH 13 0 1 (by decide)) ?_
    refine g_getIv hX (dk DX0_hear 5 rfl) KX5 fX0_69 (by decide) rfl (CLt hH (q := 1) (by decide)) (CC hH 1 (by decide) rfl) (hZJ.1.2.1.1.1.trans (inv_cnt hE).1) ?_
    refine g_icmp_ge (tgt := 37) hX (dk DX0_hear 6 rfl) (by decide) (fun hc1 => ?_) (fun hc1 => ?_)
    · refine g_return hX (dk DX0_hear 19 rfl) rfl (by decide) (by decide) ?_
      have hk0 := cl_end hk (by omega) hc1
      subst hk0
      exact qV_of ⟨hf, fun q hq => hs q (by omega), rfl⟩
    · obtain ⟨k, rfl⟩ := cl_go hk (by omega) hc1
      have hd : d < cnt E := by omega
      obtain ⟨g1, g2, g3, g4, g5, g6, g7, g8, g9, g10⟩ := hZJ.1.d hd
      refine g_aload_0 hX (dk DX0_hear 7 rfl) ?_
      refine g_getRs (r := 1) hX (dk DX0_hear 8 rfl) KX0 fX0_34 (by decide) rfl (CLt hH (q := 13) (by decide)) (CC hH 13 (by decide) rfl) (CR hH 13 0 1 (by decide)) ?_
      refine g_iload_1 hX (dk DX0_hear 9 rfl) ?_
      refine g_c2R hX sX0_hear_18 (by decide) (Nat.le_of_ble_eq_true rfl) (rc0 rfl (CLt hH (by decide)) (CC hH 1 (by decide) rfl)) (by decide) (by decide) (c_X5_find hG hWJ (by rw [hZJ.1.cn]; exact hd)) ?_
      refine g_astore_2 hX (dk DX0_hear 11 rfl) (by decide) rfl ?_
      refine g_aload_2 hX (dk DX0_hear 12 rfl) ?_
      refine g_ifnullR hX (dk DX0_hear 13 rfl) ?_
      refine g_aload_0 hX (dk DX0_hear 14 rfl) ?_
      refine g_aload_2 hX (dk DX0_hear 15 rfl) ?_
      refine g_c2v hX sX0_hear_28 (by decide) (Nat.le_of_ble_eq_true rfl) (rc0 rfl (CLt hH (by decide)) (CC hH 13 (by decide) rfl)) (by decide) (by decide) (e_hearOf hG hE hZJ hd) ?_
      rintro J2 _ ⟨q1, q2, rfl⟩
      refine g_iinc_1 hX (dk DX0_hear 17 rfl) (nI_1 d) (by decide) rfl ?_
      refine g_goto (tgt := 2) hX (dk DX0_hear 18 rfl) (by decide) ?_
      exact g_fgt (ih k (by omega) (d + 1) J2 (by omega) (fun a ha => (q1 a (by omega)).trans (hf a ha)) (fun q hq y hy => by
        by_cases e : q = d
        · subst e; exact q2 y hy
        · rw [q1 _ (by omega)]; exact hs q (by omega) y hy)) ⟨rfl, rfl, trivial⟩
  refine g_iconst (v := 0) hX (dk DX0_hear 0 rfl) (by decide) ?_
  refine g_istore_1 hX (dk DX0_hear 1 rfl) (by decide) rfl ?_
  exact g_fgt (loop2 (cnt E) 0 I (Nat.zero_add _) (fun _ _ => rfl) (fun q hq => absurd hq (Nat.not_lt_zero q))) ⟨rfl, rfl, trivial⟩

set_option maxRecDepth 8000 in
set_option maxHeartbeats 4000000 in
theorem e_goingOver {G : Gt} (hG : Gok G) {I : It} {h : Ht}  {E : It} {L : Nat → Int64} (hE : Inv E) (hZ : RZ E L I h)  {hq2 : Nat} (hh : hq2 < hn h) (hhs : hs h hq2 = (20, 4)) (hHD : HD E I) : Con G (5) 0 0 mX0_goingOver [.ref 13, .ref hq2] I h (rI (overF E (I hq2)) I h) := by
  refine con_intro (own := RX0) (lo0 := [some (.ref 13), some (.ref hq2), none, none, none]) hG rfl pl_X0 (Nat.le_of_ble_eq_true rfl) rfl (fun X hX => ?_)
  have hW := hZ.1.wx hE
  have hH := hW.1
  have hc10 := (inv_cnt hE).2
  have hw9 := (inv_wk hE).2
  have loop4 : ∀ (k d : Nat) (z : Int32), d + k = cnt E → overR E (I hq2) k d z = overF E (I hq2) → GG G (5) 0 0 X (rI (overF E (I hq2)) I h) 4 [some (.ref 13), some (.ref hq2), some (.int z), some (.int (nI d)), none] [] (I) (h) 0 0 := by
    intro k
    induction k using Nat.strongRecOn with | _ k ih => ?_
    intro d z hk hv
    have hZJ := hZ
    have hWJ := hW
    refine g_iload_3 hX (dk DX0_goingOver 4 rfl) ?_
    refine g_aload_0 hX (dk DX0_goingOver 5 rfl) ?_
    refine g_getRs (r := 1) hX (dk DX0_goingOver 6 rfl) KX0 fX0_34 (by decide) rfl (CLt hH (q := 13) (by decide)) (CC hH 13 (by decide) rfl) (CR hH 13 0 1 (by decide)) ?_
    refine g_getIv hX (dk DX0_goingOver 7 rfl) KX5 fX0_69 (by decide) rfl (CLt hH (q := 1) (by decide)) (CC hH 1 (by decide) rfl) (hZ.1.2.1.1.1.trans (inv_cnt hE).1) ?_
    refine g_icmp_ge (tgt := 62) hX (dk DX0_goingOver 8 rfl) (by decide) (fun hc1 => ?_) (fun hc1 => ?_)
    · refine g_iload_2 hX (dk DX0_goingOver 34 rfl) ?_
      refine g_ireturn hX (dk DX0_goingOver 35 rfl) rfl (rfl) (by decide) (by decide) ?_
      have hk0 := cl_end hk (by omega) hc1
      subst hk0
      exact rI_of hv rfl rfl
    · obtain ⟨k, rfl⟩ := cl_go hk (by omega) hc1
      have hd : d < cnt E := by omega
      obtain ⟨g1, g2, g3, g4, g5, g6, g7, g8, g9, g10⟩ := hZJ.1.d hd
      refine g_aload_0 hX (dk DX0_goingOver 9 rfl) ?_
      refine g_getRs (r := 1) hX (dk DX0_goingOver 10 rfl) KX0 fX0_34 (by decide) rfl (CLt hH (q := 13) (by decide)) (CC hH 13 (by decide) rfl) (CR hH 13 0 1 (by decide)) ?_
      refine g_iload_3 hX (dk DX0_goingOver 11 rfl) ?_
      refine g_c2R hX sX0_goingOver_20 (by decide) (Nat.le_of_ble_eq_true rfl) (rc0 rfl (CLt hH (by decide)) (CC hH 1 (by decide) rfl)) (by decide) (by decide) (c_X5_find hG hWJ (by rw [hZJ.1.cn]; exact hd)) ?_
      refine g_astore_4 hX (dk DX0_goingOver 13 rfl) (by decide) rfl ?_
      refine g_aload_4 hX (dk DX0_goingOver 14 rfl) ?_
      refine g_ifnullR hX (dk DX0_goingOver 15 rfl) ?_
      refine g_aload_4 hX (dk DX0_goingOver 16 rfl) ?_
      refine g_aload_0 hX (dk DX0_goingOver 17 rfl) ?_
      refine g_getRs (r := 16) hX (dk DX0_goingOver 18 rfl) KX0 fX0_22 (by decide) rfl (CLt hH (q := 13) (by decide)) (CC hH 13 (by decide) rfl) (CR hH 13 4 16 (by decide)) ?_
      refine g_iload_3 hX (dk DX0_goingOver 19 rfl) ?_
      refine i_aaload (i0 := 6) hX (dk DX0_goingOver 20 rfl) (CLt hH (q := 16) (by decide)) (CS hH 16 (by decide) rfl) (by decide) rfl rfl (⟨rfl, by omega, by decide⟩) (SR hH (by omega)) ?_
      refine g_aload_1 hX (dk DX0_goingOver 21 rfl) ?_
      refine g_c3I hX (sD_X0_goingOver_39 _ (by rw [g4]; exact kcl_dc _)) (by decide) (Nat.le_of_ble_eq_true rfl) (rc0 rfl g3 rfl) (by decide) (by decide) (cD_saidOver hG g3 (by rw [g4]; exact kcl_dc _) (SL hH (by omega)) (SA hH (by omega)) hh hhs) ?_
      refine g_nmI (saidF E (I hq2) d) (by rw [g4, g6]; exact sv_e hE hd (fun y hy => hHD d hd y hy)) ?_
      refine g_aload_4 hX (dk DX0_goingOver 23 rfl) ?_
      refine g_getD (v := _) hX (dk DX0_goingOver 24 rfl) fX0_108 (by decide) g3 (by rw [g4]; exact kcl_dc _) (g10) ?_
      refine g_icmp_lt (tgt := 56) hX (dk DX0_goingOver 25 rfl) (by decide) (fun hc2 => ?_) (fun hc2 => ?_)
      · refine g_iinc_3 hX (dk DX0_goingOver 32 rfl) (nI_1 d) (by decide) rfl ?_
        refine g_goto (tgt := 4) hX (dk DX0_goingOver 33 rfl) (by decide) ?_
        first
        | exact g_fgt (ih k (by omega) (d + 1) _ (by omega) (by rw [← hv, overR_s, if_neg (Int32.not_le.mpr (show saidF E (I hq2) d < E 6 d by assumption)), Int32.or_zero])) ⟨rfl, rfl, rfl, rfl, trivial⟩
        | exact g_fgt (ih k (by omega) (d + 1) _ (by omega) (by rw [← hv, overR_s, if_pos (Int32.not_lt.mp (show ¬ saidF E (I hq2) d < E 6 d by assumption))]; rfl)) ⟨rfl, rfl, rfl, rfl, trivial⟩
      · refine g_iload_2 hX (dk DX0_goingOver 26 rfl) ?_
        refine g_iconst (v := 1) hX (dk DX0_goingOver 27 rfl) (by decide) ?_
        refine g_iload_3 hX (dk DX0_goingOver 28 rfl) ?_
        refine g_ishl hX (dk DX0_goingOver 29 rfl) ?_
        refine g_ior hX (dk DX0_goingOver 30 rfl) ?_
        refine g_istore_2 hX (dk DX0_goingOver 31 rfl) (by decide) rfl ?_
        refine g_iinc_3 hX (dk DX0_goingOver 32 rfl) (nI_1 d) (by decide) rfl ?_
        refine g_goto (tgt := 4) hX (dk DX0_goingOver 33 rfl) (by decide) ?_
        first
        | exact g_fgt (ih k (by omega) (d + 1) _ (by omega) (by rw [← hv, overR_s, if_neg (Int32.not_le.mpr (show saidF E (I hq2) d < E 6 d by assumption)), Int32.or_zero])) ⟨rfl, rfl, rfl, rfl, trivial⟩
        | exact g_fgt (ih k (by omega) (d + 1) _ (by omega) (by rw [← hv, overR_s, if_pos (Int32.not_lt.mp (show ¬ saidF E (I hq2) d < E 6 d by assumption))]; rfl)) ⟨rfl, rfl, rfl, rfl, trivial⟩
  refine g_iconst (v := 0) hX (dk DX0_goingOver 0 rfl) (by decide) ?_
  refine g_istore_2 hX (dk DX0_goingOver 1 rfl) (by decide) rfl ?_
  refine g_iconst (v := 0) hX (dk DX0_goingOver 2 rfl) (by decide) ?_
  refine g_istore_3 hX (dk DX0_goingOver 3 rfl) (by decide) rfl ?_
  exact g_fgt (loop4 (cnt E) 0 0 (Nat.zero_add _) rfl) ⟨rfl, rfl, rfl, rfl, trivial⟩
end
section
set_option maxRecDepth 8000 in
set_option maxHeartbeats 4000000 in
theorem e_saidOf {G : Gt} (hG : Gok G) {I : It} {h : Ht}  {E : It} {L : Nat → Int64} (hE : Inv E) (hZ : RZ E L I h) {d : Nat} (hd : d < cnt E) : Con G (7) 0 0 mX0_saidOf [.ref 13, .ref (dn h d)] I h (qI (fun v J h2 => v = saidF E (E 8) d ∧ Sc I J ∧ h2 = h)) := by
  refine con_intro (own := RX0) (lo0 := [some (.ref 13), some (.ref (dn h d))]) hG rfl pl_X0 (Nat.le_of_ble_eq_true rfl) rfl (fun X hX => ?_)
  have hW := hZ.1.wx hE
  have hH := hW.1
  have hc10 := (inv_cnt hE).2
  have hw9 := (inv_wk hE).2
  have hZJ := hZ
  obtain ⟨g1, g2, g3, g4, g5, g6, g7, g8, g9, g10⟩ := hZJ.1.d hd
  refine g_aload_0 hX (dk DX0_saidOf 0 rfl) ?_
  refine g_aload_1 hX (dk DX0_saidOf 1 rfl) ?_
  refine g_c2v hX sX0_saidOf_2 (by decide) (Nat.le_of_ble_eq_true rfl) (rc0 rfl (CLt hH (by decide)) (CC hH 13 (by decide) rfl)) (by decide) (by decide) (e_hearOf hG hE hZ hd) ?_
  rintro J2 _ ⟨q1, q2, rfl⟩
  have hS : Sc I J2 := Sc.of1 q1 ⟨by omega, by omega⟩
  have e8 : ∀ y, y < 4 → J2 4 y = E 8 y := fun y hy => by rw [q1 4 (by omega)]; exact hZ.1.2.1.2.2.1 y hy
  have hgg := (hZ.sc hE hS).1.d hd
  refine g_aload_1 hX (dk DX0_saidOf 3 rfl) ?_
  refine g_aload_0 hX (dk DX0_saidOf 4 rfl) ?_
  refine g_getRs (r := 16) hX (dk DX0_saidOf 5 rfl) KX0 fX0_22 (by decide) rfl (CLt hH (q := 13) (by decide)) (CC hH 13 (by decide) rfl) (CR hH 13 4 16 (by decide)) ?_
  refine g_aload_1 hX (dk DX0_saidOf 6 rfl) ?_
  refine g_getD (v := (nI d)) hX (dk DX0_saidOf 7 rfl) fX0_93 (by decide) g3 (by rw [g4]; exact kcl_dc _) (hgg.2.2.2.2.1) ?_
  refine i_aaload (i0 := 6) hX (dk DX0_saidOf 8 rfl) (CLt hH (q := 16) (by decide)) (CS hH 16 (by decide) rfl) (by decide) rfl rfl (⟨rfl, by omega, by decide⟩) (SR hH (by omega)) ?_
  refine g_aload_0 hX (dk DX0_saidOf 9 rfl) ?_
  refine g_getRs (r := 1) hX (dk DX0_saidOf 10 rfl) KX0 fX0_34 (by decide) rfl (CLt hH (q := 13) (by decide)) (CC hH 13 (by decide) rfl) (CR hH 13 0 1 (by decide)) ?_
  refine g_getRs (r := 4) hX (dk DX0_saidOf 11 rfl) KX5 fX0_101 (by decide) rfl (CLt hH (q := 1) (by decide)) (CC hH 1 (by decide) rfl) (CR hH 1 5 4 (by decide)) ?_
  refine g_c3I hX (sD_X0_saidOf_22 _ (by rw [g4]; exact kcl_dc _)) (by decide) (Nat.le_of_ble_eq_true rfl) (rc0 rfl g3 rfl) (by decide) (by decide) (cD_saidOver hG g3 (by rw [g4]; exact kcl_dc _) (SL hH (by omega)) (SA hH (by omega)) (CLt hH (q := 4) (by decide)) (CS hH 4 (by decide) rfl)) ?_
  refine g_nmI (saidF E (E 8) d) (by rw [g4, hgg.2.2.2.2.2.1, ← saidF_hr e8]; exact sv_e hE hd q2) ?_
  refine g_ireturn hX (dk DX0_saidOf 13 rfl) rfl (rfl) (by decide) (by decide) ?_
  exact qI_of ⟨rfl, hS, rfl⟩

set_option maxRecDepth 8000 in
set_option maxHeartbeats 4000000 in
theorem e_stop {G : Gt} (hG : Gok G) {I : It} {h : Ht}  {E : It} {L : Nat → Int64} (hE : Inv E) (hZ : RZ E L I h) {d x : Nat} (hd : d < cnt E) (hx : x ≤ 20000) {had kn co st ca fw fd idl : Int32} (hT : TA6 I idl (had, kn, co, st, ca, fw, fd)) (hde : I 15 (d * 60 + x % 60) = dearF E d (nI x)) : Con G (4) 0 0 mX0_stop [.ref 13, .ref (dn h d), .int (nI x)] I h (qV (fun J h2 => h2 = h ∧ TA6 J idl (csS E x (mayF E x) d (had, kn, co, st, ca, fw, fd)) ∧ (∀ a, a ≠ 13 → J a = I a) ∧ J 13 1 = I 13 1)) := by
  refine con_intro (own := RX0) (lo0 := [some (.ref 13), some (.ref (dn h d)), some (.int (nI x)), none]) hG rfl pl_X0 (Nat.le_of_ble_eq_true rfl) rfl (fun X hX => ?_)
  have hW := hZ.1.wx hE
  have hH := hW.1
  have hc10 := (inv_cnt hE).2
  have hw9 := (inv_wk hE).2
  have hZJ := hZ
  obtain ⟨g1, g2, g3, g4, g5, g6, g7, g8, g9, g10⟩ := hZJ.1.d hd
  obtain ⟨t6, t8, t9, t7, t10, t11, t12, t13⟩ := hT
  obtain ⟨kc1, kc2⟩ := kc_e hE hd
  obtain ⟨ca1, ca2⟩ := ca_e hE hZ
  refine g_aload_0 hX (dk DX0_stop_0 0 rfl) ?_
  refine g_getIv hX (dk DX0_stop_0 1 rfl) KX0 fX0_120 (by decide) rfl (CLt hH (q := 13) (by decide)) (CC hH 13 (by decide) rfl) (t10) ?_
  refine g_if_ne (tgt := 20) hX (dk DX0_stop_0 2 rfl) (by decide) (fun hc1 => ?_) (fun hc1 => ?_)
  · refine g_aload_0 hX (dk DX0_stop_0 10 rfl) ?_
    refine g_dup hX (dk DX0_stop_0 11 rfl) rfl ?_
    refine g_getIv hX (dk DX0_stop_0 12 rfl) KX0 fX0_120 (by decide) rfl (CLt hH (q := 13) (by decide)) (CC hH 13 (by decide) rfl) ((show _ = st from t10)) ?_
    refine g_iconst (v := 1) hX (dk DX0_stop_0 13 rfl) (by decide) ?_
    refine g_iadd hX (dk DX0_stop_0 14 rfl) ?_
    refine g_putI hX (dk DX0_stop_0 15 rfl) KX0 fX0_120 (by decide) rfl (CLt hH (q := 13) (by decide)) (CC hH 13 (by decide) rfl) (Or.inl rfl) (rfl) (rfl) ?_
    refine g_aload_0 hX (dk DX0_stop_0 16 rfl) ?_
    refine g_getIv hX (dk DX0_stop_0 17 rfl) KX0 fX0_140 (by decide) rfl (CLt hH (q := 13) (by decide)) (CC hH 13 (by decide) rfl) ((show _ = had from t8)) ?_
    refine g_aload_0 hX (dk DX0_stop_0 18 rfl) ?_
    refine g_getRs (r := 1) hX (dk DX0_stop_0 19 rfl) KX0 fX0_34 (by decide) rfl (CLt hH (q := 13) (by decide)) (CC hH 13 (by decide) rfl) (CR hH 13 0 1 (by decide)) ?_
    refine g_c1I hX sX0_stop_38 (by decide) (Nat.le_of_ble_eq_true rfl) (rc0 rfl (CLt hH (by decide)) (CC hH 1 (by decide) rfl)) (by decide) (by decide) (c_X5_callsAtFirst hG (hW.sc (fun a ha => by simp only [upI_off (show a ≠ 13 by omega)]))) ?_
    refine g_nmI (callF E) (ca_e hE (hZ.sc hE (fun a ha => by simp only [upI_off (show a ≠ 13 by omega)]))).1 ?_
    refine g_aload_0 hX (dk DX0_stop_0 21 rfl) ?_
    refine g_getRs (r := 1) hX (dk DX0_stop_0 22 rfl) KX0 fX0_34 (by decide) rfl (CLt hH (q := 13) (by decide)) (CC hH 13 (by decide) rfl) (CR hH 13 0 1 (by decide)) ?_
    refine g_c1I hX sX0_stop_45 (by decide) (Nat.le_of_ble_eq_true rfl) (rc0 rfl (CLt hH (by decide)) (CC hH 1 (by decide) rfl)) (by decide) (by decide) (c_X5_callsFading hG (hW.sc (fun a ha => by simp only [upI_off (show a ≠ 13 by omega)]))) ?_
    refine g_nmI (fadeF E) (ca_e hE (hZ.sc hE (fun a ha => by simp only [upI_off (show a ≠ 13 by omega)]))).2 ?_
    refine g_iload_2 hX (dk DX0_stop_0 24 rfl) ?_
    refine g_imul hX (dk DX0_stop_0 25 rfl) ?_
    refine g_isub hX (dk DX0_stop_0 26 rfl) ?_
    refine g_icmp_ge (tgt := 58) hX (dk DX0_stop_0 27 rfl) (by decide) (fun hc2 => ?_) (fun hc2 => ?_)
    · have hm : ¬ had < mayF E x := Int32.not_lt.mpr hc2
      refine g_iconst (v := 0) hX (dk DX0_stop_0 30 rfl) (by decide) ?_
      refine g_istore_3 hX (dk DX0_stop_0 31 rfl) (by decide) rfl ?_
      refine g_iload_3 hX (dk DX0_stop_0 32 rfl) ?_
      refine g_if_eq (tgt := 84) hX (dk DX0_stop_0 33 rfl) (by decide) (fun hc3 => ?_) (fun hc3 => absurd (by decide) hc3)
      refine g_aload_0 hX (dk DX0_stop_0 46 rfl) ?_
      refine g_dup hX (dk DX0_stop_0 47 rfl) rfl ?_
      refine g_getIv hX (dk DX0_stop_0 48 rfl) KX0 fX0_117 (by decide) rfl (CLt hH (q := 13) (by decide)) (CC hH 13 (by decide) rfl) ((show _ = co from t7)) ?_
      refine g_iload_3 hX (dk DX0_stop_0 49 rfl) ?_
      refine g_if_eq (tgt := 97) hX (dk DX0_stop_0 50 rfl) (by decide) (fun hc4 => ?_) (fun hc4 => absurd (by decide) hc4)
      refine g_aload_0 hX (dk DX0_stop_0 53 rfl) ?_
      refine g_getRs (r := 15) hX (dk DX0_stop_0 54 rfl) KX0 fX0_17 (by decide) rfl (CLt hH (q := 13) (by decide)) (CC hH 13 (by decide) rfl) (CR hH 13 3 15 (by decide)) ?_
      refine g_aload_1 hX (dk DX0_stop_0 55 rfl) ?_
      refine g_getD (v := (nI d)) hX (dk DX0_stop_0 56 rfl) fX0_93 (by decide) g3 (by rw [g4]; exact kcl_dc _) ((by first | exact g5 | (simp only [upI_off (show dn h d ≠ 13 by omega)]; exact g5))) ?_
      refine g_iload_2 hX (dk DX0_stop_0 57 rfl) ?_
      refine g_c2I hX sX0_stop_106 (by decide) (Nat.le_of_ble_eq_true rfl) rcN (by decide) (by decide) (c_X0_dearCell hG) ?_
      refine g_nmI (nI (d * 60 + x % 60)) (dcell (by omega)) ?_
      refine v_iaload hX (dk DX0_stop_0 59 rfl) (CLt hH (q := 15) (by decide)) (CS hH 15 (by decide) rfl) (⟨rfl, dcell_lt (by omega), by decide⟩) ((show _ = dearF E d (nI x) from hde)) ?_
      refine g_iadd hX (dk DX0_stop_1 0 rfl) ?_
      refine g_putI hX (dk DX0_stop_1 1 rfl) KX0 fX0_117 (by decide) rfl (CLt hH (q := 13) (by decide)) (CC hH 13 (by decide) rfl) (Or.inl rfl) (rfl) (rfl) ?_
      refine g_iload_3 hX (dk DX0_stop_1 2 rfl) ?_
      refine g_if_eq (tgt := 128) hX (dk DX0_stop_1 3 rfl) (by decide) (fun hc5 => ?_) (fun hc5 => absurd (by decide) hc5)
      refine g_aload_1 hX (dk DX0_stop_1 8 rfl) ?_
      refine g_c1I hX (sD_X0_stop_129 _ (by rw [g4]; exact kcl_dc _)) (by decide) (Nat.le_of_ble_eq_true rfl) (rc0 rfl g3 rfl) (by decide) (by decide) (cD_isKnownByStop hG g3 (by rw [g4]; exact kcl_dc _)) ?_
      refine g_nmI (klV E d) (by first | (rw [g4, g6]; exact kc2) | (simp only [upI_off (show dn h d ≠ 13 by omega)]; rw [g4, g6]; exact kc2)) ?_
      refine g_if_eq (tgt := 150) hX (dk DX0_stop_1 10 rfl) (by decide) (fun hc6 => ?_) (fun hc6 => ?_)
      · refine g_return hX (dk DX0_stop_1 20 rfl) rfl (by decide) (by decide) ?_
        exact qV_of ⟨rfl, by unfold csS; dsimp only; (try first | rw [if_pos hc1] | rw [if_neg hc1] | rw [if_neg (not_not_intro hc1)]); (try first | rw [if_pos hc2] | rw [if_neg hc2] | rw [if_neg (not_not_intro hc2)]); (try first | rw [if_pos hc3] | rw [if_neg hc3] | rw [if_neg (not_not_intro hc3)]); (try first | rw [if_pos hc4] | rw [if_neg hc4] | rw [if_neg (not_not_intro hc4)]); (try first | rw [if_pos hc5] | rw [if_neg hc5] | rw [if_neg (not_not_intro hc5)]); (try first | rw [if_pos hc6] | rw [if_neg hc6] | rw [if_neg (not_not_intro hc6)]); (try first | rw [if_pos hc1] | rw [if_neg hc1] | rw [if_neg (not_not_intro hc1)]); (try first | rw [if_pos hc2] | rw [if_neg hc2] | rw [if_neg (not_not_intro hc2)]); (try first | rw [if_pos hc3] | rw [if_neg hc3] | rw [if_neg (not_not_intro hc3)]); (try first | rw [if_pos hc4] | rw [if_neg hc4] | rw [if_neg (not_not_intro hc4)]); (try first | rw [if_pos hc5] | rw [if_neg hc5] | rw [if_neg (not_not_intro hc5)]); (try first | rw [if_pos hc6] | rw [if_neg hc6] | rw [if_neg (not_not_intro hc6)]); (try first | rw [if_pos hm] | rw [if_neg hm]); exact ⟨t6, by first | rfl | exact t8, by first | rfl | exact t9, rfl, rfl, by first | rfl | exact t11, by first | rfl | exact t12, by first | rfl | exact t13⟩, fun a ha => by simp only [upI_off ha], rfl⟩
      · refine g_aload_0 hX (dk DX0_stop_1 11 rfl) ?_
        refine g_dup hX (dk DX0_stop_1 12 rfl) rfl ?_
        refine g_getIv hX (dk DX0_stop_1 13 rfl) KX0 fX0_111 (by decide) rfl (CLt hH (q := 13) (by decide)) (CC hH 13 (by decide) rfl) ((show _ = kn from t9)) ?_
        refine g_iconst (v := 1) hX (dk DX0_stop_1 14 rfl) (by decide) ?_
        refine g_aload_1 hX (dk DX0_stop_1 15 rfl) ?_
        refine g_getD (v := (nI d)) hX (dk DX0_stop_1 16 rfl) fX0_93 (by decide) g3 (by rw [g4]; exact kcl_dc _) ((by first | exact g5 | (simp only [upI_off (show dn h d ≠ 13 by omega)]; exact g5))) ?_
        refine g_ishl hX (dk DX0_stop_1 17 rfl) ?_
        refine g_ior hX (dk DX0_stop_1 18 rfl) ?_
        refine g_putI hX (dk DX0_stop_1 19 rfl) KX0 fX0_111 (by decide) rfl (CLt hH (q := 13) (by decide)) (CC hH 13 (by decide) rfl) (Or.inl rfl) (rfl) (rfl) ?_
        refine g_return hX (dk DX0_stop_1 20 rfl) rfl (by decide) (by decide) ?_
        exact qV_of ⟨rfl, by unfold csS; dsimp only; (try first | rw [if_pos hc1] | rw [if_neg hc1] | rw [if_neg (not_not_intro hc1)]); (try first | rw [if_pos hc2] | rw [if_neg hc2] | rw [if_neg (not_not_intro hc2)]); (try first | rw [if_pos hc3] | rw [if_neg hc3] | rw [if_neg (not_not_intro hc3)]); (try first | rw [if_pos hc4] | rw [if_neg hc4] | rw [if_neg (not_not_intro hc4)]); (try first | rw [if_pos hc5] | rw [if_neg hc5] | rw [if_neg (not_not_intro hc5)]); (try first | rw [if_pos hc6] | rw [if_neg hc6] | rw [if_neg (not_not_intro hc6)]); (try first | rw [if_pos hc1] | rw [if_neg hc1] | rw [if_neg (not_not_intro hc1)]); (try first | rw [if_pos hc2] | rw [if_neg hc2] | rw [if_neg (not_not_intro hc2)]); (try first | rw [if_pos hc3] | rw [if_neg hc3] | rw [if_neg (not_not_intro hc3)]); (try first | rw [if_pos hc4] | rw [if_neg hc4] | rw [if_neg (not_not_intro hc4)]); (try first | rw [if_pos hc5] | rw [if_neg hc5] | rw [if_neg (not_not_intro hc5)]); (try first | rw [if_pos hc6] | rw [if_neg hc6] | rw [if_neg (not_not_intro hc6)]); (try first | rw [if_pos hm] | rw [if_neg hm]); exact ⟨t6, by first | rfl | exact t8, by first | rfl | exact t9, rfl, rfl, by first | rfl | exact t11, by first | rfl | exact t12, by first | rfl | exact t13⟩, fun a ha => by simp only [upI_off ha], rfl⟩
    · have hm : had < mayF E x := Int32.not_le.mp hc2
      refine g_iconst (v := 1) hX (dk DX0_stop_0 28 rfl) (by decide) ?_
      refine g_goto (tgt := 59) hX (dk DX0_stop_0 29 rfl) (by decide) ?_
      refine g_istore_3 hX (dk DX0_stop_0 31 rfl) (by decide) rfl ?_
      refine g_iload_3 hX (dk DX0_stop_0 32 rfl) ?_
      refine g_if_eq (tgt := 84) hX (dk DX0_stop_0 33 rfl) (by decide) (fun hc7 => absurd hc7 (by decide)) (fun hc7 => ?_)
      refine g_aload_0 hX (dk DX0_stop_0 34 rfl) ?_
      refine g_dup hX (dk DX0_stop_0 35 rfl) rfl ?_
      refine g_getIv hX (dk DX0_stop_0 36 rfl) KX0 fX0_140 (by decide) rfl (CLt hH (q := 13) (by decide)) (CC hH 13 (by decide) rfl) ((show _ = had from t8)) ?_
      refine g_iconst (v := 1) hX (dk DX0_stop_0 37 rfl) (by decide) ?_
      refine g_iadd hX (dk DX0_stop_0 38 rfl) ?_
      refine g_putI hX (dk DX0_stop_0 39 rfl) KX0 fX0_140 (by decide) rfl (CLt hH (q := 13) (by decide)) (CC hH 13 (by decide) rfl) (Or.inl rfl) (rfl) (rfl) ?_
      refine g_aload_0 hX (dk DX0_stop_0 40 rfl) ?_
      refine g_dup hX (dk DX0_stop_0 41 rfl) rfl ?_
      refine g_getIv hX (dk DX0_stop_0 42 rfl) KX0 fX0_123 (by decide) rfl (CLt hH (q := 13) (by decide)) (CC hH 13 (by decide) rfl) ((show _ = ca from t11)) ?_
      refine g_iconst (v := 1) hX (dk DX0_stop_0 43 rfl) (by decide) ?_
      refine g_iadd hX (dk DX0_stop_0 44 rfl) ?_
      refine g_putI hX (dk DX0_stop_0 45 rfl) KX0 fX0_123 (by decide) rfl (CLt hH (q := 13) (by decide)) (CC hH 13 (by decide) rfl) (Or.inl rfl) (rfl) (rfl) ?_
      refine g_aload_0 hX (dk DX0_stop_0 46 rfl) ?_
      refine g_dup hX (dk DX0_stop_0 47 rfl) rfl ?_
      refine g_getIv hX (dk DX0_stop_0 48 rfl) KX0 fX0_117 (by decide) rfl (CLt hH (q := 13) (by decide)) (CC hH 13 (by decide) rfl) ((show _ = co from t7)) ?_
      refine g_iload_3 hX (dk DX0_stop_0 49 rfl) ?_
      refine g_if_eq (tgt := 97) hX (dk DX0_stop_0 50 rfl) (by decide) (fun hc8 => absurd hc8 (by decide)) (fun hc8 => ?_)
      refine g_iconst (v := 1) hX (dk DX0_stop_0 51 rfl) (by decide) ?_
      refine g_goto (tgt := 110) hX (dk DX0_stop_0 52 rfl) (by decide) ?_
      refine g_iadd hX (dk DX0_stop_1 0 rfl) ?_
      refine g_putI hX (dk DX0_stop_1 1 rfl) KX0 fX0_117 (by decide) rfl (CLt hH (q := 13) (by decide)) (CC hH 13 (by decide) rfl) (Or.inl rfl) (rfl) (rfl) ?_
      refine g_iload_3 hX (dk DX0_stop_1 2 rfl) ?_
      refine g_if_eq (tgt := 128) hX (dk DX0_stop_1 3 rfl) (by decide) (fun hc9 => absurd hc9 (by decide)) (fun hc9 => ?_)
      refine g_aload_1 hX (dk DX0_stop_1 4 rfl) ?_
      refine g_c1I hX (sD_X0_stop_119 _ (by rw [g4]; exact kcl_dc _)) (by decide) (Nat.le_of_ble_eq_true rfl) (rc0 rfl g3 rfl) (by decide) (by decide) (cD_isKnownByCall hG g3 (by rw [g4]; exact kcl_dc _)) ?_
      refine g_nmI (kcV E d) (by rw [g4]; exact kc1) ?_
      refine g_if_eq (tgt := 150) hX (dk DX0_stop_1 6 rfl) (by decide) (fun hc10 => ?_) (fun hc10 => ?_)
      · refine g_return hX (dk DX0_stop_1 20 rfl) rfl (by decide) (by decide) ?_
        exact qV_of ⟨rfl, by unfold csS; dsimp only; (try first | rw [if_pos hc1] | rw [if_neg hc1] | rw [if_neg (not_not_intro hc1)]); (try first | rw [if_pos hc2] | rw [if_neg hc2] | rw [if_neg (not_not_intro hc2)]); (try first | rw [if_pos hc7] | rw [if_neg hc7] | rw [if_neg (not_not_intro hc7)]); (try first | rw [if_pos hc8] | rw [if_neg hc8] | rw [if_neg (not_not_intro hc8)]); (try first | rw [if_pos hc9] | rw [if_neg hc9] | rw [if_neg (not_not_intro hc9)]); (try first | rw [if_pos hc10] | rw [if_neg hc10] | rw [if_neg (not_not_intro hc10)]); (try first | rw [if_pos hc1] | rw [if_neg hc1] | rw [if_neg (not_not_intro hc1)]); (try first | rw [if_pos hc2] | rw [if_neg hc2] | rw [if_neg (not_not_intro hc2)]); (try first | rw [if_pos hc7] | rw [if_neg hc7] | rw [if_neg (not_not_intro hc7)]); (try first | rw [if_pos hc8] | rw [if_neg hc8] | rw [if_neg (not_not_intro hc8)]); (try first | rw [if_pos hc9] | rw [if_neg hc9] | rw [if_neg (not_not_intro hc9)]); (try first | rw [if_pos hc10] | rw [if_neg hc10] | rw [if_neg (not_not_intro hc10)]); (try first | rw [if_pos hm] | rw [if_neg hm]); exact ⟨t6, by first | rfl | exact t8, by first | rfl | exact t9, rfl, rfl, by first | rfl | exact t11, by first | rfl | exact t12, by first | rfl | exact t13⟩, fun a ha => by simp only [upI_off ha], rfl⟩
      · refine g_goto (tgt := 135) hX (dk DX0_stop_1 7 rfl) (by decide) ?_
        refine g_aload_0 hX (dk DX0_stop_1 11 rfl) ?_
        refine g_dup hX (dk DX0_stop_1 12 rfl) rfl ?_
        refine g_getIv hX (dk DX0_stop_1 13 rfl) KX0 fX0_111 (by decide) rfl (CLt hH (q := 13) (by decide)) (CC hH 13 (by decide) rfl) ((show _ = kn from t9)) ?_
        refine g_iconst (v := 1) hX (dk DX0_stop_1 14 rfl) (by decide) ?_
        refine g_aload_1 hX (dk DX0_stop_1 15 rfl) ?_
        refine g_getD (v := (nI d)) hX (dk DX0_stop_1 16 rfl) fX0_93 (by decide) g3 (by rw [g4]; exact kcl_dc _) ((by first | exact g5 | (simp only [upI_off (show dn h d ≠ 13 by omega)]; exact g5))) ?_
        refine g_ishl hX (dk DX0_stop_1 17 rfl) ?_
        refine g_ior hX (dk DX0_stop_1 18 rfl) ?_
        refine g_putI hX (dk DX0_stop_1 19 rfl) KX0 fX0_111 (by decide) rfl (CLt hH (q := 13) (by decide)) (CC hH 13 (by decide) rfl) (Or.inl rfl) (rfl) (rfl) ?_
        refine g_return hX (dk DX0_stop_1 20 rfl) rfl (by decide) (by decide) ?_
        exact qV_of ⟨rfl, by unfold csS; dsimp only; (try first | rw [if_pos hc1] | rw [if_neg hc1] | rw [if_neg (not_not_intro hc1)]); (try first | rw [if_pos hc2] | rw [if_neg hc2] | rw [if_neg (not_not_intro hc2)]); (try first | rw [if_pos hc7] | rw [if_neg hc7] | rw [if_neg (not_not_intro hc7)]); (try first | rw [if_pos hc8] | rw [if_neg hc8] | rw [if_neg (not_not_intro hc8)]); (try first | rw [if_pos hc9] | rw [if_neg hc9] | rw [if_neg (not_not_intro hc9)]); (try first | rw [if_pos hc10] | rw [if_neg hc10] | rw [if_neg (not_not_intro hc10)]); (try first | rw [if_pos hc1] | rw [if_neg hc1] | rw [if_neg (not_not_intro hc1)]); (try first | rw [if_pos hc2] | rw [if_neg hc2] | rw [if_neg (not_not_intro hc2)]); (try first | rw [if_pos hc7] | rw [if_neg hc7] | rw [if_neg (not_not_intro hc7)]); (try first | rw [if_pos hc8] | rw [if_neg hc8] | rw [if_neg (not_not_intro hc8)]); (try first | rw [if_pos hc9] | rw [if_neg hc9] | rw [if_neg (not_not_intro hc9)]); (try first | rw [if_pos hc10] | rw [if_neg hc10] | rw [if_neg (not_not_intro hc10)]); (try first | rw [if_pos hm] | rw [if_neg hm]); exact ⟨t6, by first | rfl | exact t8, by first | rfl | exact t9, rfl, rfl, by first | rfl | exact t11, by first | rfl | exact t12, by first | rfl | exact t13⟩, fun a ha => by simp only [upI_off ha], rfl⟩
  · refine g_aload_0 hX (dk DX0_stop_0 3 rfl) ?_
    refine g_iload_2 hX (dk DX0_stop_0 4 rfl) ?_
    refine g_putI hX (dk DX0_stop_0 5 rfl) KX0 fX0_126 (by decide) rfl (CLt hH (q := 13) (by decide)) (CC hH 13 (by decide) rfl) (Or.inl rfl) (rfl) (rfl) ?_
    refine g_aload_0 hX (dk DX0_stop_0 6 rfl) ?_
    refine g_aload_1 hX (dk DX0_stop_0 7 rfl) ?_
    refine g_getD (v := (nI d)) hX (dk DX0_stop_0 8 rfl) fX0_93 (by decide) g3 (by rw [g4]; exact kcl_dc _) ((by first | exact g5 | (simp only [upI_off (show dn h d ≠ 13 by omega)]; exact g5))) ?_
    refine g_putI hX (dk DX0_stop_0 9 rfl) KX0 fX0_129 (by decide) rfl (CLt hH (q := 13) (by decide)) (CC hH 13 (by decide) rfl) (Or.inl rfl) (rfl) (rfl) ?_
    refine g_aload_0 hX (dk DX0_stop_0 10 rfl) ?_
    refine g_dup hX (dk DX0_stop_0 11 rfl) rfl ?_
    refine g_getIv hX (dk DX0_stop_0 12 rfl) KX0 fX0_120 (by decide) rfl (CLt hH (q := 13) (by decide)) (CC hH 13 (by decide) rfl) ((show _ = st from t10)) ?_
    refine g_iconst (v := 1) hX (dk DX0_stop_0 13 rfl) (by decide) ?_
    refine g_iadd hX (dk DX0_stop_0 14 rfl) ?_
    refine g_putI hX (dk DX0_stop_0 15 rfl) KX0 fX0_120 (by decide) rfl (CLt hH (q := 13) (by decide)) (CC hH 13 (by decide) rfl) (Or.inl rfl) (rfl) (rfl) ?_
    refine g_aload_0 hX (dk DX0_stop_0 16 rfl) ?_
    refine g_getIv hX (dk DX0_stop_0 17 rfl) KX0 fX0_140 (by decide) rfl (CLt hH (q := 13) (by decide)) (CC hH 13 (by decide) rfl) ((show _ = had from t8)) ?_
    refine g_aload_0 hX (dk DX0_stop_0 18 rfl) ?_
    refine g_getRs (r := 1) hX (dk DX0_stop_0 19 rfl) KX0 fX0_34 (by decide) rfl (CLt hH (q := 13) (by decide)) (CC hH 13 (by decide) rfl) (CR hH 13 0 1 (by decide)) ?_
    refine g_c1I hX sX0_stop_38 (by decide) (Nat.le_of_ble_eq_true rfl) (rc0 rfl (CLt hH (by decide)) (CC hH 1 (by decide) rfl)) (by decide) (by decide) (c_X5_callsAtFirst hG (hW.sc (fun a ha => by simp only [upI_off (show a ≠ 13 by omega)]))) ?_
    refine g_nmI (callF E) (ca_e hE (hZ.sc hE (fun a ha => by simp only [upI_off (show a ≠ 13 by omega)]))).1 ?_
    refine g_aload_0 hX (dk DX0_stop_0 21 rfl) ?_
    refine g_getRs (r := 1) hX (dk DX0_stop_0 22 rfl) KX0 fX0_34 (by decide) rfl (CLt hH (q := 13) (by decide)) (CC hH 13 (by decide) rfl) (CR hH 13 0 1 (by decide)) ?_
    refine g_c1I hX sX0_stop_45 (by decide) (Nat.le_of_ble_eq_true rfl) (rc0 rfl (CLt hH (by decide)) (CC hH 1 (by decide) rfl)) (by decide) (by decide) (c_X5_callsFading hG (hW.sc (fun a ha => by simp only [upI_off (show a ≠ 13 by omega)]))) ?_
    refine g_nmI (fadeF E) (ca_e hE (hZ.sc hE (fun a ha => by simp only [upI_off (show a ≠ 13 by omega)]))).2 ?_
    refine g_iload_2 hX (dk DX0_stop_0 24 rfl) ?_
    refine g_imul hX (dk DX0_stop_0 25 rfl) ?_
    refine g_isub hX (dk DX0_stop_0 26 rfl) ?_
    refine g_icmp_ge (tgt := 58) hX (dk DX0_stop_0 27 rfl) (by decide) (fun hc11 => ?_) (fun hc11 => ?_)
    · have hm : ¬ had < mayF E x := Int32.not_lt.mpr hc11
      refine g_iconst (v := 0) hX (dk DX0_stop_0 30 rfl) (by decide) ?_
      refine g_istore_3 hX (dk DX0_stop_0 31 rfl) (by decide) rfl ?_
      refine g_iload_3 hX (dk DX0_stop_0 32 rfl) ?_
      refine g_if_eq (tgt := 84) hX (dk DX0_stop_0 33 rfl) (by decide) (fun hc12 => ?_) (fun hc12 => absurd (by decide) hc12)
      refine g_aload_0 hX (dk DX0_stop_0 46 rfl) ?_
      refine g_dup hX (dk DX0_stop_0 47 rfl) rfl ?_
      refine g_getIv hX (dk DX0_stop_0 48 rfl) KX0 fX0_117 (by decide) rfl (CLt hH (q := 13) (by decide)) (CC hH 13 (by decide) rfl) ((show _ = co from t7)) ?_
      refine g_iload_3 hX (dk DX0_stop_0 49 rfl) ?_
      refine g_if_eq (tgt := 97) hX (dk DX0_stop_0 50 rfl) (by decide) (fun hc13 => ?_) (fun hc13 => absurd (by decide) hc13)
      refine g_aload_0 hX (dk DX0_stop_0 53 rfl) ?_
      refine g_getRs (r := 15) hX (dk DX0_stop_0 54 rfl) KX0 fX0_17 (by decide) rfl (CLt hH (q := 13) (by decide)) (CC hH 13 (by decide) rfl) (CR hH 13 3 15 (by decide)) ?_
      refine g_aload_1 hX (dk DX0_stop_0 55 rfl) ?_
      refine g_getD (v := (nI d)) hX (dk DX0_stop_0 56 rfl) fX0_93 (by decide) g3 (by rw [g4]; exact kcl_dc _) ((by first | exact g5 | (simp only [upI_off (show dn h d ≠ 13 by omega)]; exact g5))) ?_
      refine g_iload_2 hX (dk DX0_stop_0 57 rfl) ?_
      refine g_c2I hX sX0_stop_106 (by decide) (Nat.le_of_ble_eq_true rfl) rcN (by decide) (by decide) (c_X0_dearCell hG) ?_
      refine g_nmI (nI (d * 60 + x % 60)) (dcell (by omega)) ?_
      refine v_iaload hX (dk DX0_stop_0 59 rfl) (CLt hH (q := 15) (by decide)) (CS hH 15 (by decide) rfl) (⟨rfl, dcell_lt (by omega), by decide⟩) ((show _ = dearF E d (nI x) from hde)) ?_
      refine g_iadd hX (dk DX0_stop_1 0 rfl) ?_
      refine g_putI hX (dk DX0_stop_1 1 rfl) KX0 fX0_117 (by decide) rfl (CLt hH (q := 13) (by decide)) (CC hH 13 (by decide) rfl) (Or.inl rfl) (rfl) (rfl) ?_
      refine g_iload_3 hX (dk DX0_stop_1 2 rfl) ?_
      refine g_if_eq (tgt := 128) hX (dk DX0_stop_1 3 rfl) (by decide) (fun hc14 => ?_) (fun hc14 => absurd (by decide) hc14)
      refine g_aload_1 hX (dk DX0_stop_1 8 rfl) ?_
      refine g_c1I hX (sD_X0_stop_129 _ (by rw [g4]; exact kcl_dc _)) (by decide) (Nat.le_of_ble_eq_true rfl) (rc0 rfl g3 rfl) (by decide) (by decide) (cD_isKnownByStop hG g3 (by rw [g4]; exact kcl_dc _)) ?_
      refine g_nmI (klV E d) (by first | (rw [g4, g6]; exact kc2) | (simp only [upI_off (show dn h d ≠ 13 by omega)]; rw [g4, g6]; exact kc2)) ?_
      refine g_if_eq (tgt := 150) hX (dk DX0_stop_1 10 rfl) (by decide) (fun hc15 => ?_) (fun hc15 => ?_)
      · refine g_return hX (dk DX0_stop_1 20 rfl) rfl (by decide) (by decide) ?_
        exact qV_of ⟨rfl, by unfold csS; dsimp only; (try first | rw [if_pos hc1] | rw [if_neg hc1] | rw [if_neg (not_not_intro hc1)]); (try first | rw [if_pos hc11] | rw [if_neg hc11] | rw [if_neg (not_not_intro hc11)]); (try first | rw [if_pos hc12] | rw [if_neg hc12] | rw [if_neg (not_not_intro hc12)]); (try first | rw [if_pos hc13] | rw [if_neg hc13] | rw [if_neg (not_not_intro hc13)]); (try first | rw [if_pos hc14] | rw [if_neg hc14] | rw [if_neg (not_not_intro hc14)]); (try first | rw [if_pos hc15] | rw [if_neg hc15] | rw [if_neg (not_not_intro hc15)]); (try first | rw [if_pos hc1] | rw [if_neg hc1] | rw [if_neg (not_not_intro hc1)]); (try first | rw [if_pos hc11] | rw [if_neg hc11] | rw [if_neg (not_not_intro hc11)]); (try first | rw [if_pos hc12] | rw [if_neg hc12] | rw [if_neg (not_not_intro hc12)]); (try first | rw [if_pos hc13] | rw [if_neg hc13] | rw [if_neg (not_not_intro hc13)]); (try first | rw [if_pos hc14] | rw [if_neg hc14] | rw [if_neg (not_not_intro hc14)]); (try first | rw [if_pos hc15] | rw [if_neg hc15] | rw [if_neg (not_not_intro hc15)]); (try first | rw [if_pos hm] | rw [if_neg hm]); exact ⟨t6, by first | rfl | exact t8, by first | rfl | exact t9, rfl, rfl, by first | rfl | exact t11, by first | rfl | exact t12, by first | rfl | exact t13⟩, fun a ha => by simp only [upI_off ha], rfl⟩
      · refine g_aload_0 hX (dk DX0_stop_1 11 rfl) ?_
        refine g_dup hX (dk DX0_stop_1 12 rfl) rfl ?_
        refine g_getIv hX (dk DX0_stop_1 13 rfl) KX0 fX0_111 (by decide) rfl (CLt hH (q := 13) (by decide)) (CC hH 13 (by decide) rfl) ((show _ = kn from t9)) ?_
        refine g_iconst (v := 1) hX (dk DX0_stop_1 14 rfl) (by decide) ?_
        refine g_aload_1 hX (dk DX0_stop_1 15 rfl) ?_
        refine g_getD (v := (nI d)) hX (dk DX0_stop_1 16 rfl) fX0_93 (by decide) g3 (by rw [g4]; exact kcl_dc _) ((by first | exact g5 | (simp only [upI_off (show dn h d ≠ 13 by omega)]; exact g5))) ?_
        refine g_ishl hX (dk DX0_stop_1 17 rfl) ?_
        refine g_ior hX (dk DX0_stop_1 18 rfl) ?_
        refine g_putI hX (dk DX0_stop_1 19 rfl) KX0 fX0_111 (by decide) rfl (CLt hH (q := 13) (by decide)) (CC hH 13 (by decide) rfl) (Or.inl rfl) (rfl) (rfl) ?_
        refine g_return hX (dk DX0_stop_1 20 rfl) rfl (by decide) (by decide) ?_
        exact qV_of ⟨rfl, by unfold csS; dsimp only; (try first | rw [if_pos hc1] | rw [if_neg hc1] | rw [if_neg (not_not_intro hc1)]); (try first | rw [if_pos hc11] | rw [if_neg hc11] | rw [if_neg (not_not_intro hc11)]); (try first | rw [if_pos hc12] | rw [if_neg hc12] | rw [if_neg (not_not_intro hc12)]); (try first | rw [if_pos hc13] | rw [if_neg hc13] | rw [if_neg (not_not_intro hc13)]); (try first | rw [if_pos hc14] | rw [if_neg hc14] | rw [if_neg (not_not_intro hc14)]); (try first | rw [if_pos hc15] | rw [if_neg hc15] | rw [if_neg (not_not_intro hc15)]); (try first | rw [if_pos hc1] | rw [if_neg hc1] | rw [if_neg (not_not_intro hc1)]); (try first | rw [if_pos hc11] | rw [if_neg hc11] | rw [if_neg (not_not_intro hc11)]); (try first | rw [if_pos hc12] | rw [if_neg hc12] | rw [if_neg (not_not_intro hc12)]); (try first | rw [if_pos hc13] | rw [if_neg hc13] | rw [if_neg (not_not_intro hc13)]); (try first | rw [if_pos hc14] | rw [if_neg hc14] | rw [if_neg (not_not_intro hc14)]); (try first | rw [if_pos hc15] | rw [if_neg hc15] | rw [if_neg (not_not_intro hc15)]); (try first | rw [if_pos hm] | rw [if_neg hm]); exact ⟨t6, by first | rfl | exact t8, by first | rfl | exact t9, rfl, rfl, by first | rfl | exact t11, by first | rfl | exact t12, by first | rfl | exact t13⟩, fun a ha => by simp only [upI_off ha], rfl⟩
    · have hm : had < mayF E x := Int32.not_le.mp hc11
      refine g_iconst (v := 1) hX (dk DX0_stop_0 28 rfl) (by decide) ?_
      refine g_goto (tgt := 59) hX (dk DX0_stop_0 29 rfl) (by decide) ?_
      refine g_istore_3 hX (dk DX0_stop_0 31 rfl) (by decide) rfl ?_
      refine g_iload_3 hX (dk DX0_stop_0 32 rfl) ?_
      refine g_if_eq (tgt := 84) hX (dk DX0_stop_0 33 rfl) (by decide) (fun hc16 => absurd hc16 (by decide)) (fun hc16 => ?_)
      refine g_aload_0 hX (dk DX0_stop_0 34 rfl) ?_
      refine g_dup hX (dk DX0_stop_0 35 rfl) rfl ?_
      refine g_getIv hX (dk DX0_stop_0 36 rfl) KX0 fX0_140 (by decide) rfl (CLt hH (q := 13) (by decide)) (CC hH 13 (by decide) rfl) ((show _ = had from t8)) ?_
      refine g_iconst (v := 1) hX (dk DX0_stop_0 37 rfl) (by decide) ?_
      refine g_iadd hX (dk DX0_stop_0 38 rfl) ?_
      refine g_putI hX (dk DX0_stop_0 39 rfl) KX0 fX0_140 (by decide) rfl (CLt hH (q := 13) (by decide)) (CC hH 13 (by decide) rfl) (Or.inl rfl) (rfl) (rfl) ?_
      refine g_aload_0 hX (dk DX0_stop_0 40 rfl) ?_
      refine g_dup hX (dk DX0_stop_0 41 rfl) rfl ?_
      refine g_getIv hX (dk DX0_stop_0 42 rfl) KX0 fX0_123 (by decide) rfl (CLt hH (q := 13) (by decide)) (CC hH 13 (by decide) rfl) ((show _ = ca from t11)) ?_
      refine g_iconst (v := 1) hX (dk DX0_stop_0 43 rfl) (by decide) ?_
      refine g_iadd hX (dk DX0_stop_0 44 rfl) ?_
      refine g_putI hX (dk DX0_stop_0 45 rfl) KX0 fX0_123 (by decide) rfl (CLt hH (q := 13) (by decide)) (CC hH 13 (by decide) rfl) (Or.inl rfl) (rfl) (rfl) ?_
      refine g_aload_0 hX (dk DX0_stop_0 46 rfl) ?_
      refine g_dup hX (dk DX0_stop_0 47 rfl) rfl ?_
      refine g_getIv hX (dk DX0_stop_0 48 rfl) KX0 fX0_117 (by decide) rfl (CLt hH (q := 13) (by decide)) (CC hH 13 (by decide) rfl) ((show _ = co from t7)) ?_
      refine g_iload_3 hX (dk DX0_stop_0 49 rfl) ?_
      refine g_if_eq (tgt := 97) hX (dk DX0_stop_0 50 rfl) (by decide) (fun hc17 => absurd hc17 (by decide)) (fun hc17 => ?_)
      refine g_iconst (v := 1) hX (dk DX0_stop_0 51 rfl) (by decide) ?_
      refine g_goto (tgt := 110) hX (dk DX0_stop_0 52 rfl) (by decide) ?_
      refine g_iadd hX (dk DX0_stop_1 0 rfl) ?_
      refine g_putI hX (dk DX0_stop_1 1 rfl) KX0 fX0_117 (by decide) rfl (CLt hH (q := 13) (by decide)) (CC hH 13 (by decide) rfl) (Or.inl rfl) (rfl) (rfl) ?_
      refine g_iload_3 hX (dk DX0_stop_1 2 rfl) ?_
      refine g_if_eq (tgt := 128) hX (dk DX0_stop_1 3 rfl) (by decide) (fun hc18 => absurd hc18 (by decide)) (fun hc18 => ?_)
      refine g_aload_1 hX (dk DX0_stop_1 4 rfl) ?_
      refine g_c1I hX (sD_X0_stop_119 _ (by rw [g4]; exact kcl_dc _)) (by decide) (Nat.le_of_ble_eq_true rfl) (rc0 rfl g3 rfl) (by decide) (by decide) (cD_isKnownByCall hG g3 (by rw [g4]; exact kcl_dc _)) ?_
      refine g_nmI (kcV E d) (by rw [g4]; exact kc1) ?_
      refine g_if_eq (tgt := 150) hX (dk DX0_stop_1 6 rfl) (by decide) (fun hc19 => ?_) (fun hc19 => ?_)
      · refine g_return hX (dk DX0_stop_1 20 rfl) rfl (by decide) (by decide) ?_
        exact qV_of ⟨rfl, by unfold csS; dsimp only; (try first | rw [if_pos hc1] | rw [if_neg hc1] | rw [if_neg (not_not_intro hc1)]); (try first | rw [if_pos hc11] | rw [if_neg hc11] | rw [if_neg (not_not_intro hc11)]); (try first | rw [if_pos hc16] | rw [if_neg hc16] | rw [if_neg (not_not_intro hc16)]); (try first | rw [if_pos hc17] | rw [if_neg hc17] | rw [if_neg (not_not_intro hc17)]); (try first | rw [if_pos hc18] | rw [if_neg hc18] | rw [if_neg (not_not_intro hc18)]); (try first | rw [if_pos hc19] | rw [if_neg hc19] | rw [if_neg (not_not_intro hc19)]); (try first | rw [if_pos hc1] | rw [if_neg hc1] | rw [if_neg (not_not_intro hc1)]); (try first | rw [if_pos hc11] | rw [if_neg hc11] | rw [if_neg (not_not_intro hc11)]); (try first | rw [if_pos hc16] | rw [if_neg hc16] | rw [if_neg (not_not_intro hc16)]); (try first | rw [if_pos hc17] | rw [if_neg hc17] | rw [if_neg (not_not_intro hc17)]); (try first | rw [if_pos hc18] | rw [if_neg hc18] | rw [if_neg (not_not_intro hc18)]); (try first | rw [if_pos hc19] | rw [if_neg hc19] | rw [if_neg (not_not_intro hc19)]); (try first | rw [if_pos hm] | rw [if_neg hm]); exact ⟨t6, by first | rfl | exact t8, by first | rfl | exact t9, rfl, rfl, by first | rfl | exact t11, by first | rfl | exact t12, by first | rfl | exact t13⟩, fun a ha => by simp only [upI_off ha], rfl⟩
      · refine g_goto (tgt := 135) hX (dk DX0_stop_1 7 rfl) (by decide) ?_
        refine g_aload_0 hX (dk DX0_stop_1 11 rfl) ?_
        refine g_dup hX (dk DX0_stop_1 12 rfl) rfl ?_
        refine g_getIv hX (dk DX0_stop_1 13 rfl) KX0 fX0_111 (by decide) rfl (CLt hH (q := 13) (by decide)) (CC hH 13 (by decide) rfl) ((show _ = kn from t9)) ?_
        refine g_iconst (v := 1) hX (dk DX0_stop_1 14 rfl) (by decide) ?_
        refine g_aload_1 hX (dk DX0_stop_1 15 rfl) ?_
        refine g_getD (v := (nI d)) hX (dk DX0_stop_1 16 rfl) fX0_93 (by decide) g3 (by rw [g4]; exact kcl_dc _) ((by first | exact g5 | (simp only [upI_off (show dn h d ≠ 13 by omega)]; exact g5))) ?_
        refine g_ishl hX (dk DX0_stop_1 17 rfl) ?_
        refine g_ior hX (dk DX0_stop_1 18 rfl) ?_
        refine g_putI hX (dk DX0_stop_1 19 rfl) KX0 fX0_111 (by decide) rfl (CLt hH (q := 13) (by decide)) (CC hH 13 (by decide) rfl) (Or.inl rfl) (rfl) (rfl) ?_
        refine g_return hX (dk DX0_stop_1 20 rfl) rfl (by decide) (by decide) ?_
        exact qV_of ⟨rfl, by unfold csS; dsimp only; (try first | rw [if_pos hc1] | rw [if_neg hc1] | rw [if_neg (not_not_intro hc1)]); (try first | rw [if_pos hc11] | rw [if_neg hc11] | rw [if_neg (not_not_intro hc11)]); (try first | rw [if_pos hc16] | rw [if_neg hc16] | rw [if_neg (not_not_intro hc16)]); (try first | rw [if_pos hc17] | rw [if_neg hc17] | rw [if_neg (not_not_intro hc17)]); (try first | rw [if_pos hc18] | rw [if_neg hc18] | rw [if_neg (not_not_intro hc18)]); (try first | rw [if_pos hc19] | rw [if_neg hc19] | rw [if_neg (not_not_intro hc19)]); (try first | rw [if_pos hc1] | rw [if_neg hc1] | rw [if_neg (not_not_intro hc1)]); (try first | rw [if_pos hc11] | rw [if_neg hc11] | rw [if_neg (not_not_intro hc11)]); (try first | rw [if_pos hc16] | rw [if_neg hc16] | rw [if_neg (not_not_intro hc16)]); (try first | rw [if_pos hc17] | rw [if_neg hc17] | rw [if_neg (not_not_intro hc17)]); (try first | rw [if_pos hc18] | rw [if_neg hc18] | rw [if_neg (not_not_intro hc18)]); (try first | rw [if_pos hc19] | rw [if_neg hc19] | rw [if_neg (not_not_intro hc19)]); (try first | rw [if_pos hm] | rw [if_neg hm]); exact ⟨t6, by first | rfl | exact t8, by first | rfl | exact t9, rfl, rfl, by first | rfl | exact t11, by first | rfl | exact t12, by first | rfl | exact t13⟩, fun a ha => by simp only [upI_off ha], rfl⟩
end
section
set_option maxRecDepth 8000 in
set_option maxHeartbeats 4000000 in
theorem e_stopAll {G : Gt} (hG : Gok G) {I : It} {h : Ht}  {E : It} {L : Nat → Int64} (hE : Inv E) (hZ : RZ E L I h) {u : Int32} {x : Nat} (hx : x ≤ 20000) {had kn co st ca fw fd idl : Int32} (hT : TAx I idl (had, kn, co, st, ca, fw, fd)) (hde : ∀ d, d < cnt E → gb u d = true → I 15 (d * 60 + x % 60) = dearF E d (nI x)) : Con G (5) 0 0 mX0_stopAll [.ref 13, .int u, .int (nI x)] I h (qV (fun J h2 => h2 = h ∧ TA6 J idl (csR E x (mayF E x) u (cnt E) 0 (0, kn, co, st, ca, fw, fd)) ∧ (∀ a, a ≠ 13 → J a = I a) ∧ J 13 1 = I 13 1)) := by
  refine con_intro (own := RX0) (lo0 := [some (.ref 13), some (.int u), some (.int (nI x)), none, none]) hG rfl pl_X0 (Nat.le_of_ble_eq_true rfl) rfl (fun X hX => ?_)
  have hW := hZ.1.wx hE
  have hH := hW.1
  have hc10 := (inv_cnt hE).2
  have hw9 := (inv_wk hE).2
  have loop7 : ∀ (k d : Nat) (A : WS) (J : It), d + k = cnt E → TA6 J idl A → (∀ a, a ≠ 13 → J a = I a) → J 13 1 = I 13 1 → csR E x (mayF E x) u k d A = csR E x (mayF E x) u (cnt E) 0 (0, kn, co, st, ca, fw, fd) → GG G (5) 0 0 X (qV (fun J h2 => h2 = h ∧ TA6 J idl (csR E x (mayF E x) u (cnt E) 0 (0, kn, co, st, ca, fw, fd)) ∧ (∀ a, a ≠ 13 → J a = I a) ∧ J 13 1 = I 13 1)) 7 [some (.ref 13), some (.int u), some (.int (nI x)), some (.int (nI d)), none] [] (J) (h) 0 0 := by
    intro k
    induction k using Nat.strongRecOn with | _ k ih => ?_
    intro d A J hk hA hJ hsp hv
    obtain ⟨had2, kn2, co2, st2, ca2, fw2, fd2⟩ := A
    have hS : Sc I J := Sc.of1 hJ (by decide)
    have hZJ := hZ.sc hE hS
    have hWJ := hZJ.1.wx hE
    refine g_iload_3 hX (dk DX0_stopAll 5 rfl) ?_
    refine g_aload_0 hX (dk DX0_stopAll 6 rfl) ?_
    refine g_getRs (r := 1) hX (dk DX0_stopAll 7 rfl) KX0 fX0_34 (by decide) rfl (CLt hH (q := 13) (by decide)) (CC hH 13 (by decide) rfl) (CR hH 13 0 1 (by decide)) ?_
    refine g_getIv hX (dk DX0_stopAll 8 rfl) KX5 fX0_69 (by decide) rfl (CLt hH (q := 1) (by decide)) (CC hH 1 (by decide) rfl) (hZJ.1.2.1.1.1.trans (inv_cnt hE).1) ?_
    refine g_icmp_ge (tgt := 54) hX (dk DX0_stopAll 9 rfl) (by decide) (fun hc1 => ?_) (fun hc1 => ?_)
    · refine g_return hX (dk DX0_stopAll 27 rfl) rfl (by decide) (by decide) ?_
      have hk0 := cl_end hk (by omega) hc1
      subst hk0
      exact qV_of ⟨rfl, by rw [← hv]; exact hA, hJ, hsp⟩
    · obtain ⟨k, rfl⟩ := cl_go hk (by omega) hc1
      have hd : d < cnt E := by omega
      obtain ⟨g1, g2, g3, g4, g5, g6, g7, g8, g9, g10⟩ := hZJ.1.d hd
      refine g_aload_0 hX (dk DX0_stopAll 10 rfl) ?_
      refine g_getRs (r := 1) hX (dk DX0_stopAll 11 rfl) KX0 fX0_34 (by decide) rfl (CLt hH (q := 13) (by decide)) (CC hH 13 (by decide) rfl) (CR hH 13 0 1 (by decide)) ?_
      refine g_iload_3 hX (dk DX0_stopAll 12 rfl) ?_
      refine g_c2R hX sX0_stopAll_23 (by decide) (Nat.le_of_ble_eq_true rfl) (rc0 rfl (CLt hH (by decide)) (CC hH 1 (by decide) rfl)) (by decide) (by decide) (c_X5_find hG hWJ (by rw [hZJ.1.cn]; exact hd)) ?_
      refine g_astore_4 hX (dk DX0_stopAll 14 rfl) (by decide) rfl ?_
      refine g_aload_4 hX (dk DX0_stopAll 15 rfl) ?_
      refine g_ifnullR hX (dk DX0_stopAll 16 rfl) ?_
      refine g_iload_1 hX (dk DX0_stopAll 17 rfl) ?_
      refine g_iload_3 hX (dk DX0_stopAll 18 rfl) ?_
      refine g_c2I hX sX0_stopAll_35 (by decide) (Nat.le_of_ble_eq_true rfl) rcN (by decide) (by decide) (c_X11_bit hG) ?_
      refine g_if_eq (tgt := 48) hX (dk DX0_stopAll 20 rfl) (by decide) (fun hc2 => ?_) (fun hc2 => ?_)
      · refine g_iinc_3 hX (dk DX0_stopAll 25 rfl) (nI_1 d) (by decide) rfl ?_
        refine g_goto (tgt := 7) hX (dk DX0_stopAll 26 rfl) (by decide) ?_
        first
        | exact g_fgt (ih k (by omega) (d + 1) _ J2 (by omega) q1 (fun a ha => (q2 a ha).trans (hJ a ha)) (q3.trans hsp) (by rw [← hv, csR_s, if_pos hg])) ⟨rfl, rfl, rfl, rfl, trivial⟩
        | exact g_fgt (ih k (by omega) (d + 1) _ J (by omega) hA hJ hsp (by rw [← hv, csR_s, if_neg (by rw [(has_0 u (by omega)).mp (by assumption)]; decide)])) ⟨rfl, rfl, rfl, rfl, trivial⟩
      · have hg : gb u d = true := by
          cases z : gb u d with
          | true => rfl
          | false => exact absurd ((has_0 u (by omega)).mpr z) hc2
        refine g_aload_0 hX (dk DX0_stopAll 21 rfl) ?_
        refine g_aload_4 hX (dk DX0_stopAll 22 rfl) ?_
        refine g_iload_2 hX (dk DX0_stopAll 23 rfl) ?_
        refine g_c3v hX sX0_stopAll_45 (by decide) (Nat.le_of_ble_eq_true rfl) (rc0 rfl (CLt hH (by decide)) (CC hH 13 (by decide) rfl)) (by decide) (by decide) (e_stop hG hE hZJ hd hx hA (by rw [hJ 15 (by decide)]; exact hde d hd hg)) ?_
        rintro J2 _ ⟨rfl, q1, q2, q3⟩
        refine g_iinc_3 hX (dk DX0_stopAll 25 rfl) (nI_1 d) (by decide) rfl ?_
        refine g_goto (tgt := 7) hX (dk DX0_stopAll 26 rfl) (by decide) ?_
        first
        | exact g_fgt (ih k (by omega) (d + 1) _ J2 (by omega) q1 (fun a ha => (q2 a ha).trans (hJ a ha)) (q3.trans hsp) (by rw [← hv, csR_s, if_pos hg])) ⟨rfl, rfl, rfl, rfl, trivial⟩
        | exact g_fgt (ih k (by omega) (d + 1) _ J (by omega) hA hJ hsp (by rw [← hv, csR_s, if_neg (by rw [(has_0 u (by omega)).mp (by assumption)]; decide)])) ⟨rfl, rfl, rfl, rfl, trivial⟩
  refine g_aload_0 hX (dk DX0_stopAll 0 rfl) ?_
  refine g_iconst (v := 0) hX (dk DX0_stopAll 1 rfl) (by decide) ?_
  refine g_putI hX (dk DX0_stopAll 2 rfl) KX0 fX0_140 (by decide) rfl (CLt hH (q := 13) (by decide)) (CC hH 13 (by decide) rfl) (Or.inl rfl) (rfl) (rfl) ?_
  refine g_iconst (v := 0) hX (dk DX0_stopAll 3 rfl) (by decide) ?_
  refine g_istore_3 hX (dk DX0_stopAll 4 rfl) (by decide) rfl ?_
  exact g_fgt (loop7 (cnt E) 0 _ _ (Nat.zero_add _) hT.start (fun a ha => upI_off ha) rfl rfl) ⟨rfl, rfl, rfl, rfl, trivial⟩

set_option maxRecDepth 8000 in
set_option maxHeartbeats 4000000 in
theorem e_pass {G : Gt} (hG : Gok G) {I : It} {h : Ht}  {E : It} {L : Nat → Int64} (hE : Inv E) (hZ : RZ E L I h) {a b : Int32} (ha : kb (cnt E) a) (hb : kb (cnt E) b) {m : Nat} (hm : m ≤ 200) (hsp : I 13 1 = nI m) (hAH : AH E I m) : Con G (6) 0 0 mX0_pass [.ref 13, .int a, .int b] I h (qI (fun v J h2 => v = costF E a b m ∧ TAx J b (runF E a b m) ∧ P2 I J ∧ h2 = h)) := by
  refine con_intro (own := RX0) (lo0 := [some (.ref 13), some (.int a), some (.int b), none]) hG rfl pl_X0 (Nat.le_of_ble_eq_true rfl) rfl (fun X hX => ?_)
  have hW := hZ.1.wx hE
  have hH := hW.1
  have hc10 := (inv_cnt hE).2
  have hw9 := (inv_wk hE).2
  have loop101 : ∀ (o mm : Nat) (D R : WS) (J : It), o < m → mm < 1024 → P2 I J → TAx J b D → cbF E (wk E + o) &&& b &&& D.2.1 = nI mm → R.2 = (D.2.1, D.2.2.1 + nI (onesN mm), D.2.2.2) → (∀ (J2 : It), P2 I J2 → TAx J2 b R → GG G 6 0 0 X (qI (fun v J h2 => v = costF E a b m ∧ TAx J b (runF E a b m) ∧ P2 I J ∧ h2 = h)) 39 [some (.ref 13), some (.int (a)), some (.int (b)), some (.int (nI (o + 1)))] [] J2 h 0 0) → GG G (6) 0 0 X (qI (fun v J h2 => v = costF E a b m ∧ TAx J b (runF E a b m) ∧ P2 I J ∧ h2 = h)) 101 [some (.ref 13), some (.int a), some (.int b), some (.int (nI o))] [] (J) (h) 0 0 := by
    intro o mm D R J hom hm10 hP hD emm eR kk
    obtain ⟨had3, kn3, co3, st3, ca3, fw3, fd3⟩ := D
    obtain ⟨u6, u9, u7, u10, u11, u12, u13⟩ := id hD
    refine g_aload_0 hX (dk DX0_pass_1 1 rfl) ?_
    refine g_dup hX (dk DX0_pass_1 2 rfl) rfl ?_
    refine g_getIv hX (dk DX0_pass_1 3 rfl) KX0 fX0_117 (by decide) rfl (CLt hH (q := 13) (by decide)) (CC hH 13 (by decide) rfl) (u7) ?_
    refine g_aload_0 hX (dk DX0_pass_1 4 rfl) ?_
    refine g_getRs (r := 14) hX (dk DX0_pass_1 5 rfl) KX0 fX0_9 (by decide) rfl (CLt hH (q := 13) (by decide)) (CC hH 13 (by decide) rfl) (CR hH 13 2 14 (by decide)) ?_
    refine g_iload_3 hX (dk DX0_pass_1 6 rfl) ?_
    refine v_iaload hX (dk DX0_pass_1 7 rfl) (CLt hH (q := 14) (by decide)) (CS hH 14 (by decide) rfl) (⟨rfl, by omega, by decide⟩) (((hAH.p2 hP).1 o hom)) ?_
    refine g_aload_0 hX (dk DX0_pass_1 8 rfl) ?_
    refine g_getIv hX (dk DX0_pass_1 9 rfl) KX0 fX0_114 (by decide) rfl (CLt hH (q := 13) (by decide)) (CC hH 13 (by decide) rfl) (u6) ?_
    refine g_iand hX (dk DX0_pass_1 10 rfl) ?_
    refine g_aload_0 hX (dk DX0_pass_1 11 rfl) ?_
    refine g_getIv hX (dk DX0_pass_1 12 rfl) KX0 fX0_111 (by decide) rfl (CLt hH (q := 13) (by decide)) (CC hH 13 (by decide) rfl) (u9) ?_
    refine g_iand hX (dk DX0_pass_1 13 rfl) ?_
    refine g_c1q hX sX0_pass_122 (by decide) (Nat.le_of_ble_eq_true rfl) rcN (by decide) (by decide) (c_J6_bitCount_0f7a4 hG) ?_
    rintro y I9 h9 ⟨hy, rfl, rfl⟩
    refine g_nmI (nI (onesN mm)) (hy mm hm10 emm) ?_
    refine g_iadd hX (dk DX0_pass_1 15 rfl) ?_
    refine g_putI hX (dk DX0_pass_1 16 rfl) KX0 fX0_117 (by decide) rfl (CLt hH (q := 13) (by decide)) (CC hH 13 (by decide) rfl) (Or.inl rfl) (rfl) (rfl) ?_
    refine g_iinc_3 hX (dk DX0_pass_1 17 rfl) (nI_1 o) (by decide) rfl ?_
    refine g_goto (tgt := 39) hX (dk DX0_pass_1 18 rfl) (by decide) ?_
    exact g_fgt (kk _ (hP.u13 (by decide)) (TAx.e (a := (had3, kn3, co3 + nI (onesN mm), st3, ca3, fw3, fd3)) ⟨u6, u9, rfl, u10, u11, u12, u13⟩ eR.symm)) ⟨rfl, rfl, rfl, rfl, trivial⟩
  have loop39 : ∀ (k o : Nat) (A : WS) (J : It), o + k = m → P2 I J → TAx J b A → kb (cnt E) A.2.1 → FW (10 * o) A.2.2.2.1 A.2.2.2.2.2.1 → wksF E b k (wk E + o) A = runF E a b m → GG G (6) 0 0 X (qI (fun v J h2 => v = costF E a b m ∧ TAx J b (runF E a b m) ∧ P2 I J ∧ h2 = h)) 39 [some (.ref 13), some (.int a), some (.int b), some (.int (nI o))] [] (J) (h) 0 0 := by
    intro k
    induction k using Nat.strongRecOn with | _ k ih => ?_
    intro o A J hk hP hA hkn hF hv
    obtain ⟨had2, kn2, co2, st2, ca2, fw2, fd2⟩ := A
    have hS := hP.sc
    have hZJ := hZ.sc hE hS
    have hWJ := hZJ.1.wx hE
    have hAJ := hAH.p2 hP
    obtain ⟨t6, t9, t7, t10, t11, t12, t13⟩ := id hA
    refine g_iload_3 hX (dk DX0_pass_0 23 rfl) ?_
    refine g_aload_0 hX (dk DX0_pass_0 24 rfl) ?_
    refine g_getIv hX (dk DX0_pass_0 25 rfl) KX0 fX0_47 (by decide) rfl (CLt hH (q := 13) (by decide)) (CC hH 13 (by decide) rfl) ((hP.2.trans hsp)) ?_
    refine g_icmp_ge (tgt := 135) hX (dk DX0_pass_0 26 rfl) (by decide) (fun hc1 => ?_) (fun hc1 => ?_)
    · refine g_aload_0 hX (dk DX0_pass_1 19 rfl) ?_
      refine g_getIv hX (dk DX0_pass_1 20 rfl) KX0 fX0_117 (by decide) rfl (CLt hH (q := 13) (by decide)) (CC hH 13 (by decide) rfl) (t7) ?_
      refine g_ireturn hX (dk DX0_pass_1 21 rfl) rfl (rfl) (by decide) (by decide) ?_
      have hk0 := ct_end hk (by omega) hc1
      subst hk0
      have hv2 : (had2, kn2, co2, st2, ca2, fw2, fd2) = runF E a b m := hv
      exact qI_of ⟨by unfold costF; rw [← hv2], by rw [← hv2]; exact hA, hP, rfl⟩
    · obtain ⟨k, rfl⟩ := ct_go hk (by omega) hc1
      have hom : o < m := by omega
      obtain ⟨mm, hm10, emm, ewk, hF2, hkb2⟩ := week_e hE (idl := b) (w := wk E + o) (N := 10 * o) (by omega) (by omega) (had := had2) (kn := kn2) (co := co2) (st := st2) (ca := ca2) (fw := fw2) (fd := fd2) hkn hb hF
      have hst : wksF E b (k + 1) (wk E + o) (had2, kn2, co2, st2, ca2, fw2, fd2) = wksF E b k (wk E + (o + 1)) (wkF E b (wk E + o) (had2, kn2, co2, st2, ca2, fw2, fd2)) := wksF_s E b k (wk E + o) _
      have kk := fun (J2 : It) (h1 : P2 I J2) (h2 : TAx J2 b (wkF E b (wk E + o) (had2, kn2, co2, st2, ca2, fw2, fd2))) => ih k (by omega) (o + 1) _ J2 (by omega) h1 h2 hkb2 (by rw [show 10 * (o + 1) = 10 * o + 10 by omega]; exact hF2) (by rw [← hst]; exact hv)
      refine g_aload_0 hX (dk DX0_pass_0 27 rfl) ?_
      refine g_getRs (r := 27) hX (dk DX0_pass_0 28 rfl) KX0 fX0_25 (by decide) rfl (CLt hH (q := 13) (by decide)) (CC hH 13 (by decide) rfl) (CR hH 13 5 27 (by decide)) ?_
      refine g_iload_3 hX (dk DX0_pass_0 29 rfl) ?_
      refine g_aload_0 hX (dk DX0_pass_0 30 rfl) ?_
      refine g_getRs (r := 14) hX (dk DX0_pass_0 31 rfl) KX0 fX0_9 (by decide) rfl (CLt hH (q := 13) (by decide)) (CC hH 13 (by decide) rfl) (CR hH 13 2 14 (by decide)) ?_
      refine g_iload_3 hX (dk DX0_pass_0 32 rfl) ?_
      refine v_iaload hX (dk DX0_pass_0 33 rfl) (CLt hH (q := 14) (by decide)) (CS hH 14 (by decide) rfl) (⟨rfl, by omega, by decide⟩) ((hAJ.1 o hom)) ?_
      refine g_aload_0 hX (dk DX0_pass_0 34 rfl) ?_
      refine g_getIv hX (dk DX0_pass_0 35 rfl) KX0 fX0_114 (by decide) rfl (CLt hH (q := 13) (by decide)) (CC hH 13 (by decide) rfl) (t6) ?_
      refine g_iconst (v := -1) hX (dk DX0_pass_0 36 rfl) (by decide) ?_
      refine g_ixor hX (dk DX0_pass_0 37 rfl) ?_
      refine g_iand hX (dk DX0_pass_0 38 rfl) ?_
      refine g_aload_0 hX (dk DX0_pass_0 39 rfl) ?_
      refine g_getIv hX (dk DX0_pass_0 40 rfl) KX0 fX0_111 (by decide) rfl (CLt hH (q := 13) (by decide)) (CC hH 13 (by decide) rfl) (t9) ?_
      refine g_iconst (v := -1) hX (dk DX0_pass_0 41 rfl) (by decide) ?_
      refine g_ixor hX (dk DX0_pass_0 42 rfl) ?_
      refine g_iand hX (dk DX0_pass_0 43 rfl) ?_
      refine i_iastore hX (dk DX0_pass_0 44 rfl) (CLt hH (q := 27) (by decide)) (CS hH 27 (by decide) rfl) (⟨rfl, by omega, by decide⟩) ?_
      refine g_aload_0 hX (dk DX0_pass_0 45 rfl) ?_
      refine g_getRs (r := 27) hX (dk DX0_pass_0 46 rfl) KX0 fX0_25 (by decide) rfl (CLt hH (q := 13) (by decide)) (CC hH 13 (by decide) rfl) (CR hH 13 5 27 (by decide)) ?_
      refine g_iload_3 hX (dk DX0_pass_0 47 rfl) ?_
      refine v_iaload hX (dk DX0_pass_0 48 rfl) (CLt hH (q := 27) (by decide)) (CS hH 27 (by decide) rfl) (⟨rfl, by omega, by decide⟩) ((show _ = whoF E b kn2 (wk E + o) from up0 _ _ _ _)) ?_
      refine g_if_eq (tgt := 101) hX (dk DX0_pass_0 49 rfl) (by decide) (fun hc2 => ?_) (fun hc2 => ?_)
      · first
        | exact g_fgt (loop101 o mm _ _ J2 hom hm10 (hP.u27.trans ⟨fun a z1 _ => q2 a z1, q3⟩) q1.x emm ewk kk) ⟨rfl, rfl, rfl, rfl, trivial⟩
        | (have e0 : whoF E b kn2 (wk E + o) = 0 := by assumption
           rw [e0, csR_none (cnt E) 0 _ (by omega)] at emm ewk
           exact g_fgt (loop101 o mm (0, kn2, co2, st2, ca2, fw2, fd2) _ _ hom hm10 hP.u27 (TAx.e (TAx.u27 hA) rfl) emm ewk kk) ⟨rfl, rfl, rfl, rfl, trivial⟩)
      · refine g_aload_0 hX (dk DX0_pass_0 50 rfl) ?_
        refine g_aload_0 hX (dk DX0_pass_0 51 rfl) ?_
        refine g_getRs (r := 27) hX (dk DX0_pass_0 52 rfl) KX0 fX0_25 (by decide) rfl (CLt hH (q := 13) (by decide)) (CC hH 13 (by decide) rfl) (CR hH 13 5 27 (by decide)) ?_
        refine g_iload_3 hX (dk DX0_pass_0 53 rfl) ?_
        refine v_iaload hX (dk DX0_pass_0 54 rfl) (CLt hH (q := 27) (by decide)) (CS hH 27 (by decide) rfl) (⟨rfl, by omega, by decide⟩) ((show _ = whoF E b kn2 (wk E + o) from up0 _ _ _ _)) ?_
        refine g_aload_0 hX (dk DX0_pass_0 55 rfl) ?_
        refine g_getRs (r := 1) hX (dk DX0_pass_0 56 rfl) KX0 fX0_34 (by decide) rfl (CLt hH (q := 13) (by decide)) (CC hH 13 (by decide) rfl) (CR hH 13 0 1 (by decide)) ?_
        refine g_getIv hX (dk DX0_pass_0 57 rfl) KX5 fX0_57 (by decide) rfl (CLt hH (q := 1) (by decide)) (CC hH 1 (by decide) rfl) (hZJ.1.2.1.1.2.1.trans (inv_wk hE).1) ?_
        refine g_iload_3 hX (dk DX0_pass_0 58 rfl) ?_
        refine g_iadd hX (dk DX0_pass_0 59 rfl) ?_
        refine g_nmI (nI (wk E + o)) (nI_add _ _) ?_
        refine g_c3v hX sX0_pass_98 (by decide) (Nat.le_of_ble_eq_true rfl) (rc0 rfl (CLt hH (by decide)) (CC hH 13 (by decide) rfl)) (by decide) (by decide) (e_stopAll hG hE (hZJ.sc hE (Sc.rf.up ⟨by decide, by decide⟩)) (x := wk E + o) (by omega) (TAx.u27 hA) (fun d hd hg => by rw [upI_off (by decide)]; exact hAJ.d hE hom hm hd hg)) ?_
        rintro J2 _ ⟨rfl, q1, q2, q3⟩
        first
        | exact g_fgt (loop101 o mm _ _ J2 hom hm10 (hP.u27.trans ⟨fun a z1 _ => q2 a z1, q3⟩) q1.x emm ewk kk) ⟨rfl, rfl, rfl, rfl, trivial⟩
        | (have e0 : whoF E b kn2 (wk E + o) = 0 := by assumption
           rw [e0, csR_none (cnt E) 0 _ (by omega)] at emm ewk
           exact g_fgt (loop101 o mm (0, kn2, co2, st2, ca2, fw2, fd2) _ _ hom hm10 hP.u27 (TAx.e (TAx.u27 hA) rfl) emm ewk kk) ⟨rfl, rfl, rfl, rfl, trivial⟩)
  refine g_aload_0 hX (dk DX0_pass_0 0 rfl) ?_
  refine g_iload_1 hX (dk DX0_pass_0 1 rfl) ?_
  refine g_putI hX (dk DX0_pass_0 2 rfl) KX0 fX0_111 (by decide) rfl (CLt hH (q := 13) (by decide)) (CC hH 13 (by decide) rfl) (Or.inl rfl) (rfl) (rfl) ?_
  refine g_aload_0 hX (dk DX0_pass_0 3 rfl) ?_
  refine g_iload_2 hX (dk DX0_pass_0 4 rfl) ?_
  refine g_putI hX (dk DX0_pass_0 5 rfl) KX0 fX0_114 (by decide) rfl (CLt hH (q := 13) (by decide)) (CC hH 13 (by decide) rfl) (Or.inl rfl) (rfl) (rfl) ?_
  refine g_aload_0 hX (dk DX0_pass_0 6 rfl) ?_
  refine g_iconst (v := 0) hX (dk DX0_pass_0 7 rfl) (by decide) ?_
  refine g_putI hX (dk DX0_pass_0 8 rfl) KX0 fX0_117 (by decide) rfl (CLt hH (q := 13) (by decide)) (CC hH 13 (by decide) rfl) (Or.inl rfl) (rfl) (rfl) ?_
  refine g_aload_0 hX (dk DX0_pass_0 9 rfl) ?_
  refine g_iconst (v := 0) hX (dk DX0_pass_0 10 rfl) (by decide) ?_
  refine g_putI hX (dk DX0_pass_0 11 rfl) KX0 fX0_120 (by decide) rfl (CLt hH (q := 13) (by decide)) (CC hH 13 (by decide) rfl) (Or.inl rfl) (rfl) (rfl) ?_
  refine g_aload_0 hX (dk DX0_pass_0 12 rfl) ?_
  refine g_iconst (v := 0) hX (dk DX0_pass_0 13 rfl) (by decide) ?_
  refine g_putI hX (dk DX0_pass_0 14 rfl) KX0 fX0_123 (by decide) rfl (CLt hH (q := 13) (by decide)) (CC hH 13 (by decide) rfl) (Or.inl rfl) (rfl) (rfl) ?_
  refine g_aload_0 hX (dk DX0_pass_0 15 rfl) ?_
  refine g_bipush (v := -5) hX (dk DX0_pass_0 16 rfl) (by decide) ?_
  refine g_putI hX (dk DX0_pass_0 17 rfl) KX0 fX0_126 (by decide) rfl (CLt hH (q := 13) (by decide)) (CC hH 13 (by decide) rfl) (Or.inl rfl) (rfl) (rfl) ?_
  refine g_aload_0 hX (dk DX0_pass_0 18 rfl) ?_
  refine g_bipush (v := -5) hX (dk DX0_pass_0 19 rfl) (by decide) ?_
  refine g_putI hX (dk DX0_pass_0 20 rfl) KX0 fX0_129 (by decide) rfl (CLt hH (q := 13) (by decide)) (CC hH 13 (by decide) rfl) (Or.inl rfl) (rfl) (rfl) ?_
  refine g_iconst (v := 0) hX (dk DX0_pass_0 21 rfl) (by decide) ?_
  refine g_istore_3 hX (dk DX0_pass_0 22 rfl) (by decide) rfl ?_
  exact g_fgt (loop39 m 0 (0, a, 0, 0, 0, -5, -5) _ (Nat.zero_add _) (((((((P2.rf.u13 (by decide)).u13 (by decide)).u13 (by decide)).u13 (by decide)).u13 (by decide)).u13 (by decide)).u13 (by decide)) ⟨rfl, rfl, rfl, rfl, rfl, rfl, rfl⟩ ha ⟨0, Nat.zero_le _, rfl, (show ((0 : Nat) = 0 ↔ (-5 : Int32) < 0) by decide)⟩ rfl) ⟨rfl, rfl, rfl, rfl, trivial⟩
end
section
set_option maxRecDepth 8000 in
set_option maxHeartbeats 4000000 in
theorem e_costHanded {G : Gt} (hG : Gok G) {I : It} {h : Ht}  {E : It} {L : Nat → Int64} (hE : Inv E) (hZ : RZ E L I h)  {hq2 : Nat} (hh : hq2 < hn h) (hhs : hs h hq2 = (20, 4)) (hHD : HD E I) {m : Nat} (hm : m ≤ 200) (hsp : I 13 1 = nI m) (hAH : AH E I m) : Con G (7) 0 0 mX0_costHanded [.ref 13, .ref hq2] I h (qI (fun v J h2 => v = hcF E (I hq2) m ∧ P2 I J ∧ h2 = h)) := by
  refine con_intro (own := RX0) (lo0 := [some (.ref 13), some (.ref hq2)]) hG rfl pl_X0 (Nat.le_of_ble_eq_true rfl) rfl (fun X hX => ?_)
  have hW := hZ.1.wx hE
  have hH := hW.1
  have hc10 := (inv_cnt hE).2
  have hw9 := (inv_wk hE).2
  refine g_aload_0 hX (dk DX0_costHanded 0 rfl) ?_
  refine g_aload_0 hX (dk DX0_costHanded 1 rfl) ?_
  refine g_getRs (r := 1) hX (dk DX0_costHanded 2 rfl) KX0 fX0_34 (by decide) rfl (CLt hH (q := 13) (by decide)) (CC hH 13 (by decide) rfl) (CR hH 13 0 1 (by decide)) ?_
  refine g_getIv hX (dk DX0_costHanded 3 rfl) KX5 fX0_161 (by decide) rfl (CLt hH (q := 1) (by decide)) (CC hH 1 (by decide) rfl) (hZ.2.1.1) ?_
  refine g_aload_0 hX (dk DX0_costHanded 4 rfl) ?_
  refine g_aload_1 hX (dk DX0_costHanded 5 rfl) ?_
  refine g_c2I hX sX0_costHanded_10 (by decide) (Nat.le_of_ble_eq_true rfl) (rc0 rfl (CLt hH (by decide)) (CC hH 13 (by decide) rfl)) (by decide) (by decide) (e_goingOver hG hE hZ hh hhs hHD) ?_
  refine g_ior hX (dk DX0_costHanded 7 rfl) ?_
  refine g_aload_0 hX (dk DX0_costHanded 8 rfl) ?_
  refine g_getRs (r := 1) hX (dk DX0_costHanded 9 rfl) KX0 fX0_34 (by decide) rfl (CLt hH (q := 13) (by decide)) (CC hH 13 (by decide) rfl) (CR hH 13 0 1 (by decide)) ?_
  refine g_getIv hX (dk DX0_costHanded 10 rfl) KX5 fX0_166 (by decide) rfl (CLt hH (q := 1) (by decide)) (CC hH 1 (by decide) rfl) (hZ.1.2.1.1.2.2.1) ?_
  refine g_c3q hX sX0_costHanded_21 (by decide) (Nat.le_of_ble_eq_true rfl) (rc0 rfl (CLt hH (by decide)) (CC hH 13 (by decide) rfl)) (by decide) (by decide) (e_pass hG hE hZ (kb_or (inv_kn hE) (kb_over _ hc10)) (inv_id hE) hm hsp hAH) ?_
  rintro _ J2 _ ⟨rfl, -, hP2, rfl⟩
  refine g_ireturn hX (dk DX0_costHanded 12 rfl) rfl (rfl) (by decide) (by decide) ?_
  exact qI_of ⟨rfl, hP2, rfl⟩

set_option maxRecDepth 8000 in
set_option maxHeartbeats 4000000 in
theorem e_hourMore {G : Gt} (hG : Gok G) {I : It} {h : Ht}  {E : It} {L : Nat → Int64} (hE : Inv E) (hZ : RZ E L I h) {y : Nat} (hy : y < 4) : Con G (3) 0 0 mX0_hourMore [.ref 13, .int (nI y)] I h (fun r J h2 => r = some (.ref 28) ∧ (∀ a, a ≠ 28 → J a = I a) ∧ (∀ n, n < 4 → J 28 n = upH (E 8) y n) ∧ h2 = h) := by
  refine con_intro (own := RX0) (lo0 := [some (.ref 13), some (.int (nI y)), none]) hG rfl pl_X0 (Nat.le_of_ble_eq_true rfl) rfl (fun X hX => ?_)
  have hW := hZ.1.wx hE
  have hH := hW.1
  have hc10 := (inv_cnt hE).2
  have hw9 := (inv_wk hE).2
  have loop2 : ∀ (k n : Nat) (J : It), n + k = 4 → (∀ a, a ≠ 28 → J a = I a) → (∀ j, j < n → J 28 j = upH (E 8) y j) → GG G (3) 0 0 X (fun r J h2 => r = some (.ref 28) ∧ (∀ a, a ≠ 28 → J a = I a) ∧ (∀ n, n < 4 → J 28 n = upH (E 8) y n) ∧ h2 = h) 2 [some (.ref 13), some (.int (nI y)), some (.int (nI n))] [] (J) (h) 0 0 := by
    intro k
    induction k using Nat.strongRecOn with | _ k ih => ?_
    intro n J hk hf hs
    have h4n : n < 4 → J 4 n = E 8 n := fun q => by rw [hf 4 (by decide)]; exact hZ.1.2.1.2.2.1 n q
    refine g_iload_2 hX (dk DX0_hourMore 2 rfl) ?_
    refine g_iconst (v := 4) hX (dk DX0_hourMore 3 rfl) (by decide) ?_
    refine g_icmp_ge (tgt := 39) hX (dk DX0_hourMore 4 rfl) (by decide) (fun hc1 => ?_) (fun hc1 => ?_)
    · refine g_aload_0 hX (dk DX0_hourMore 23 rfl) ?_
      refine g_getRs (r := 28) hX (dk DX0_hourMore 24 rfl) KX0 fX0_28 (by decide) rfl (CLt hH (q := 13) (by decide)) (CC hH 13 (by decide) rfl) (CR hH 13 14 28 (by decide)) ?_
      refine g_areturn (r := some 28) hX (dk DX0_hourMore 25 rfl) rfl rfl (Or.inr ⟨_, rfl⟩) (by decide) (by decide) ?_
      have hk0 := cl_end (e := 4) hk (by decide) hc1
      subst hk0
      exact ⟨rfl, hf, fun j hj => hs j (by omega), rfl⟩
    · obtain ⟨k, rfl⟩ := cl_go (e := 4) hk (by decide) hc1
      refine g_aload_0 hX (dk DX0_hourMore 5 rfl) ?_
      refine g_getRs (r := 28) hX (dk DX0_hourMore 6 rfl) KX0 fX0_28 (by decide) rfl (CLt hH (q := 13) (by decide)) (CC hH 13 (by decide) rfl) (CR hH 13 14 28 (by decide)) ?_
      refine g_iload_2 hX (dk DX0_hourMore 7 rfl) ?_
      refine g_aload_0 hX (dk DX0_hourMore 8 rfl) ?_
      refine g_getRs (r := 1) hX (dk DX0_hourMore 9 rfl) KX0 fX0_34 (by decide) rfl (CLt hH (q := 13) (by decide)) (CC hH 13 (by decide) rfl) (CR hH 13 0 1 (by decide)) ?_
      refine g_getRs (r := 4) hX (dk DX0_hourMore 10 rfl) KX5 fX0_101 (by decide) rfl (CLt hH (q := 1) (by decide)) (CC hH 1 (by decide) rfl) (CR hH 1 5 4 (by decide)) ?_
      refine g_iload_2 hX (dk DX0_hourMore 11 rfl) ?_
      refine v_iaload hX (dk DX0_hourMore 12 rfl) (CLt hH (q := 4) (by decide)) (CS hH 4 (by decide) rfl) (⟨rfl, by omega, by decide⟩) ((h4n (by omega))) ?_
      refine g_iload_2 hX (dk DX0_hourMore 13 rfl) ?_
      refine g_iload_1 hX (dk DX0_hourMore 14 rfl) ?_
      refine g_icmp_ne (tgt := 30) hX (dk DX0_hourMore 15 rfl) (by decide) (fun hc2 => ?_) (fun hc2 => ?_)
      · refine g_iconst (v := 0) hX (dk DX0_hourMore 18 rfl) (by decide) ?_
        refine g_iadd hX (dk DX0_hourMore 19 rfl) ?_
        refine i_iastore hX (dk DX0_hourMore 20 rfl) (CLt hH (q := 28) (by decide)) (CS hH 28 (by decide) rfl) (⟨rfl, by omega, by decide⟩) ?_
        refine g_iinc_2 hX (dk DX0_hourMore 21 rfl) (nI_1 n) (by decide) rfl ?_
        refine g_goto (tgt := 2) hX (dk DX0_hourMore 22 rfl) (by decide) ?_
        first
        | (have e : n = y := (nI_eq (by omega) (by omega)).mp (by assumption)
           exact g_fgt (ih k (by omega) (n + 1) _ (by omega) (fun a ha => (upI_off ha).trans (hf a ha)) (fun j hj => by
             by_cases z : j = n
             · subst z; rw [up0]; subst e; exact (show E 8 j + 1 = upd (E 8) j (E 8 j + 1) j by simp [upd])
             · rw [upn (fun q => z q.2)]; exact hs j (by omega))) ⟨rfl, rfl, rfl, trivial⟩)
        | (have e : n ≠ y := fun z => absurd (show nI n = nI y by rw [z]) (by assumption)
           exact g_fgt (ih k (by omega) (n + 1) _ (by omega) (fun a ha => (upI_off ha).trans (hf a ha)) (fun j hj => by
             by_cases z : j = n
             · subst z; rw [up0]; exact (show E 8 j + 0 = upd (E 8) y (E 8 y + 1) j by simp [upd, e])
             · rw [upn (fun q => z q.2)]; exact hs j (by omega))) ⟨rfl, rfl, rfl, trivial⟩)
      · refine g_iconst (v := 1) hX (dk DX0_hourMore 16 rfl) (by decide) ?_
        refine g_goto (tgt := 31) hX (dk DX0_hourMore 17 rfl) (by decide) ?_
        refine g_iadd hX (dk DX0_hourMore 19 rfl) ?_
        refine i_iastore hX (dk DX0_hourMore 20 rfl) (CLt hH (q := 28) (by decide)) (CS hH 28 (by decide) rfl) (⟨rfl, by omega, by decide⟩) ?_
        refine g_iinc_2 hX (dk DX0_hourMore 21 rfl) (nI_1 n) (by decide) rfl ?_
        refine g_goto (tgt := 2) hX (dk DX0_hourMore 22 rfl) (by decide) ?_
        first
        | (have e : n = y := (nI_eq (by omega) (by omega)).mp (by assumption)
           exact g_fgt (ih k (by omega) (n + 1) _ (by omega) (fun a ha => (upI_off ha).trans (hf a ha)) (fun j hj => by
             by_cases z : j = n
             · subst z; rw [up0]; subst e; exact (show E 8 j + 1 = upd (E 8) j (E 8 j + 1) j by simp [upd])
             · rw [upn (fun q => z q.2)]; exact hs j (by omega))) ⟨rfl, rfl, rfl, trivial⟩)
        | (have e : n ≠ y := fun z => absurd (show nI n = nI y by rw [z]) (by assumption)
           exact g_fgt (ih k (by omega) (n + 1) _ (by omega) (fun a ha => (upI_off ha).trans (hf a ha)) (fun j hj => by
             by_cases z : j = n
             · subst z; rw [up0]; exact (show E 8 j + 0 = upd (E 8) y (E 8 y + 1) j by simp [upd, e])
             · rw [upn (fun q => z q.2)]; exact hs j (by omega))) ⟨rfl, rfl, rfl, trivial⟩)
  refine g_iconst (v := 0) hX (dk DX0_hourMore 0 rfl) (by decide) ?_
  refine g_istore_2 hX (dk DX0_hourMore 1 rfl) (by decide) rfl ?_
  exact g_fgt (loop2 4 0 I (Nat.zero_add _) (fun _ _ => rfl) (fun n hn => absurd hn (Nat.not_lt_zero n))) ⟨rfl, rfl, rfl, trivial⟩

set_option maxRecDepth 8000 in
set_option maxHeartbeats 4000000 in
theorem e_bestA {G : Gt} (hG : Gok G) {I : It} {h : Ht}  {E : It} {L : Nat → Int64} (hE : Inv E) (hZ : RZ E L I h) {m : Nat} (hm : m ≤ 200) (hsp : I 13 1 = nI m) (hAH : AH E I m) : Con G (7) 0 0 mX0_bestOf [.ref 13, .int (E 0 5 ^^^ (-1)), .int 1] I h (qI (fun v J h2 => v = askF E m ∧ P2 I J ∧ h2 = h)) := by
  refine con_intro (own := RX0) (lo0 := [some (.ref 13), some (.int (E 0 5 ^^^ (-1))), some (.int 1), none, none, none, none, none]) hG rfl pl_X0 (Nat.le_of_ble_eq_true rfl) rfl (fun X hX => ?_)
  have hW := hZ.1.wx hE
  have hH := hW.1
  have hc10 := (inv_cnt hE).2
  have hw9 := (inv_wk hE).2
  have loop10 : ∀ (k d : Nat) (f l ls : Int32) (J : It), d + k = cnt E → P2 I J → lsI f l ls → pickR E m (fun i => hasI (E 0 5) (nI i)) (fun i => costF E (withI (E 0 5) (nI i) 1) (E 0 6) m) k d f ls = askF E m → GG G (7) 0 0 X (qI (fun v J h2 => v = askF E m ∧ P2 I J ∧ h2 = h)) 10 [some (.ref 13), some (.int (E 0 5 ^^^ (-1))), some (.int 1), some (.int f), some (.int l), some (.int (nI d)), none, none] [] (J) (h) 0 0 := by
    intro k
    induction k using Nat.strongRecOn with | _ k ih => ?_
    intro d f l ls J hk hP hls hv
    have hS := hP.sc
    have hZJ := hZ.sc hE hS
    have hWJ := hZJ.1.wx hE
    refine g_iload_5 hX (dk DX0_bestOf 6 rfl) ?_
    refine g_aload_0 hX (dk DX0_bestOf 7 rfl) ?_
    refine g_getRs (r := 1) hX (dk DX0_bestOf 8 rfl) KX0 fX0_34 (by decide) rfl (CLt hH (q := 13) (by decide)) (CC hH 13 (by decide) rfl) (CR hH 13 0 1 (by decide)) ?_
    refine g_getIv hX (dk DX0_bestOf 9 rfl) KX5 fX0_69 (by decide) rfl (CLt hH (q := 1) (by decide)) (CC hH 1 (by decide) rfl) (hZJ.1.2.1.1.1.trans (inv_cnt hE).1) ?_
    refine g_icmp_ge (tgt := 108) hX (dk DX0_bestOf 10 rfl) (by decide) (fun hc1 => ?_) (fun hc1 => ?_)
    · refine g_iload_3 hX (dk DX0_bestOf 52 rfl) ?_
      refine g_ireturn hX (dk DX0_bestOf 53 rfl) rfl (rfl) (by decide) (by decide) ?_
      have hk0 := cl_end hk (by omega) hc1
      subst hk0
      exact qI_of ⟨hv, hP, rfl⟩
    · obtain ⟨k, rfl⟩ := cl_go hk (by omega) hc1
      have hd : d < cnt E := by omega
      have hnd := has_n (E 0 5) (d := d) (by omega)
      refine g_iload_1 hX (dk DX0_bestOf 11 rfl) ?_
      refine g_iload_5 hX (dk DX0_bestOf 12 rfl) ?_
      refine g_c2I hX sX0_bestOf_25 (by decide) (Nat.le_of_ble_eq_true rfl) rcN (by decide) (by decide) (c_X11_bit hG) ?_
      refine g_if_eq (tgt := 102) hX (dk DX0_bestOf 14 rfl) (by decide) (fun hc2 => ?_) (fun hc2 => ?_)
      · refine g_iinc_5 hX (dk DX0_bestOf 50 rfl) (nI_1 d) (by decide) rfl ?_
        refine g_goto (tgt := 10) hX (dk DX0_bestOf 51 rfl) (by decide) ?_
        first
        | exact g_fgt (ih k (by omega) (d + 1) _ _ _ _ (by omega) hP hls (by rw [← hv, pickR_s, if_pos (hnd.mp (by assumption))])) ⟨rfl, rfl, rfl, rfl, rfl, rfl, trivial⟩
        | (rw [with_1] at hcl
           exact g_fgt (ih k (by omega) (d + 1) _ _ (_) _ (by omega) (hP.trans hP2) (Or.inr ⟨nI_pos (by omega), rfl⟩) (by rw [← hv, pick_1 hls (by rw [with_1]; exact hcl.1) hno, with_1, if_pos (Int32.not_le.mp (by assumption))])) ⟨rfl, rfl, rfl, rfl, rfl, rfl, trivial⟩)
        | (rw [with_1] at hcl
           exact g_fgt (ih k (by omega) (d + 1) _ _ _ _ (by omega) (hP.trans hP2) hls (by rw [← hv, pick_1 hls (by rw [with_1]; exact hcl.1) hno, with_1, if_neg (Int32.not_lt.mpr (by assumption))])) ⟨rfl, rfl, rfl, rfl, rfl, rfl, trivial⟩)
      · have hno : ¬ hasI (E 0 5) (nI d) = 1 := fun q => hc2 (hnd.mpr q)
        have hcl := cost_lt hE (kn := withI (E 0 5) (nI d) 1) (idl := E 0 6) hm
        refine g_iconst (v := 1) hX (dk DX0_bestOf 15 rfl) (by decide) ?_
        refine g_iload_5 hX (dk DX0_bestOf 16 rfl) ?_
        refine g_ishl hX (dk DX0_bestOf 17 rfl) ?_
        refine g_istore_6 hX (dk DX0_bestOf 18 rfl) (by decide) rfl ?_
        refine g_iload_2 hX (dk DX0_bestOf 19 rfl) ?_
        refine g_if_eq (tgt := 65) hX (dk DX0_bestOf 20 rfl) (by decide) (fun hc3 => absurd hc3 (by decide)) (fun hc3 => ?_)
        refine g_aload_0 hX (dk DX0_bestOf 21 rfl) ?_
        refine g_aload_0 hX (dk DX0_bestOf 22 rfl) ?_
        refine g_getRs (r := 1) hX (dk DX0_bestOf 23 rfl) KX0 fX0_34 (by decide) rfl (CLt hH (q := 13) (by decide)) (CC hH 13 (by decide) rfl) (CR hH 13 0 1 (by decide)) ?_
        refine g_getIv hX (dk DX0_bestOf 24 rfl) KX5 fX0_161 (by decide) rfl (CLt hH (q := 1) (by decide)) (CC hH 1 (by decide) rfl) (hZJ.2.1.1) ?_
        refine g_iload_6 hX (dk DX0_bestOf 25 rfl) ?_
        refine g_ior hX (dk DX0_bestOf 26 rfl) ?_
        refine g_aload_0 hX (dk DX0_bestOf 27 rfl) ?_
        refine g_getRs (r := 1) hX (dk DX0_bestOf 28 rfl) KX0 fX0_34 (by decide) rfl (CLt hH (q := 13) (by decide)) (CC hH 13 (by decide) rfl) (CR hH 13 0 1 (by decide)) ?_
        refine g_getIv hX (dk DX0_bestOf 29 rfl) KX5 fX0_166 (by decide) rfl (CLt hH (q := 1) (by decide)) (CC hH 1 (by decide) rfl) (hZJ.1.2.1.1.2.2.1) ?_
        refine g_c3q hX sX0_bestOf_59 (by decide) (Nat.le_of_ble_eq_true rfl) (rc0 rfl (CLt hH (by decide)) (CC hH 13 (by decide) rfl)) (by decide) (by decide) (e_pass hG hE hZJ (kb_or (inv_kn hE) (kb_bit hd hc10)) (inv_id hE) hm (hP.2.trans hsp) (hAH.p2 hP)) ?_
        rintro _ J2 _ ⟨rfl, -, hP2, rfl⟩
        refine g_goto (tgt := 86) hX (dk DX0_bestOf 31 rfl) (by decide) ?_
        refine g_istore_7 hX (dk DX0_bestOf 42 rfl) (by decide) rfl ?_
        refine g_iload_7 hX (dk DX0_bestOf 43 rfl) ?_
        refine g_iload_4 hX (dk DX0_bestOf 44 rfl) ?_
        refine g_icmp_ge (tgt := 102) hX (dk DX0_bestOf 45 rfl) (by decide) (fun hc4 => ?_) (fun hc4 => ?_)
        · refine g_iinc_5 hX (dk DX0_bestOf 50 rfl) (nI_1 d) (by decide) rfl ?_
          refine g_goto (tgt := 10) hX (dk DX0_bestOf 51 rfl) (by decide) ?_
          first
          | exact g_fgt (ih k (by omega) (d + 1) _ _ _ _ (by omega) hP hls (by rw [← hv, pickR_s, if_pos (hnd.mp (by assumption))])) ⟨rfl, rfl, rfl, rfl, rfl, rfl, trivial⟩
          | (rw [with_1] at hcl
             exact g_fgt (ih k (by omega) (d + 1) _ _ (_) _ (by omega) (hP.trans hP2) (Or.inr ⟨nI_pos (by omega), rfl⟩) (by rw [← hv, pick_1 hls (by rw [with_1]; exact hcl.1) hno, with_1, if_pos (Int32.not_le.mp (by assumption))])) ⟨rfl, rfl, rfl, rfl, rfl, rfl, trivial⟩)
          | (rw [with_1] at hcl
             exact g_fgt (ih k (by omega) (d + 1) _ _ _ _ (by omega) (hP.trans hP2) hls (by rw [← hv, pick_1 hls (by rw [with_1]; exact hcl.1) hno, with_1, if_neg (Int32.not_lt.mpr (by assumption))])) ⟨rfl, rfl, rfl, rfl, rfl, rfl, trivial⟩)
        · refine g_iload_7 hX (dk DX0_bestOf 46 rfl) ?_
          refine g_istore_4 hX (dk DX0_bestOf 47 rfl) (by decide) rfl ?_
          refine g_iload_5 hX (dk DX0_bestOf 48 rfl) ?_
          refine g_istore_3 hX (dk DX0_bestOf 49 rfl) (by decide) rfl ?_
          refine g_iinc_5 hX (dk DX0_bestOf 50 rfl) (nI_1 d) (by decide) rfl ?_
          refine g_goto (tgt := 10) hX (dk DX0_bestOf 51 rfl) (by decide) ?_
          first
          | exact g_fgt (ih k (by omega) (d + 1) _ _ _ _ (by omega) hP hls (by rw [← hv, pickR_s, if_pos (hnd.mp (by assumption))])) ⟨rfl, rfl, rfl, rfl, rfl, rfl, trivial⟩
          | (rw [with_1] at hcl
             exact g_fgt (ih k (by omega) (d + 1) _ _ (_) _ (by omega) (hP.trans hP2) (Or.inr ⟨nI_pos (by omega), rfl⟩) (by rw [← hv, pick_1 hls (by rw [with_1]; exact hcl.1) hno, with_1, if_pos (Int32.not_le.mp (by assumption))])) ⟨rfl, rfl, rfl, rfl, rfl, rfl, trivial⟩)
          | (rw [with_1] at hcl
             exact g_fgt (ih k (by omega) (d + 1) _ _ _ _ (by omega) (hP.trans hP2) hls (by rw [← hv, pick_1 hls (by rw [with_1]; exact hcl.1) hno, with_1, if_neg (Int32.not_lt.mpr (by assumption))])) ⟨rfl, rfl, rfl, rfl, rfl, rfl, trivial⟩)
  refine g_bipush (v := -5) hX (dk DX0_bestOf 0 rfl) (by decide) ?_
  refine g_istore_3 hX (dk DX0_bestOf 1 rfl) (by decide) rfl ?_
  refine g_ldc (v := 2147483647) hX (dk DX0_bestOf 2 rfl) (tg_3 231 rfl rfl) ?_
  refine g_istore_4 hX (dk DX0_bestOf 3 rfl) (by decide) rfl ?_
  refine g_iconst (v := 0) hX (dk DX0_bestOf 4 rfl) (by decide) ?_
  refine g_istore_5 hX (dk DX0_bestOf 5 rfl) (by decide) rfl ?_
  exact g_fgt (loop10 (cnt E) 0 (-5) 2147483647 0 I (Nat.zero_add _) P2.rf (Or.inl ⟨by decide, rfl⟩) rfl) ⟨rfl, rfl, rfl, rfl, rfl, rfl, trivial⟩

set_option maxRecDepth 8000 in
set_option maxHeartbeats 4000000 in
theorem e_bestD {G : Gt} (hG : Gok G) {I : It} {h : Ht}  {E : It} {L : Nat → Int64} (hE : Inv E) (hZ : RZ E L I h) {m : Nat} (hm : m ≤ 200) (hsp : I 13 1 = nI m) (hAH : AH E I m) : Con G (7) 0 0 mX0_bestOf [.ref 13, .int (E 0 6 ^^^ (-1)), .int 0] I h (qI (fun v J h2 => v = dropF E m ∧ P2 I J ∧ h2 = h)) := by
  refine con_intro (own := RX0) (lo0 := [some (.ref 13), some (.int (E 0 6 ^^^ (-1))), some (.int 0), none, none, none, none, none]) hG rfl pl_X0 (Nat.le_of_ble_eq_true rfl) rfl (fun X hX => ?_)
  have hW := hZ.1.wx hE
  have hH := hW.1
  have hc10 := (inv_cnt hE).2
  have hw9 := (inv_wk hE).2
  have loop10 : ∀ (k d : Nat) (f l ls : Int32) (J : It), d + k = cnt E → P2 I J → lsI f l ls → pickR E m (fun i => hasI (E 0 6) (nI i)) (fun i => costF E (E 0 5) (withI (E 0 6) (nI i) 1) m) k d f ls = dropF E m → GG G (7) 0 0 X (qI (fun v J h2 => v = dropF E m ∧ P2 I J ∧ h2 = h)) 10 [some (.ref 13), some (.int (E 0 6 ^^^ (-1))), some (.int 0), some (.int f), some (.int l), some (.int (nI d)), none, none] [] (J) (h) 0 0 := by
    intro k
    induction k using Nat.strongRecOn with | _ k ih => ?_
    intro d f l ls J hk hP hls hv
    have hS := hP.sc
    have hZJ := hZ.sc hE hS
    have hWJ := hZJ.1.wx hE
    refine g_iload_5 hX (dk DX0_bestOf 6 rfl) ?_
    refine g_aload_0 hX (dk DX0_bestOf 7 rfl) ?_
    refine g_getRs (r := 1) hX (dk DX0_bestOf 8 rfl) KX0 fX0_34 (by decide) rfl (CLt hH (q := 13) (by decide)) (CC hH 13 (by decide) rfl) (CR hH 13 0 1 (by decide)) ?_
    refine g_getIv hX (dk DX0_bestOf 9 rfl) KX5 fX0_69 (by decide) rfl (CLt hH (q := 1) (by decide)) (CC hH 1 (by decide) rfl) (hZJ.1.2.1.1.1.trans (inv_cnt hE).1) ?_
    refine g_icmp_ge (tgt := 108) hX (dk DX0_bestOf 10 rfl) (by decide) (fun hc1 => ?_) (fun hc1 => ?_)
    · refine g_iload_3 hX (dk DX0_bestOf 52 rfl) ?_
      refine g_ireturn hX (dk DX0_bestOf 53 rfl) rfl (rfl) (by decide) (by decide) ?_
      have hk0 := cl_end hk (by omega) hc1
      subst hk0
      exact qI_of ⟨hv, hP, rfl⟩
    · obtain ⟨k, rfl⟩ := cl_go hk (by omega) hc1
      have hd : d < cnt E := by omega
      have hnd := has_n (E 0 6) (d := d) (by omega)
      refine g_iload_1 hX (dk DX0_bestOf 11 rfl) ?_
      refine g_iload_5 hX (dk DX0_bestOf 12 rfl) ?_
      refine g_c2I hX sX0_bestOf_25 (by decide) (Nat.le_of_ble_eq_true rfl) rcN (by decide) (by decide) (c_X11_bit hG) ?_
      refine g_if_eq (tgt := 102) hX (dk DX0_bestOf 14 rfl) (by decide) (fun hc2 => ?_) (fun hc2 => ?_)
      · refine g_iinc_5 hX (dk DX0_bestOf 50 rfl) (nI_1 d) (by decide) rfl ?_
        refine g_goto (tgt := 10) hX (dk DX0_bestOf 51 rfl) (by decide) ?_
        first
        | exact g_fgt (ih k (by omega) (d + 1) _ _ _ _ (by omega) hP hls (by rw [← hv, pickR_s, if_pos (hnd.mp (by assumption))])) ⟨rfl, rfl, rfl, rfl, rfl, rfl, trivial⟩
        | (rw [with_1] at hcl
           exact g_fgt (ih k (by omega) (d + 1) _ _ (_) _ (by omega) (hP.trans hP2) (Or.inr ⟨nI_pos (by omega), rfl⟩) (by rw [← hv, pick_1 hls (by rw [with_1]; exact hcl.1) hno, with_1, if_pos (Int32.not_le.mp (by assumption))])) ⟨rfl, rfl, rfl, rfl, rfl, rfl, trivial⟩)
        | (rw [with_1] at hcl
           exact g_fgt (ih k (by omega) (d + 1) _ _ _ _ (by omega) (hP.trans hP2) hls (by rw [← hv, pick_1 hls (by rw [with_1]; exact hcl.1) hno, with_1, if_neg (Int32.not_lt.mpr (by assumption))])) ⟨rfl, rfl, rfl, rfl, rfl, rfl, trivial⟩)
      · have hno : ¬ hasI (E 0 6) (nI d) = 1 := fun q => hc2 (hnd.mpr q)
        have hcl := cost_lt hE (kn := E 0 5) (idl := withI (E 0 6) (nI d) 1) hm
        refine g_iconst (v := 1) hX (dk DX0_bestOf 15 rfl) (by decide) ?_
        refine g_iload_5 hX (dk DX0_bestOf 16 rfl) ?_
        refine g_ishl hX (dk DX0_bestOf 17 rfl) ?_
        refine g_istore_6 hX (dk DX0_bestOf 18 rfl) (by decide) rfl ?_
        refine g_iload_2 hX (dk DX0_bestOf 19 rfl) ?_
        refine g_if_eq (tgt := 65) hX (dk DX0_bestOf 20 rfl) (by decide) (fun hc3 => ?_) (fun hc3 => absurd (by decide) hc3)
        refine g_aload_0 hX (dk DX0_bestOf 32 rfl) ?_
        refine g_aload_0 hX (dk DX0_bestOf 33 rfl) ?_
        refine g_getRs (r := 1) hX (dk DX0_bestOf 34 rfl) KX0 fX0_34 (by decide) rfl (CLt hH (q := 13) (by decide)) (CC hH 13 (by decide) rfl) (CR hH 13 0 1 (by decide)) ?_
        refine g_getIv hX (dk DX0_bestOf 35 rfl) KX5 fX0_161 (by decide) rfl (CLt hH (q := 1) (by decide)) (CC hH 1 (by decide) rfl) (hZJ.2.1.1) ?_
        refine g_aload_0 hX (dk DX0_bestOf 36 rfl) ?_
        refine g_getRs (r := 1) hX (dk DX0_bestOf 37 rfl) KX0 fX0_34 (by decide) rfl (CLt hH (q := 13) (by decide)) (CC hH 13 (by decide) rfl) (CR hH 13 0 1 (by decide)) ?_
        refine g_getIv hX (dk DX0_bestOf 38 rfl) KX5 fX0_166 (by decide) rfl (CLt hH (q := 1) (by decide)) (CC hH 1 (by decide) rfl) (hZJ.1.2.1.1.2.2.1) ?_
        refine g_iload_6 hX (dk DX0_bestOf 39 rfl) ?_
        refine g_ior hX (dk DX0_bestOf 40 rfl) ?_
        refine g_c3q hX sX0_bestOf_83 (by decide) (Nat.le_of_ble_eq_true rfl) (rc0 rfl (CLt hH (by decide)) (CC hH 13 (by decide) rfl)) (by decide) (by decide) (e_pass hG hE hZJ (inv_kn hE) (kb_or (inv_id hE) (kb_bit hd hc10)) hm (hP.2.trans hsp) (hAH.p2 hP)) ?_
        rintro _ J2 _ ⟨rfl, -, hP2, rfl⟩
        refine g_istore_7 hX (dk DX0_bestOf 42 rfl) (by decide) rfl ?_
        refine g_iload_7 hX (dk DX0_bestOf 43 rfl) ?_
        refine g_iload_4 hX (dk DX0_bestOf 44 rfl) ?_
        refine g_icmp_ge (tgt := 102) hX (dk DX0_bestOf 45 rfl) (by decide) (fun hc4 => ?_) (fun hc4 => ?_)
        · refine g_iinc_5 hX (dk DX0_bestOf 50 rfl) (nI_1 d) (by decide) rfl ?_
          refine g_goto (tgt := 10) hX (dk DX0_bestOf 51 rfl) (by decide) ?_
          first
          | exact g_fgt (ih k (by omega) (d + 1) _ _ _ _ (by omega) hP hls (by rw [← hv, pickR_s, if_pos (hnd.mp (by assumption))])) ⟨rfl, rfl, rfl, rfl, rfl, rfl, trivial⟩
          | (rw [with_1] at hcl
             exact g_fgt (ih k (by omega) (d + 1) _ _ (_) _ (by omega) (hP.trans hP2) (Or.inr ⟨nI_pos (by omega), rfl⟩) (by rw [← hv, pick_1 hls (by rw [with_1]; exact hcl.1) hno, with_1, if_pos (Int32.not_le.mp (by assumption))])) ⟨rfl, rfl, rfl, rfl, rfl, rfl, trivial⟩)
          | (rw [with_1] at hcl
             exact g_fgt (ih k (by omega) (d + 1) _ _ _ _ (by omega) (hP.trans hP2) hls (by rw [← hv, pick_1 hls (by rw [with_1]; exact hcl.1) hno, with_1, if_neg (Int32.not_lt.mpr (by assumption))])) ⟨rfl, rfl, rfl, rfl, rfl, rfl, trivial⟩)
        · refine g_iload_7 hX (dk DX0_bestOf 46 rfl) ?_
          refine g_istore_4 hX (dk DX0_bestOf 47 rfl) (by decide) rfl ?_
          refine g_iload_5 hX (dk DX0_bestOf 48 rfl) ?_
          refine g_istore_3 hX (dk DX0_bestOf 49 rfl) (by decide) rfl ?_
          refine g_iinc_5 hX (dk DX0_bestOf 50 rfl) (nI_1 d) (by decide) rfl ?_
          refine g_goto (tgt := 10) hX (dk DX0_bestOf 51 rfl) (by decide) ?_
          first
          | exact g_fgt (ih k (by omega) (d + 1) _ _ _ _ (by omega) hP hls (by rw [← hv, pickR_s, if_pos (hnd.mp (by assumption))])) ⟨rfl, rfl, rfl, rfl, rfl, rfl, trivial⟩
          | (rw [with_1] at hcl
             exact g_fgt (ih k (by omega) (d + 1) _ _ (_) _ (by omega) (hP.trans hP2) (Or.inr ⟨nI_pos (by omega), rfl⟩) (by rw [← hv, pick_1 hls (by rw [with_1]; exact hcl.1) hno, with_1, if_pos (Int32.not_le.mp (by assumption))])) ⟨rfl, rfl, rfl, rfl, rfl, rfl, trivial⟩)
          | (rw [with_1] at hcl
             exact g_fgt (ih k (by omega) (d + 1) _ _ _ _ (by omega) (hP.trans hP2) hls (by rw [← hv, pick_1 hls (by rw [with_1]; exact hcl.1) hno, with_1, if_neg (Int32.not_lt.mpr (by assumption))])) ⟨rfl, rfl, rfl, rfl, rfl, rfl, trivial⟩)
  refine g_bipush (v := -5) hX (dk DX0_bestOf 0 rfl) (by decide) ?_
  refine g_istore_3 hX (dk DX0_bestOf 1 rfl) (by decide) rfl ?_
  refine g_ldc (v := 2147483647) hX (dk DX0_bestOf 2 rfl) (tg_3 231 rfl rfl) ?_
  refine g_istore_4 hX (dk DX0_bestOf 3 rfl) (by decide) rfl ?_
  refine g_iconst (v := 0) hX (dk DX0_bestOf 4 rfl) (by decide) ?_
  refine g_istore_5 hX (dk DX0_bestOf 5 rfl) (by decide) rfl ?_
  exact g_fgt (loop10 (cnt E) 0 (-5) 2147483647 0 I (Nat.zero_add _) P2.rf (Or.inl ⟨by decide, rfl⟩) rfl) ⟨rfl, rfl, rfl, rfl, rfl, rfl, trivial⟩
end
section
/-! the public methods by RZ -/
theorem RZ.n6 {E : It} {L : Nat → Int64} {I : It} {h : Ht} (hZ : RZ E L I h) : nP E ≤ 6 := by
  obtain ⟨k, hk, e⟩ := hZ.1.2.2.2.2.2.2.2.1
  unfold nP
  rw [← hZ.2.2.2.2.1.1, e, tN_nI (by omega)]
  exact hk
def offE (a j : Nat) : Prop := ¬ (a = 0 ∧ (j = 2 ∨ j = 3 ∨ j = 4 ∨ j = 5 ∨ j = 15 ∨ j = 16 ∨ j = 17 ∨ j = 47 ∨ j = 48 ∨ j = 51 ∨ j = 52 ∨ j = 53 ∨ j = 54)) ∧ (a < 9 ∨ 15 < a)
def offI (a j : Nat) : Prop := ¬ (a = 0 ∧ (j = 5 ∨ j = 7)) ∧ ¬ ((a = 1 ∨ a = 7) ∧ (j = 3 ∨ j = 7 ∨ j = 8 ∨ j = 9)) ∧ a ≠ 31 ∧ (a < 43 ∨ 73 ≤ a)
theorem RX.eU {E I : It} {h : Ht} {a j : Nat} {x : Int32} (hX : RX E I h) (h6 : nP E ≤ 6) (ho : offE a j) : RX (upI E a j x) I h := by
  unfold offE at ho
  exact hX.keep (fun q hq => upn (fun z => by simp at hq; omega)) (fun b hb => upI_off (by simp at hb; omega)) (fun _ _ => rfl) (fun _ _ => rfl) (fun _ _ => rfl) (fun _ _ => rfl) rfl rfl h6
theorem RX.iU {E I : It} {h : Ht} {a j : Nat} {x : Int32} (hX : RX E I h) (h6 : nP E ≤ 6) (ho : offI a j) : RX E (upI I a j x) h := by
  unfold offI at ho
  exact hX.keep (fun _ _ => rfl) (fun _ _ => rfl) (fun q hq => upn (fun z => by simp at hq; omega)) (fun q hq => upn (fun z => by simp at hq; omega)) (fun q hq => upn (fun z => by simp at hq; omega)) (fun b hb => upI_off (by omega)) rfl rfl h6
theorem RX.hU {E I : It} {h h2 : Ht} (hX : RX E I h) (h6 : nP E ≤ 6) (r1 : hR h2 1 13 = hR h 1 13) (r7 : hR h2 7 13 = hR h 7 13) : RX E I h2 :=
  hX.keep (fun _ _ => rfl) (fun _ _ => rfl) (fun _ _ => rfl) (fun _ _ => rfl) (fun _ _ => rfl) (fun _ _ => rfl) r1 r7 h6
section RZU
variable {E : It} {L : Nat → Int64} {I : It} {h : Ht} {x : Int32} {a j d : Nat}
theorem RZ.wN (hZ : RZ E L I h) : RZ (upI E 0 6 x) L (upI I 1 4 x) h := ⟨hZ.1.wN, (hZ.2.iU hZ.n6 (by unfold offI; omega)).eU hZ.n6 (by unfold offE; omega)⟩
theorem RZ.wR (hZ : RZ E L I h) : RZ (upI E 0 44 x) L (upI I 1 12 x) h := ⟨hZ.1.wR, (hZ.2.iU hZ.n6 (by unfold offI; omega)).eU hZ.n6 (by unfold offE; omega)⟩
theorem RZ.wO (hZ : RZ E L I h) : RZ (upI E 7 d x) L (upI I 3 d x) h := ⟨hZ.1.wO, (hZ.2.iU hZ.n6 (by unfold offI; omega)).eU hZ.n6 (by unfold offE; omega)⟩
theorem RZ.wH (hZ : RZ E L I h) : RZ (upI E 8 d x) L (upI I 4 d x) h := ⟨hZ.1.wH, (hZ.2.iU hZ.n6 (by unfold offI; omega)).eU hZ.n6 (by unfold offE; omega)⟩
theorem RZ.ua (hZ : RZ E L I h) (ha : a = 5 ∨ a = 6) : RZ E L (upI I a j x) h := ⟨hZ.1.ua (by rcases ha with rfl | rfl <;> decide), hZ.2.iU hZ.n6 (by unfold offI; omega)⟩
theorem RZ.cc (hZ : RZ E L I h) (ha : a = 23 ∨ a = 24) : RZ (upI E a j x) L I h := ⟨hZ.1.cc (by rcases ha with rfl | rfl <;> decide), hZ.2.eU hZ.n6 (by unfold offE; omega)⟩
theorem RZ.act (hZ : RZ E L I h) (l : List Int32) : RZ (putB (upI E 0 67 0) l) L (tbL (upI I 32 1 0) l) h :=
  ⟨hZ.1.act l, hZ.2.keep (fun q hq => (fr_0 E l).1 q (by simp at hq ⊢; omega)) (fun b hb => (fr_0 E l).2 b (by simp at hb; omega) (by simp at hb ⊢; omega)) (fun _ _ => congrFun (of_0 I l 0 (by decide) (by decide)) _) (fun _ _ => congrFun (of_0 I l 1 (by decide) (by decide)) _) (fun _ _ => congrFun (of_0 I l 7 (by decide) (by decide)) _) (fun b hb => of_0 I l b (by omega) (by omega)) rfl rfl hZ.n6⟩
theorem RZ.it (hZ : RZ E L I h) {t k : Nat} (ht : t < 6) (hk : k < 60) (v : Int64) : RZ E (vp_updL L (60 * t + k) v) I (wL h (37 + t) k v) := ⟨hZ.1.it ht hk v, hZ.2.hU hZ.n6 rfl rfl⟩
theorem RZ.tape (hZ : RZ E L I h) {h2 : Ht} {t : Nat} (ht : t < 6) (s n : Int32) (f1 : ∀ j, j < 60 → hL h2 (37 + t) j = 0) (f3 : ∀ a, a ≠ 37 + t → hL h2 a = hL h a) (f4 : hR h2 = hR h) (f5 : hs h2 = hs h) (f6 : hn h2 = hn h) : RZ (upI (upI E 36 t s) 37 t n) (zeL L t) (upI (upI I 34 t s) 35 t n) h2 :=
  ⟨hZ.1.tape ht s n f1 f3 f4 f5 f6, hZ.2.keep (fun q _ => (upn (by omega)).trans (upn (by omega))) (fun b hb => (upI_off (by simp at hb; omega)).trans (upI_off (by simp at hb; omega))) (fun _ _ => rfl) (fun _ _ => rfl) (fun _ _ => rfl) (fun b hb => (upI_off (by omega)).trans (upI_off (by omega))) (by rw [f4]) (by rw [f4]) hZ.n6⟩
theorem RZ.shift (hZ : RZ E L I h) {t i o j n : Nat} (ht : t < 6) (ho : o < 6) (hi : i + n ≤ 60) (hj : j + n ≤ 60) :
    RZ E (fun q => if 60 * o + j ≤ q ∧ q < 60 * o + j + n then L (60 * t + i + (q - (60 * o + j))) else L q) I (cpL h (37 + t) (37 + o) i j n) := ⟨hZ.1.shift ht ho hi hj, hZ.2.hU hZ.n6 rfl rfl⟩
end RZU
theorem RZ_doing {E : It} {L : Nat → Int64} {I : It} {h : Ht} (hE : Inv E) (hZ : RZ E L I h) (hn10 : cnt E < 10) {k v r p c e : Int32} (hr : 1 ≤ r) :
    RZ (doE E k v r p c e) L (upI (upI (dI (zI I (hn h)) (hn h) (nI (cnt E)) v r p c e) 3 (cnt E) 5) 1 2 (nI (cnt E + 1))) (wR (zA h (hn h) (hn h + 1) (kcl k, 0)) 2 (cnt E) (some (hn h))) := by
  refine ⟨RY_doing hE hZ.1 hn10 hr, ?_⟩
  have hx := hZ.1.1.1
  obtain ⟨e0, -⟩ := inv_cnt hE
  generalize eJ : upI (upI (dI (zI I (hn h)) (hn h) (nI (cnt E)) v r p c e) 3 (cnt E) 5) 1 2 (nI (cnt E + 1)) = J
  have jo : ∀ q, q ≠ hn h → q ≠ 1 → q ≠ 3 → J q = I q := by
    intro q q1 q2 q3
    rw [← eJ, upI_off q2, upI_off q3]
    unfold dI
    rw [upI_off q1, upI_off q1, upI_off q1, upI_off q1, upI_off q1, upI_off q1]
    funext j
    exact if_neg q1
  have j1 : ∀ j, j ≠ 2 → J 1 j = I 1 j := by
    intro j hj
    have q1 : (1 : Nat) ≠ hn h := by omega
    rw [← eJ, upn (by omega), upI_off (by decide)]
    unfold dI
    rw [upI_off q1, upI_off q1, upI_off q1, upI_off q1, upI_off q1, upI_off q1]
    exact if_neg q1
  have rr : ∀ q j, q ≠ 2 → q < 73 → hR (wR (zA h (hn h) (hn h + 1) (kcl k, 0)) 2 (cnt E) (some (hn h))) q j = hR h q j := by
    intro q j h1 h2
    rw [wR_n (by omega)]
    show (if q = hn h then none else hR h q j) = _
    rw [if_neg (by omega)]
  refine hZ.2.keep (fun j hj => ?_) (fun a ha => do_r (by simp at ha; omega) (by simp at ha; omega)) (fun j _ => by rw [jo 0 (by omega) (by omega) (by omega)]) (fun j hj => j1 j (by simp at hj; omega)) (fun j _ => by rw [jo 7 (by omega) (by omega) (by omega)]) (fun a ha => jo a (by omega) (by omega) (by omega)) (rr 1 13 (by decide) (by decide)) (rr 7 13 (by decide) (by decide)) hZ.n6
  by_cases z : j = 5
  · subst z
    rw [do_z.2.1, e0]
    exact kb_w0 (inv_kn hE) (by omega)
  · exact do_0 (by simp at hj; omega)
/-- the numbers told are written -/
theorem RX.nums {E E2 I J : It} {h : Ht} (hX : RX E I h) (h6 : nP E ≤ 6) (n1 : J 1 3 = E2 0 5 ∧ J 1 7 = E2 0 2 ∧ J 1 8 = E2 0 3 ∧ J 1 9 = E2 0 4) (e0 : ∀ j, j ∈ [15, 16, 17, 47, 48, 51, 52, 53, 54] → E2 0 j = E 0 j) (eC : ∀ a, a ∈ [9, 10, 11, 12, 13, 14, 15] → E2 a = E a) (jC : ∀ a, a ≠ 1 → J a = I a) : RX E2 J h := by
  have q : RX (fun a j => if a = 0 ∧ (j = 2 ∨ j = 3 ∨ j = 4 ∨ j = 5) then E 0 j else E2 a j) (fun a j => if a = 1 ∧ (j = 3 ∨ j = 7 ∨ j = 8 ∨ j = 9) then I 1 j else J a j) h := by
    refine hX.keep (fun j hj => ?_) (fun a ha => ?_) (fun j hj => ?_) (fun j hj => ?_) (fun j hj => ?_) (fun a ha => ?_) rfl rfl h6
    · show (if (0 : Nat) = 0 ∧ (j = 2 ∨ j = 3 ∨ j = 4 ∨ j = 5) then E 0 j else E2 0 j) = E 0 j
      by_cases z : (0 : Nat) = 0 ∧ (j = 2 ∨ j = 3 ∨ j = 4 ∨ j = 5)
      · rw [if_pos z]
      · rw [if_neg z]; exact e0 j (by simp at hj ⊢; omega)
    · funext j
      show (if a = 0 ∧ (j = 2 ∨ j = 3 ∨ j = 4 ∨ j = 5) then E 0 j else E2 a j) = E a j
      rw [if_neg (by simp at ha; omega), eC a ha]
    · show (if (0 : Nat) = 1 ∧ _ then I 1 j else J 0 j) = I 0 j
      rw [if_neg (by omega), jC 0 (by decide)]
    · show (if (1 : Nat) = 1 ∧ (j = 3 ∨ j = 7 ∨ j = 8 ∨ j = 9) then I 1 j else J 1 j) = I 1 j
      rw [if_pos (by simp at hj; omega)]
    · show (if (7 : Nat) = 1 ∧ _ then I 1 j else J 7 j) = I 7 j
      rw [if_neg (by omega), jC 7 (by decide)]
    · funext j
      show (if a = 1 ∧ _ then I 1 j else J a j) = I a j
      rw [if_neg (by omega), jC a (by omega)]
  obtain ⟨-, g2, g3, ⟨g4, g5⟩, g6, g7⟩ := q
  refine ⟨n1, g2, g3, ⟨g4, fun p hp => ?_⟩, g6, fun j hj => ?_⟩
  · have hp6 : p < 6 := by
      have : nP E2 = nP E := by unfold nP; rw [e0 15 (by decide)]
      omega
    obtain ⟨l, hl⟩ := g5 p hp
    refine ⟨l, hl.mv rfl (fun c _ => ⟨rfl, rfl, rfl, rfl⟩) (fun j _ => rfl) (fun a a1 a2 => ?_)⟩
    funext j
    exact (if_neg (by omega)).symm
  · exact g7 j hj
theorem RZ.wK {E : It} {L : Nat → Int64} {I : It} {h : Ht} {x : Int32} (hZ : RZ E L I h) : RZ (upI E 0 5 x) L (upI I 1 3 x) h :=
  ⟨(hZ.1.u1 (j := 3) (by decide)).f (by decide), hZ.2.nums hZ.n6 ⟨by rw [up0, up0], by rw [upn (by decide), upn (by decide)]; exact hZ.2.1.2.1, by rw [upn (by decide), upn (by decide)]; exact hZ.2.1.2.2.1, by rw [upn (by decide), upn (by decide)]; exact hZ.2.1.2.2.2⟩ (fun j hj => upn (by simp at hj; omega)) (fun a ha => upI_off (by simp at ha; omega)) (fun a ha => upI_off ha)⟩
theorem RZ.go {E : It} {L : Nat → Int64} {I : It} {h : Ht} (hE : Inv E) (hZ : RZ E L I h) {J W : It} {R : WS} {n a b c d : Int32} (hS : Sc I J) (eW : W = upI (upI (upI (upI J 1 7 a) 1 8 b) 1 9 c) 1 3 d) (ea : a = E 0 2 + R.2.2.1) (eb : b = E 0 3 + R.2.2.2.1) (ec : c = E 0 4 + R.2.2.2.2.1) (ed : d = R.2.1) : RZ (goE E R n) L (upI W 1 6 (E 0 1 + n)) h := by
  have hZJ := hZ.sc hE hS
  have hYW : RY E L W h := by rw [eW]; exact (((hZJ.1.u1 (j := 7) (by decide)).u1 (j := 8) (by decide)).u1 (j := 9) (by decide)).u1 (j := 3) (by decide)
  refine ⟨by unfold goE; exact ((((hYW.wW).f (j := 5) (by decide)).f (j := 2) (by decide)).f (j := 3) (by decide)).f (j := 4) (by decide), ?_⟩
  have wo : ∀ q, q ≠ 1 → W q = J q := fun q hq => by rw [eW, upI_off hq, upI_off hq, upI_off hq, upI_off hq]
  refine hZJ.2.nums hZ.n6 ⟨?_, ?_, ?_, ?_⟩ (fun j hj => ?_) (fun q hq => ?_) (fun q hq => (upI_off hq).trans (wo q hq))
  · rw [upn (by decide), eW, up0, ed]
    unfold goE
    rw [upn (by decide), upn (by decide), upn (by decide), up0]
  · rw [upn (by decide), eW, upn (by decide), upn (by decide), upn (by decide), up0, ea]
    unfold goE
    rw [upn (by decide), upn (by decide), up0]
  · rw [upn (by decide), eW, upn (by decide), upn (by decide), up0, eb]
    unfold goE
    rw [upn (by decide), up0]
  · rw [upn (by decide), eW, upn (by decide), up0, ec]
    unfold goE
    rw [up0]
  · unfold goE
    rw [upn (by simp at hj; omega), upn (by simp at hj; omega), upn (by simp at hj; omega), upn (by simp at hj; omega), upn (by simp at hj; omega)]
  · unfold goE
    rw [upI_off (by simp at hq; omega), upI_off (by simp at hq; omega), upI_off (by simp at hq; omega), upI_off (by simp at hq; omega), upI_off (by simp at hq; omega)]
theorem RZ.img {E : It} {L : Nat → Int64} {I J : It} {h h2 : Ht} (hE : Inv E) (hZ : RZ E L I h) (hT : TF 7 1 I h J h2) : RZ (imgC (imgF E)) L (upI J 0 2 1) h2 := by
  refine ⟨hZ.1.img hE hT, ?_⟩
  have hn6 := hZ.n6
  obtain ⟨t1, t2, t3, t4, t5, t6, t7, t8, t9, t10, es, en, el, hx⟩ := hT
  obtain ⟨g1, g2, g3, ⟨g4, g5⟩, g6, g7⟩ := hZ.2
  have K : ∀ a, a ≠ 0 → a ∉ [7, 9, 10, 11, 12] → upI J 0 2 1 a = I a := fun a h0 ha => (upI_off h0).trans (t6 a ha)
  have K0 : ∀ j, j ≠ 2 → upI J 0 2 1 0 j = I 0 j := fun j hj => (upn (fun z => hj z.2)).trans (congrFun (t6 0 (by decide)) j)
  have q : ∀ f, f ∈ [2, 3, 4, 6, 7, 8, 9, 12] → upI J 0 2 1 7 f = I 1 f := fun f hf => by rw [upI_off (by decide)]; exact t1 f hf
  have hn : nP (imgC (imgF E)) = nP E := by unfold nP; rw [img_0 (by decide)]
  have hf : fedN (imgC (imgF E)) = fedN E := by unfold fedN; rw [img_0 (by decide)]
  refine ⟨?_, fun _ => ⟨?_, ?_⟩, ?_, ⟨?_, fun p hp => ?_⟩, ?_, fun j hj => ?_⟩
  · rw [K 1 (by decide) (by decide), img_0 (by decide), img_0 (by decide), img_0 (by decide), img_0 (by decide)]; exact g1
  · rw [q 3 (by decide), q 7 (by decide), q 8 (by decide), q 9 (by decide)]; exact g1
  · rw [t8]; exact g3.mv hn
  · rw [img_0 (by decide), show hR h2 1 13 = hR h 1 13 from congrFun (t9 1 (by decide) (by decide)) 13]; exact g3.mv hn
  · rw [K0 5 (by decide), img_0 (by decide)]; exact g4
  · rw [hn] at hp
    obtain ⟨l, hl⟩ := g5 p hp
    exact ⟨l, hl.mv (by rw [img_off (by decide) (by decide)]) (fun c _ => by rw [img_off (by decide) (by decide), img_off (by decide) (by decide), img_off (by decide) (by decide), img_off (by decide) (by decide)]; exact ⟨rfl, rfl, rfl, rfl⟩) (fun j _ => by rw [img_off (by decide) (by decide)]) (fun a a1 a2 => K a (by omega) (by simp; omega))⟩
  · rw [K0 7 (by decide), img_0 (by decide)]; exact g6
  · rw [hf] at hj
    rw [K 31 (by decide) (by decide), img_off (by decide) (by decide)]; exact g7 j hj
theorem RZ.und {E : It} {L : Nat → Int64} {I J : It} {h h2 : Ht} (hE : Inv E) (h47 : ¬ E 0 47 = 0) (hZ : RZ E L I h) (hT : TF 1 7 I h J h2) : RZ (undC (undF E)) L J h2 := by
  refine ⟨hZ.1.und hE h47 hT, ?_⟩
  have hn6 := hZ.n6
  obtain ⟨t1, t2, t3, t4, t5, t6, t7, t8, t9, t10, es, en, el, hx⟩ := hT
  obtain ⟨g1, g2, g3, ⟨g4, g5⟩, g6, g7⟩ := hZ.2
  have h1 : E 0 47 = 1 := by rcases hE.2.1 with z | z; exact absurd z h47; exact z.1
  obtain ⟨g2a, g2b⟩ := g2 h1
  have K : ∀ a, a ∉ [1, 3, 4, 5, 6] → J a = I a := t6
  have hn : nP (undC (undF E)) = nP E := by unfold nP; rw [und_0 (by decide)]
  have hf : fedN (undC (undF E)) = fedN E := by unfold fedN; rw [und_0 (by decide)]
  refine ⟨?_, fun _ => ⟨?_, ?_⟩, ?_, ⟨?_, fun p hp => ?_⟩, ?_, fun j hj => ?_⟩
  · rw [t1 3 (by decide), t1 7 (by decide), t1 8 (by decide), t1 9 (by decide)]; exact g2a
  · rw [K 7 (by decide), und_0 (by decide), und_0 (by decide), und_0 (by decide), und_0 (by decide)]; exact g2a
  · rw [und_0 (by decide), show hR h2 7 13 = hR h 7 13 from congrFun (t9 7 (by decide) (by decide)) 13]; exact g2b.mv hn
  · rw [t8]; exact g2b.mv hn
  · rw [K 0 (by decide), und_0 (by decide)]; exact g4
  · rw [hn] at hp
    obtain ⟨l, hl⟩ := g5 p hp
    exact ⟨l, hl.mv (by rw [und_off (by decide) (by decide)]) (fun c _ => by rw [und_off (by decide) (by decide), und_off (by decide) (by decide), und_off (by decide) (by decide), und_off (by decide) (by decide)]; exact ⟨rfl, rfl, rfl, rfl⟩) (fun j _ => by rw [und_off (by decide) (by decide)]) (fun a a1 a2 => K a (by simp; omega))⟩
  · rw [K 0 (by decide), und_0 (by decide)]; exact g6
  · rw [hf] at hj
    rw [K 31 (by decide), und_off (by decide) (by decide)]; exact g7 j hj
theorem fed_s {E : It} {L : Nat → Int64} {I : It} {h : Ht} {s : Nat} (hZ : RZ E L I h) (es : I 0 7 = nI s) (hs : s ≤ 100) : E 0 17 = nI s ∧ fedN E = s := by
  have e : E 0 17 = nI s := hZ.2.2.2.2.2.1.symm.trans es
  exact ⟨e, by unfold fedN; rw [e, tN_nI (by omega)]⟩
theorem RZ.feed {E : It} {L : Nat → Int64} {I : It} {h : Ht} {s : Nat} {x : Int32} (hZ : RZ E L I h) (hs : s < 100) (es : I 0 7 = nI s) : RZ (upI (upI E 9 (tN (E 0 17)) x) 0 17 (E 0 17 + 1)) L (upI (upI I 31 s x) 0 7 (nI (s + 1))) h := by
  obtain ⟨eE, ef⟩ := fed_s hZ es (by omega)
  have hn6 := hZ.n6
  refine ⟨(RY.u07 (s := s + 1) (hZ.1.ua (a := 31) (by decide)) (by omega)).cc (by decide) |>.f (by decide), ?_⟩
  rw [eE, tN_nI (by omega), nI_1]
  obtain ⟨g1, g2, g3, ⟨g4, g5⟩, g6, g7⟩ := hZ.2
  generalize eE2 : upI (upI E 9 s x) 0 17 (nI (s + 1)) = E2
  generalize eJ : upI (upI I 31 s x) 0 7 (nI (s + 1)) = J
  have kE : ∀ j, j ≠ 17 → E2 0 j = E 0 j := fun j hj => by rw [← eE2]; exact (upn (by omega)).trans (upn (by omega))
  have kC : ∀ a, a ≠ 0 → a ≠ 9 → E2 a = E a := fun a h1 h2 => by rw [← eE2]; exact (upI_off h1).trans (upI_off h2)
  have kI : ∀ a, a ≠ 0 → a ≠ 31 → J a = I a := fun a h1 h2 => by rw [← eJ]; exact (upI_off h1).trans (upI_off h2)
  have k05 : J 0 5 = I 0 5 := by rw [← eJ]; exact (upn (by omega)).trans (upn (by omega))
  have n2 : nP E2 = nP E := by unfold nP; rw [kE 15 (by decide)]
  have e17 : E2 0 17 = nI (s + 1) := by rw [← eE2, up0]
  have f2 : fedN E2 = s + 1 := by unfold fedN; rw [e17, tN_nI (by omega)]
  refine ⟨?_, fun z => ?_, ?_, ⟨?_, fun p hp => ?_⟩, by rw [e17, ← eJ, up0], fun j hj => ?_⟩
  · rw [kI 1 (by decide) (by decide), kE 5 (by decide), kE 2 (by decide), kE 3 (by decide), kE 4 (by decide)]; exact g1
  · rw [kE 47 (by decide)] at z
    rw [kI 7 (by decide) (by decide), kE 54 (by decide), kE 51 (by decide), kE 52 (by decide), kE 53 (by decide), kE 48 (by decide)]
    exact ⟨(g2 z).1, (g2 z).2.mv n2⟩
  · rw [kE 16 (by decide)]; exact g3.mv n2
  · rw [k05, kE 15 (by decide)]; exact g4
  · rw [n2] at hp
    obtain ⟨l, hl⟩ := g5 p hp
    exact ⟨l, hl.mv (by rw [kC 10 (by decide) (by decide)]) (fun c _ => by rw [kC 11 (by decide) (by decide), kC 12 (by decide) (by decide), kC 13 (by decide) (by decide), kC 14 (by decide) (by decide)]; exact ⟨rfl, rfl, rfl, rfl⟩) (fun j _ => by rw [kC 15 (by decide) (by decide)]) (fun a a1 a2 => kI a (by omega) (by omega))⟩
  · rw [f2] at hj
    have q1 : J 31 j = upI I 31 s x 31 j := by rw [← eJ]; exact congrFun (upI_off (by decide)) j
    have q2 : E2 9 j = upI E 9 s x 9 j := by rw [← eE2]; exact congrFun (upI_off (by decide)) j
    rw [q1, q2]
    by_cases z : j = s
    · subst z; rw [up0, up0]
    · rw [upn (by omega), upn (by omega)]; exact g7 j (by omega)
/-! answers -/
def qZ (s : Int32 × It) (L : Nat → Int64) (N : Nat) : Pt3 := qI fun x I' h' => x = s.1 ∧ RZ s.2 L I' h' ∧ hn h' ≤ N
def qZL (v : Int64) (E : It) (L : Nat → Int64) (N : Nat) : Pt3 := qL fun x I' h' => x = v ∧ RZ E L I' h' ∧ hn h' ≤ N
def qWZ (E : It) (L : Nat → Int64) (N : Nat) : Pt3 := qI fun _ I' h' => RZ E L I' h' ∧ hn h' ≤ N
theorem qZ_of {s : Int32 × It} {v : Int32} {E' J : It} {L : Nat → Int64} {h : Ht} (e : s = (v, E')) (hZ : RZ E' L J h) : qZ s L (hn h) (some (.int v)) J h := ⟨v, rfl, by rw [e], by rw [e]; exact hZ, Nat.le_refl _⟩
theorem qZL_of {v w : Int64} {E J : It} {L : Nat → Int64} {h : Ht} (e : w = v) (hZ : RZ E L J h) : qZL v E L (hn h) (some (.long w)) J h := ⟨w, rfl, e, hZ, Nat.le_refl _⟩
theorem qWZ_of {v : Int32} {E J : It} {L : Nat → Int64} {h : Ht} (hZ : RZ E L J h) : qWZ E L (hn h) (some (.int v)) J h := ⟨v, rfl, hZ, Nat.le_refl _⟩
theorem qZ_ofN {s : Int32 × It} {v : Int32} {E' J : It} {L : Nat → Int64} {h : Ht} {N : Nat} (e : s = (v, E')) (hZ : RZ E' L J h) (hN : hn h ≤ N) : qZ s L N (some (.int v)) J h := ⟨v, rfl, by rw [e], by rw [e]; exact hZ, hN⟩
theorem itz_of {E J : It} {s : Int32 × (Nat → Int64)} {v : Int32} {L' : Nat → Int64} {h : Ht} (e : s = (v, L')) (hZ : RZ E L' J h) : qZ (s.1, E) s.2 (hn h) (some (.int v)) J h := ⟨v, rfl, by rw [e], by rw [e]; exact hZ, Nat.le_refl _⟩
theorem tpz_of {E' J : It} {s : Int32 × It} {v : Int32} {L2 L' : Nat → Int64} {h h2 : Ht} (e : s = (v, E')) (eL : L2 = L') (en : hn h2 = hn h) (hZ : RZ E' L' J h2) : qZ s L2 (hn h) (some (.int v)) J h2 := ⟨v, rfl, by rw [e], by rw [e, eL]; exact hZ, Nat.le_of_eq en⟩
/-! the start -/
theorem RZ_start {Ix E : It} {hx : Ht} (hI : IX0 Ix) (hH : HX0 hx) (hF : fresh E) (hY : RY E (fun _ => 0) Ix hx) : RZ E (fun _ => 0) Ix hx := by
  have z : ∀ j, j ∈ pfL → j ≠ 16 → j ≠ 48 → E 0 j = 0 := fun j hj h1 h2 => by rw [hF.1 j hj, if_neg (by omega)]
  have i0 : ∀ q, q < 73 → q ≠ 34 → ∀ j, Ix q j = 0 := hI.1
  have e16 : E 0 16 = -1 := by rw [hF.1 16 (by decide), if_pos (by decide)]
  have np : nP E = 0 := by unfold nP; rw [z 15 (by decide) (by decide) (by decide)]; rfl
  have nf : fedN E = 0 := by unfold fedN; rw [z 17 (by decide) (by decide) (by decide)]; rfl
  refine ⟨hY, ⟨?_, ?_, ?_, ?_⟩, fun e => ?_, Or.inl ⟨e16, hH.2.2.2.2.1.1⟩, ⟨?_, fun p hp => ?_⟩, ?_, fun j hj => ?_⟩
  · rw [i0 1 (by decide) (by decide), z 5 (by decide) (by decide) (by decide)]
  · rw [i0 1 (by decide) (by decide), z 2 (by decide) (by decide) (by decide)]
  · rw [i0 1 (by decide) (by decide), z 3 (by decide) (by decide) (by decide)]
  · rw [i0 1 (by decide) (by decide), z 4 (by decide) (by decide) (by decide)]
  · rw [z 47 (by decide) (by decide) (by decide)] at e; exact absurd e (by decide)
  · rw [i0 0 (by decide) (by decide), z 15 (by decide) (by decide) (by decide)]
  · rw [np] at hp; exact absurd hp (Nat.not_lt_zero p)
  · rw [i0 0 (by decide) (by decide), z 17 (by decide) (by decide) (by decide)]
  · rw [nf] at hj; exact absurd hj (Nat.not_lt_zero j)
/-! answers that are put together -/
theorem ofb (s a : Int32) (E : It) : (if hasI s a = 1 then ((1 : Int32), E) else (0, E)) = (hasI s a, E) := by
  rcases has_01 s a with e | e <;> rw [e] <;> rfl
theorem learn_z {E : It} {a z : Int32} (h : isD E a) : learnS E a z = (hasI (E 0 5) a, upI E 0 5 (withI (E 0 5) a z)) := by
  unfold learnS
  rw [if_neg (not_not_intro h)]
  rcases has_01 (E 0 5) a with e | e <;> rw [e] <;> rfl
theorem cfR_p {f g q : Nat → Bool} : ∀ (k i : Nat) (z1 z2 : Int32), (∀ j, b2 (q j) = b2 (f j) + b2 (g j)) → cfR q k i (z1 + z2) = cfR f k i z1 + cfR g k i z2 := by
  intro k
  induction k with
  | zero => intro i z1 z2 _; rfl
  | succ k ih =>
    intro i z1 z2 h
    rw [cfR_s, cfR_s, cfR_s, ← ih (i + 1) _ _ h, h i]
    congr 1
    rw [Int32.add_assoc, Int32.add_assoc, ← Int32.add_assoc z2, Int32.add_comm z2, Int32.add_assoc (b2 (f i))]
theorem ones_10 {m : Nat} (h : m < 1024) : nI (onesN m) = cfR (fun i => gb (nI m) i) 10 0 0 := ones_f 10 (by decide) m h
theorem hand_e {n : Nat} {a o : Int32} (ha : kb n a) (ho : kb n o) (hn : n ≤ 10) : ∃ m, m < 1024 ∧ o &&& (a ^^^ (-1)) = nI m ∧ nI (onesN m) = onesI (a ||| o) - onesI a ∧ a ||| (o &&& (a ^^^ (-1))) = a ||| o := by
  obtain ⟨m, hm, em⟩ := kb_lt (kb_and (a ^^^ (-1)) ho) hn
  obtain ⟨x, hx, ex⟩ := kb_lt ha hn
  obtain ⟨z, hz, ez⟩ := kb_lt (kb_or ha ho) hn
  have h32 : a ||| (o &&& (a ^^^ (-1))) = a ||| o := gb_ext (fun i hi => by
    rw [gb_or, gb_and, gb_not _ hi, gb_or]
    cases gb a i <;> cases gb o i <;> rfl)
  refine ⟨m, hm, em, ?_, h32⟩
  have h1 : onesI (a ||| o) = cfR (fun i => gb (a ||| o) i) 10 0 0 := by unfold onesI; rw [ez, tN_nI (by omega), ones_10 hz]
  have h2 : onesI a = cfR (fun i => gb a i) 10 0 0 := by unfold onesI; rw [ex, tN_nI (by omega), ones_10 hx]
  have h3 : nI (onesN m) = cfR (fun i => gb (o &&& (a ^^^ (-1))) i && decide (i < 32)) 10 0 0 := by
    rw [ones_10 hm, em]
    exact cfR_cg 10 0 0 (fun j _ hj => by rw [show decide (j < 32) = true from decide_eq_true (by omega), Bool.and_true])
  have h4 : cfR (fun i => gb (a ||| o) i && decide (i < 32)) 10 0 (0 + 0) = cfR (fun i => gb a i && decide (i < 32)) 10 0 0 + cfR (fun i => gb (o &&& (a ^^^ (-1))) i && decide (i < 32)) 10 0 0 := by
    refine cfR_p 10 0 0 0 (fun j => ?_)
    by_cases hj : j < 32
    · rw [decide_eq_true hj, Bool.and_true, Bool.and_true, Bool.and_true, gb_or, gb_and, gb_not _ hj]
      cases gb a j <;> cases gb o j <;> rfl
    · rw [decide_eq_false hj, Bool.and_false, Bool.and_false, Bool.and_false]; rfl
  have h5 : ∀ b : Int32, cfR (fun i => gb b i && decide (i < 32)) 10 0 0 = cfR (fun i => gb b i) 10 0 0 := fun b =>
    cfR_cg 10 0 0 (fun j _ hj => by rw [show decide (j < 32) = true from decide_eq_true (by omega), Bool.and_true])
  rw [Int32.add_zero, h5, h5 a, ← h1, ← h2, ← h3] at h4
  rw [h4, Int32.add_comm, Int32.add_sub_cancel]
theorem hr_9 {E : It} (hE : Inv E) {y : Nat} (hy : y < 4) : E 8 y = 9 ∨ E 8 y < 9 := by
  obtain ⟨x, hx, e⟩ := hE.1.2.2.2.2.1 y hy
  rcases Nat.lt_or_ge x 9 with z | z
  · exact Or.inr (by rw [e]; exact nI_lt (b := 9) z (by decide))
  · exact Or.inl (by rw [e, show x = 9 by omega]; rfl)
theorem jd_1 {E : It} {L : Nat → Int64} {t l k d : Nat} {e : Int32} (el : E 37 t = nI l) (hl : l ≤ 60) (hd : d ≤ 10) (h : e < 0 ∨ ¬ e < nI l - nI d) : jdR E L t e (k + 1) d = 100 + nI d := by
  rw [jdR_s]
  by_cases h1 : E 36 t < 0
  · rw [if_pos h1]
  · rw [if_neg h1]
    by_cases h2 : e < 0
    · rw [if_pos h2]
    · rw [if_neg h2, if_pos]
      intro h3
      have h4 := h.resolve_left h2
      obtain ⟨q, hq, rfl⟩ := nI_of h2
      rw [el] at h3
      have h5 := jd_le hl hd hq h3
      rw [pk_sub (by omega)] at h4
      exact h4 (nI_lt (by omega) (by omega))
theorem jd_2 {E : It} {L : Nat → Int64} {t l k d q : Nat} {e : Int32} (el : E 37 t = nI l) (hl : l ≤ 60) (hd : d ≤ 10) (hz : E 36 t < 0 → l = 0) (eq : e = nI q) (hq60 : q + d < 60) (h : e < nI l - nI d) : jdR E L t e (k + 1) d = if L (60 * t + (q + d)) = (hasI (E 0 5) (nI d)).toInt64 then jdR E L t e k (d + 1) else nI d := by
  subst eq
  have hql : q + d < l := by
    rcases Nat.lt_or_ge d l with z | z
    · rw [pk_sub (by omega)] at h
      have := lt_nI (by omega) (by omega) h
      omega
    · exfalso
      have h1 := Int32.lt_iff_toInt_lt.mp h
      rw [Int32.toInt_sub, nI_toInt (show l < 2 ^ 31 by omega), nI_toInt (show d < 2 ^ 31 by omega), nI_toInt (show q < 2 ^ 31 by omega), Int.bmod_eq_of_le (by omega) (by omega)] at h1
      omega
  rw [jdR_s, if_neg (fun z => by have := hz z; omega), if_neg (nI_pos (by omega)), if_neg, tN_nI (by omega), Nat.add_assoc]
  · rcases has_01 (E 0 5) (nI d) with z | z <;> rw [z] <;> rfl
  · rw [el, pk_sub (by omega), show (1 : Int32) = nI 1 from rfl, pk_sub (by omega)]
    exact not_not_intro (nI_le (by omega) (by omega))
/-- the best SPLIT's memory -/
def KS (E J2 : It) (m : Nat) (J : It) : Prop := Sc J2 J ∧ J 13 1 = nI m ∧ AH E J m ∧ HD E J
theorem KS.u {E J2 J : It} {m : Nat} {y : Nat} {x : Int32} (hE : Inv E) (h : KS E J2 m J) : KS E J2 m (upI J 28 y x) :=
  ⟨h.1.up ⟨by decide, by decide⟩, (upn (by omega)).trans h.2.1, h.2.2.1.o (upI_off (by decide)) (upI_off (by decide)), h.2.2.2.o (fun a h1 h2 => upI_off (by omega)) hE⟩
theorem KS.c {E J2 J : It} {m : Nat} (hE : Inv E) (h : KS E J2 m J) : KS E J2 m (cpI J 28 29 0 0 4) :=
  ⟨fun a ha => (cpI_29 J (by omega)).trans (h.1 a ha), (congrFun (cpI_29 J (by decide)) 1).trans h.2.1, h.2.2.1.o (cpI_29 J (by decide)) (cpI_29 J (by decide)), h.2.2.2.o (fun a h1 h2 => cpI_29 J (by omega)) hE⟩
theorem KS.p {E J2 J K : It} {m : Nat} (hE : Inv E) (h : KS E J2 m J) (hP : P2 J K) : KS E J2 m K :=
  ⟨h.1.trans hP.sc, hP.2.trans h.2.1, h.2.2.1.p2 hP, h.2.2.2.o (fun a h1 h2 => hP.1 a (by omega) (by omega)) hE⟩
theorem h4_of {f : Nat → Int32} {a b c e : Nat} (h : f 0 = nI a ∧ f 1 = nI b ∧ f 2 = nI c ∧ f 3 = nI e) : ∀ y, y < 4 → f y = h4 a b c e y := by
  intro y hy
  rcases (by omega : y = 0 ∨ y = 1 ∨ y = 2 ∨ y = 3) with rfl | rfl | rfl | rfl
  · exact h.1
  · exact h.2.1
  · exact h.2.2.1
  · exact h.2.2.2
theorem jd_m {x : Int32} (h : x = -1) : x < 0 := by rw [h]; decide
theorem jd_0 {E : It} (hE : Inv E) {t : Nat} (ht : t < 6) (h : ¬ E 36 t = -1) : ¬ E 36 t < 0 := by
  obtain ⟨-, -, -, -, hs⟩ := tp_of hE ht
  obtain ⟨s, hs4, e⟩ := hs.resolve_left h
  rw [e]; exact nI_pos (by omega)
theorem nb_127 : ∀ n, n ≤ 127 → vp_nar .byte (nI n).toInt8.toInt32 = nI n := by decide +kernel
end
