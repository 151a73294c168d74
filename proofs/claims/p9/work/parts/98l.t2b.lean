/-! posts: the class's and the reference's are one list of clauses -/
def okC2 (x : Cl) : Prop := (x.1 = 0 ∨ x.1 = 1 ∨ x.1 = 2 ∨ x.1 = 3) ∧ (∃ v, v ≤ 99 ∧ x.2.1 = nI v) ∧ (¬ 1 < x.1 → okB x.2.2 1) ∧ (1 < x.1 → x.2.2 = [])
theorem clA_ok2 {X : Nat → Int32} {n a : Nat} (h : (clA X n a).1 = true) : okC2 (clA X n a).2.2 := by
  by_cases h1 : (hdA X n a).1 = true
  · by_cases h2 : dgA X n (hdA X n a).2.1
    · by_cases h3 : 1 < (hdA X n a).2.2
      · rw [cl_w h1 h2 h3]; exact ⟨hd_w, nv_99 h2, fun z => absurd h3 z, fun _ => rfl⟩
      · by_cases h4 : nxA X n (nuA X n (hdA X n a).2.1) = 32
        · rw [cl_E h1 h2 h3 h4] at h ⊢
          exact ⟨hd_w, nv_99 h2, fun _ => am_okB 101 true _ [] [] (fun _ z => absurd z List.not_mem_nil) (Nat.zero_le _) trivial ⟨fun _ z => absurd z List.not_mem_nil, rfl⟩ h, fun z => absurd z h3⟩
        · rw [cl_s h1 h2 h3 h4] at h; exact absurd h Bool.false_ne_true
    · rw [cl_n h1 h2] at h; exact absurd h Bool.false_ne_true
  · rw [cl_h h1] at h; exact absurd h Bool.false_ne_true
theorem gt_ok2 {X : Nat → Int32} {n : Nat} : ∀ (f a : Nat) (l : List Cl), (∀ x, x ∈ l → okC2 x) → (gtA X n f a l).1 = true → ∀ x, x ∈ (gtA X n f a l).2.2 → okC2 x := by
  intro f
  induction f with
  | zero => intro a l _ h; exact absurd h Bool.false_ne_true
  | succ f ih =>
    intro a l hk h
    by_cases h1 : (clA X n a).1 = true
    · have hk2 : ∀ x, x ∈ l ++ [(clA X n a).2.2] → okC2 x := fun x hx => by
        rcases List.mem_append.mp hx with z | z
        · exact hk x z
        · rw [List.mem_singleton.mp z]; exact clA_ok2 h1
      by_cases h2 : (clA X n a).2.1 = n
      · rw [gt_e h1 h2]; exact hk2
      · by_cases h3 : l.length + 1 = 10
        · rw [gt_10 h1 h2 h3] at h; exact absurd h Bool.false_ne_true
        · by_cases h4 : nxA X n (clA X n a).2.1 = 59
          · rw [gt_s h1 h2 h3 h4] at h ⊢
            exact ih _ _ hk2 h
          · rw [gt_x h1 h2 h3 h4] at h; exact absurd h Bool.false_ne_true
    · rw [gt_f h1] at h; exact absurd h Bool.false_ne_true
def wcd (w : Int32) : Int32 := if w = 0 then 115 else if w = 1 then 99 else if w = 2 then 108 else 102
/-- the class's rows of a post -/
def CTc (I : It) (p : Nat) : List Cl → Nat → Nat → Prop := fun l => match l with
  | [] => fun _ _ => True
  | x :: r => fun k fr => (I (44 + 5 * p) k = wcd x.1 ∧ I (45 + 5 * p) k = x.2.1 ∧ I (46 + 5 * p) k = nI (fr + x.2.2.length) ∧ CC2 fr (I (47 + 5 * p)) x.2.2) ∧ CTc I p r (k + 1) (fr + x.2.2.length)
theorem CTc.mv {I J : It} {p : Nat} (h : ∀ a, 43 + 5 * p ≤ a → a ≤ 47 + 5 * p → J a = I a) : ∀ {l : List Cl} {k fr : Nat}, CTc I p l k fr → CTc J p l k fr := by
  intro l
  induction l with
  | nil => intro _ _ _; trivial
  | cons x r ih =>
    intro k fr hc
    refine ⟨?_, ih hc.2⟩
    rw [h (44 + 5 * p) (by omega) (by omega), h (45 + 5 * p) (by omega) (by omega), h (46 + 5 * p) (by omega) (by omega), h (47 + 5 * p) (by omega) (by omega)]
    exact hc.1
/-- call, or fade: the last one's n -/
def lstL (w : Int32) : List Cl → Int32 → Int32 := fun l => match l with
  | [] => fun n => n
  | x :: r => fun n => lstL w r (if x.1 = w then x.2.1 else n)
theorem lstL_c (w : Int32) (x : Cl) (r : List Cl) (n : Int32) : lstL w (x :: r) n = lstL w r (if x.1 = w then x.2.1 else n) := rfl
def sumL (E : It) (what : Int32) (i : Nat) (y w : Int32) : List Cl → Int32 → Int32 := fun l => match l with
  | [] => fun s => s
  | x :: r => fun s => sumL E what i y w r (s + (if x.1 = what ∧ (evL E i y w x.2.2 []).headD false = true then x.2.1 else 0))
theorem sumL_c (E : It) (what : Int32) (i : Nat) (y w : Int32) (x : Cl) (r : List Cl) (s : Int32) : sumL E what i y w (x :: r) s = sumL E what i y w r (s + (if x.1 = what ∧ (evL E i y w x.2.2 []).headD false = true then x.2.1 else 0)) := rfl
/-- post p, the reference's and the class's, by its clauses -/
def PRl (E I : It) (p : Nat) (l : List Cl) : Prop :=
  (E 10 p = nI l.length ∧ STc E p l 0 (100 * p)) ∧ (∀ x, x ∈ l → okC2 x) ∧ (l.length ≤ 10 ∧ tot l ≤ 100) ∧ CTc I p l 0 0 ∧ I (43 + 5 * p) 2 = nI l.length ∧ I (43 + 5 * p) 0 = lstL 2 l 7 ∧ I (43 + 5 * p) 1 = lstL 3 l 1
theorem PRl.mv {E E2 I J : It} {p : Nat} {l : List Cl} (h : PRl E I p l) (e10 : E2 10 p = E 10 p) (eC : ∀ c, c < 10 * p + 10 → E2 11 c = E 11 c ∧ E2 12 c = E 12 c ∧ E2 13 c = E 13 c ∧ E2 14 c = E 14 c) (e15 : ∀ j, j < 100 * p + 100 → E2 15 j = E 15 j) (hJ : ∀ a, 43 + 5 * p ≤ a → a ≤ 47 + 5 * p → J a = I a) : PRl E2 J p l := by
  obtain ⟨⟨h1, h2⟩, h3, ⟨h4, h4b⟩, h5, h6, h7, h8⟩ := h
  refine ⟨⟨by rw [e10]; exact h1, STc_mv h2 (fun c _ hc => eC c (by omega)) (fun j _ hj => e15 j (by omega))⟩, h3, ⟨h4, h4b⟩, h5.mv hJ, ?_, ?_, ?_⟩
  · rw [hJ _ (by omega) (by omega)]; exact h6
  · rw [hJ _ (by omega) (by omega)]; exact h7
  · rw [hJ _ (by omega) (by omega)]; exact h8
theorem lastF_L {E : It} {w : Int32} {p : Nat} : ∀ (l : List Cl) (k fr : Nat) (n : Int32), STc E p l k fr → lastF E w l.length (10 * p + k) n = lstL w l n := by
  intro l
  induction l with
  | nil => intro k fr n _; rfl
  | cons x r ih =>
    intro k fr n h
    rw [List.length_cons, lastF_s, lstL_c, h.1.1, h.1.2.1]
    exact ih (k + 1) _ _ h.2
theorem w01 {x : Int32} (h : x = 0 ∨ x = 1) : ¬ 1 < x := by rcases h with rfl | rfl <;> decide
theorem sumF_L {E : It} {what : Int32} {i : Nat} {y w : Int32} {p : Nat} (hw : what = 0 ∨ what = 1) : ∀ (l : List Cl) (k fr : Nat) (s : Int32), STc E p l k fr → (fr + tot l < 2 ^ 31) → sumF E what i y w l.length (10 * p + k) s = sumL E what i y w l s := by
  intro l
  induction l with
  | nil => intro k fr s _ _; rfl
  | cons x r ih =>
    intro k fr s h hb
    rw [tot_c] at hb
    rw [List.length_cons, sumF_s, sumL_c, h.1.1, h.1.2.1]
    have key : (x.1 = what ∧ holdsF E (10 * p + k) i y w = true) ↔ (x.1 = what ∧ (evL E i y w x.2.2 []).headD false = true) := by
      constructor
      · rintro ⟨e, z⟩
        refine ⟨e, ?_⟩
        obtain ⟨g1, g2, g3⟩ := h.1.2.2 (by rw [e]; exact w01 hw)
        unfold holdsF clLen at z
        rw [g1, g2, tN_nI (by omega), tN_nI (by omega), show fr + x.2.2.length - fr = x.2.2.length by omega, evalR_L _ _ _ g3] at z
        exact z
      · rintro ⟨e, z⟩
        refine ⟨e, ?_⟩
        obtain ⟨g1, g2, g3⟩ := h.1.2.2 (by rw [e]; exact w01 hw)
        unfold holdsF clLen
        rw [g1, g2, tN_nI (by omega), tN_nI (by omega), show fr + x.2.2.length - fr = x.2.2.length by omega, evalR_L _ _ _ g3]
        exact z
    have e2 : (if x.1 = what ∧ holdsF E (10 * p + k) i y w = true then x.2.1 else 0) = (if x.1 = what ∧ (evL E i y w x.2.2 []).headD false = true then x.2.1 else 0) := by
      by_cases z : x.1 = what ∧ holdsF E (10 * p + k) i y w = true
      · rw [if_pos z, if_pos (key.mp z)]
      · rw [if_neg z, if_neg (fun q => z (key.mpr q))]
    rw [e2]
    exact ih (k + 1) _ _ h.2 (by omega)
theorem wcd_e {x what : Int32} (hx : x = 0 ∨ x = 1 ∨ x = 2 ∨ x = 3) (hw : what = 0 ∨ what = 1) : (wcd x = wcd what) ↔ x = what := by
  rcases hx with rfl | rfl | rfl | rfl <;> rcases hw with rfl | rfl <;> decide
/-- the class's sum -/
theorem tgR_L {E : It} {L : Nat → Int64} {I : It} {h : Ht} (hE : Inv E) (hY : RY E L I h) {d p : Nat} (hd : d < cnt E) {what y w : Int32} (hw : what = 0 ∨ what = 1) : ∀ (l : List Cl) (k fr : Nat) (z : Int32), (∀ x, x ∈ l → okC2 x) → CTc I p l k fr → (fr + tot l < 2 ^ 31) → ((k = 0 ∧ fr = 0) ∨ (k ≠ 0 ∧ I (46 + 5 * p) (k - 1) = nI fr)) → tgR I h p (wcd what) (dn h d) y w l.length k z = sumL E what d y w l z := by
  intro l
  induction l with
  | nil => intro k fr z _ _ _ _; rfl
  | cons x r ih =>
    intro k fr z hk hc hb hfr
    rw [tot_c] at hb
    obtain ⟨⟨c1, c2, c3, c4⟩, c5⟩ := hc
    rw [List.length_cons, tgR_s, sumL_c, c1, c2]
    have hx := hk x List.mem_cons_self
    have eBe : eB I p k = fr := by
      unfold eB
      rcases hfr with ⟨h1, h2⟩ | ⟨h1, h2⟩
      · rw [if_pos h1, h2]
      · rw [if_neg h1, h2, tN_nI (by omega)]
    have eEe : eE I p k = fr + x.2.2.length := by unfold eE; rw [c3, tN_nI (by omega)]
    have key : (wcd x.1 = wcd what ∧ hoC I h p k (dn h d) y w) ↔ (x.1 = what ∧ (evL E d y w x.2.2 []).headD false = true) := by
      have q : x.1 = what → (hoC I h p k (dn h d) y w ↔ (evL E d y w x.2.2 []).headD false = true) := by
        intro e
        have hB := hx.2.2.1 (by rw [e]; exact w01 hw)
        show (hbR I h p (dn h d) y w (eE I p k - eB I p k) (eB I p k) 0 &&& 1 ≠ 0) ↔ _
        rw [eBe, eEe, show fr + x.2.2.length - fr = x.2.2.length by omega]
        obtain ⟨s1, s2⟩ := hb_e hE hY hd (y := y) (w := w) (p := p) x.2.2 fr 0 [] 1 c4 (fun i hi => absurd hi (Nat.not_lt_zero i)) (by decide) hB.2
        exact s1.head s2
      constructor
      · rintro ⟨e, z⟩
        have e' := (wcd_e hx.1 hw).mp e
        exact ⟨e', (q e').mp z⟩
      · rintro ⟨e, z⟩
        exact ⟨(wcd_e hx.1 hw).mpr e, (q e).mpr z⟩
    have e2 : (if wcd x.1 = wcd what ∧ hoC I h p k (dn h d) y w then z + x.2.1 else z) = z + (if x.1 = what ∧ (evL E d y w x.2.2 []).headD false = true then x.2.1 else 0) := by
      by_cases q : wcd x.1 = wcd what ∧ hoC I h p k (dn h d) y w
      · rw [if_pos q, if_pos (key.mp q)]
      · rw [if_neg q, if_neg (fun t => q (key.mpr t)), Int32.add_zero]
    rw [e2]
    exact ih (k + 1) (fr + x.2.2.length) _ (fun x hx => hk x (List.mem_cons_of_mem _ hx)) c5 (by omega) (Or.inr ⟨by omega, by rw [Nat.add_sub_cancel]; exact c3⟩)
/-- which post holds -/
def pRf (E : It) (x : Int32) (r : Option Nat) : Prop := (x = -1 ∧ r = none) ∨ ∃ p, p < nP E ∧ x = nI p ∧ r = some (43 + 5 * p)
/-- what RY leaves out -/
def RX (E I : It) (h : Ht) : Prop :=
  (I 1 3 = E 0 5 ∧ I 1 7 = E 0 2 ∧ I 1 8 = E 0 3 ∧ I 1 9 = E 0 4) ∧ (E 0 47 = 1 → (I 7 3 = E 0 54 ∧ I 7 7 = E 0 51 ∧ I 7 8 = E 0 52 ∧ I 7 9 = E 0 53) ∧ pRf E (E 0 48) (hR h 7 13)) ∧
  pRf E (E 0 16) (hR h 1 13) ∧ (I 0 5 = E 0 15 ∧ ∀ p, p < nP E → ∃ l, PRl E I p l) ∧ I 0 7 = E 0 17 ∧ ∀ j, j < fedN E → I 31 j = E 9 j
def RZ (E : It) (L : Nat → Int64) (I : It) (h : Ht) : Prop := RY E L I h ∧ RX E I h
theorem pRf.mv {E E2 : It} {x : Int32} {r : Option Nat} (h : pRf E x r) (e : nP E2 = nP E) : pRf E2 x r := by
  rcases h with z | ⟨p, q1, q2⟩
  · exact Or.inl z
  · exact Or.inr ⟨p, by rw [e]; exact q1, q2⟩
/-- the frame of RX -/
theorem RX.keep {E E2 I J : It} {h h2 : Ht} (hX : RX E I h) (e0 : ∀ j, j ∈ [2, 3, 4, 5, 15, 16, 17, 47, 48, 51, 52, 53, 54] → E2 0 j = E 0 j) (eC : ∀ a, a ∈ [9, 10, 11, 12, 13, 14, 15] → E2 a = E a) (j0 : ∀ j, j ∈ [5, 7] → J 0 j = I 0 j) (j1 : ∀ j, j ∈ [3, 7, 8, 9] → J 1 j = I 1 j) (j7 : ∀ j, j ∈ [3, 7, 8, 9] → J 7 j = I 7 j) (jC : ∀ a, (a = 31 ∨ (43 ≤ a ∧ a < 73)) → J a = I a) (r1 : hR h2 1 13 = hR h 1 13) (r7 : hR h2 7 13 = hR h 7 13) (h6 : nP E ≤ 6) : RX E2 J h2 := by
  have hn : nP E2 = nP E := by unfold nP; rw [e0 15 (by decide)]
  obtain ⟨g1, g2, g3, ⟨g4, g5⟩, g6, g7⟩ := hX
  refine ⟨?_, fun q => ?_, ?_, ⟨?_, fun p hp => ?_⟩, ?_, fun j hj => ?_⟩
  · rw [j1 3 (by decide), j1 7 (by decide), j1 8 (by decide), j1 9 (by decide), e0 5 (by decide), e0 2 (by decide), e0 3 (by decide), e0 4 (by decide)]; exact g1
  · rw [e0 47 (by decide)] at q
    obtain ⟨q1, q2⟩ := g2 q
    rw [j7 3 (by decide), j7 7 (by decide), j7 8 (by decide), j7 9 (by decide), e0 54 (by decide), e0 51 (by decide), e0 52 (by decide), e0 53 (by decide), e0 48 (by decide), r7]
    exact ⟨q1, q2.mv hn⟩
  · rw [e0 16 (by decide), r1]; exact g3.mv hn
  · rw [j0 5 (by decide), e0 15 (by decide)]; exact g4
  · rw [hn] at hp
    obtain ⟨l, hl⟩ := g5 p hp
    exact ⟨l, hl.mv (by rw [eC 10 (by decide)]) (fun c _ => by rw [eC 11 (by decide), eC 12 (by decide), eC 13 (by decide), eC 14 (by decide)]; exact ⟨rfl, rfl, rfl, rfl⟩) (fun j _ => by rw [eC 15 (by decide)]) (fun a a1 a2 => jC a (Or.inr ⟨by omega, by omega⟩))⟩
  · rw [j0 7 (by decide), e0 17 (by decide)]; exact g6
  · have hf : fedN E2 = fedN E := by unfold fedN; rw [e0 17 (by decide)]
    rw [hf] at hj
    rw [jC 31 (Or.inl rfl), eC 9 (by decide)]; exact g7 j hj
/-! what posts come to, in both -/
theorem pos_e {E : It} {L : Nat → Int64} {I : It} {h : Ht} (hE : Inv E) (hZ : RZ E L I h) : (E 0 16 = -1 ∧ hR h 1 13 = none ∧ ncl E = 0 ∧ beg E = 0) ∨ ∃ p l, p < 6 ∧ hR h 1 13 = some (43 + 5 * p) ∧ PRl E I p l ∧ ncl E = l.length ∧ beg E = 10 * p := by
  rcases hZ.2.2.2.1 with ⟨e1, e2⟩ | ⟨p, hp, e1, e2⟩
  · left
    refine ⟨e1, e2, ?_, ?_⟩
    · unfold ncl; rw [e1]; rfl
    · unfold beg; rw [e1]; rfl
  · right
    obtain ⟨l, hl⟩ := hZ.2.2.2.2.1.2 p hp
    have h6 := hE.2.2.1.2
    refine ⟨p, l, by omega, e2, hl, ?_, ?_⟩
    · unfold ncl; rw [e1, if_neg (nI_pos (by omega)), tN_nI (by omega), hl.1.1, tN_nI (by have := hl.2.2.1.1; omega)]
    · unfold beg; rw [e1, if_neg (nI_pos (by omega)), tN_nI (by omega)]
theorem ca_e {E : It} {L : Nat → Int64} {I : It} {h : Ht} (hE : Inv E) (hZ : RZ E L I h) : caF I h = callF E ∧ faF I h = fadeF E := by
  unfold caF faF callF fadeF
  rcases pos_e hE hZ with ⟨-, e2, e3, -⟩ | ⟨p, l, hp, e2, hl, e3, e4⟩
  · rw [e2, e3]; exact ⟨rfl, rfl⟩
  · rw [e2, e3, e4]
    have h1 := lastF_L (w := 2) l 0 (100 * p) 7 hl.1.2
    have h2 := lastF_L (w := 3) l 0 (100 * p) 1 hl.1.2
    rw [Nat.add_zero] at h1 h2
    rw [h1, h2]
    exact ⟨hl.2.2.2.2.2.1, hl.2.2.2.2.2.2⟩
theorem tg_e {E : It} {L : Nat → Int64} {I : It} {h : Ht} (hE : Inv E) (hZ : RZ E L I h) {d : Nat} (hd : d < cnt E) {what y w : Int32} (hw : what = 0 ∨ what = 1) : tgF I h (wcd what) (dn h d) y w = sumP E what d y w := by
  unfold tgF sumP
  rcases pos_e hE hZ with ⟨-, e2, e3, -⟩ | ⟨p, l, hp, e2, hl, e3, e4⟩
  · rw [e2, e3]; rfl
  · obtain ⟨⟨-, h2⟩, h3, ⟨h4, h4b⟩, h5, h6, -⟩ := hl
    have q := sumF_L (E := E) (i := d) (y := y) (w := w) hw l 0 (100 * p) 0 h2 (by omega)
    rw [Nat.add_zero] at q
    rw [e2, e3, e4, q]
    show tgR I h (pN (43 + 5 * p)) (wcd what) (dn h d) y w (tN (I (43 + 5 * p) 2)) 0 0 = _
    rw [pN_eq, h6, tN_nI (by omega)]
    exact tgR_L hE hZ.1 hd hw l 0 0 0 h3 h5 (by omega) (Or.inl ⟨rfl, rfl⟩)
theorem say_e {E : It} {L : Nat → Int64} {I : It} {h : Ht} (hE : Inv E) (hZ : RZ E L I h) {d : Nat} (hd : d < cnt E) {y : Int32} : tgF I h 115 (dn h d) y 0 = sayF E d y := tg_e hE hZ hd (what := 0) (Or.inl rfl)
theorem dear_e {E : It} {L : Nat → Int64} {I : It} {h : Ht} (hE : Inv E) (hZ : RZ E L I h) {d : Nat} (hd : d < cnt E) {w : Int32} : I (dn h d) 4 + tgF I h 99 (dn h d) 9 (remI w 60) = dearF E d w := by
  rw [show tgF I h 99 (dn h d) 9 (remI w 60) = sumP E 1 d 9 (remI w 60) from tg_e hE hZ hd (what := 1) (Or.inr rfl), (hZ.1.d hd).2.2.2.2.2.2.2.2.1]
  rfl

