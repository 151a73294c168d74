/-! the class's memory, well enough made that nothing throws -/
def dn (h : Ht) (d : Nat) : Nat := (hR h 2 d).getD 0
def cN (I : It) : Nat := tN (I 1 2)
/-- DOING d -/
def OD (I : It) (h : Ht) (d : Nat) : Prop := hR h 2 d = some (dn h d) ∧ 73 ≤ dn h d ∧ dn h d < hn h ∧ isDC (hs h (dn h d)).1 ∧ I (dn h d) 0 = nI d ∧ I (dn h d) 2 ≠ 0
def PO (I : It) (h : Ht) : Prop := (∀ r, hR h 1 13 = some r → ∃ p, p < 6 ∧ r = 43 + 5 * p) ∧ ∀ p, p < 6 → (∃ c, c ≤ 10 ∧ I (43 + 5 * p) 2 = nI c) ∧ ∀ k, k < 10 → ∃ x, x ≤ 100 ∧ I (46 + 5 * p) k = nI x
def weN (I : It) : Nat := tN (I 1 6)
def WX (I : It) (h : Ht) : Prop := HX h ∧ (I 1 2 = nI (cN I) ∧ cN I ≤ 10) ∧ (∀ d, d < cN I → OD I h d) ∧ PO I h ∧ (I 1 6 = nI (weN I) ∧ weN I ≤ 9999) ∧ ∃ r, r ≤ 12 ∧ I 1 12 = nI r
/-- scratch: what looks ahead writes there alone -/
def Sc (I J : It) : Prop := ∀ a, (a < 13 ∨ 29 < a) → J a = I a
theorem Sc.rf {I : It} : Sc I I := fun _ _ => rfl
theorem Sc.trans {I J K : It} (h1 : Sc I J) (h2 : Sc J K) : Sc I K := fun a ha => (h2 a ha).trans (h1 a ha)
theorem Sc.up {I J : It} {q j : Nat} {x : Int32} (h1 : Sc I J) (hq : 13 ≤ q ∧ q ≤ 29) : Sc I (upI J q j x) := fun a ha => (upI_off (by omega)).trans (h1 a ha)
theorem Sc.of1 {I J : It} {q : Nat} (h : ∀ a, a ≠ q → J a = I a) (hq : 13 ≤ q ∧ q ≤ 29) : Sc I J := fun a ha => h a (by omega)
theorem WX.sc {I J : It} {h : Ht} (hW : WX I h) (hS : Sc I J) : WX J h := by
  obtain ⟨h1, ⟨h2, h3⟩, h4, ⟨h5, h6⟩, ⟨h7, h8⟩, h9⟩ := hW
  have e1 : J 1 = I 1 := hS 1 (by omega)
  have ec : cN J = cN I := by unfold cN; rw [e1]
  have ew : weN J = weN I := by unfold weN; rw [e1]
  refine ⟨h1, ⟨by rw [e1, ec]; exact h2, by rw [ec]; exact h3⟩, fun d hd => ?_, ⟨h5, fun p hp => ⟨?_, fun k hk => ?_⟩⟩, ⟨by rw [e1, ew]; exact h7, by rw [ew]; exact h8⟩, by rw [e1]; exact h9⟩
  · obtain ⟨g1, g2, g3, g4, g5, g6⟩ := h4 d (by rw [← ec]; exact hd)
    refine ⟨g1, g2, g3, g4, ?_, ?_⟩
    · rw [hS _ (by omega)]; exact g5
    · rw [hS _ (by omega)]; exact g6
  · rw [hS _ (by omega)]; exact (h6 p hp).1
  · rw [hS _ (by omega)]; exact (h6 p hp).2 k hk
theorem PLt {h : Ht} (hH : HX h) {p j : Nat} (hp : p < 6) (hj : j < 5) : 43 + j + 5 * p < hn h := CLt hH (by omega)
theorem PSh {h : Ht} (hH : HX h) {p : Nat} (hp : p < 6) : (hs h (43 + 5 * p)).1 = 3 := by
  rcases (by omega : p = 0 ∨ p = 1 ∨ p = 2 ∨ p = 3 ∨ p = 4 ∨ p = 5) with rfl | rfl | rfl | rfl | rfl | rfl <;> exact CC hH _ (by decide) rfl
theorem PL0 {h : Ht} (hH : HX h) {p : Nat} (hp : p < 6) : 43 + 5 * p < hn h := CLt hH (by omega)
theorem PR3 {h : Ht} (hH : HX h) {p : Nat} (hp : p < 6) : hR h (43 + 5 * p) 3 = some (44 + 5 * p) := by
  rcases (by omega : p = 0 ∨ p = 1 ∨ p = 2 ∨ p = 3 ∨ p = 4 ∨ p = 5) with rfl | rfl | rfl | rfl | rfl | rfl <;> exact CR hH _ _ _ (by decide)
theorem PR4 {h : Ht} (hH : HX h) {p : Nat} (hp : p < 6) : hR h (43 + 5 * p) 4 = some (45 + 5 * p) := by
  rcases (by omega : p = 0 ∨ p = 1 ∨ p = 2 ∨ p = 3 ∨ p = 4 ∨ p = 5) with rfl | rfl | rfl | rfl | rfl | rfl <;> exact CR hH _ _ _ (by decide)
theorem PR5 {h : Ht} (hH : HX h) {p : Nat} (hp : p < 6) : hR h (43 + 5 * p) 5 = some (46 + 5 * p) := by
  rcases (by omega : p = 0 ∨ p = 1 ∨ p = 2 ∨ p = 3 ∨ p = 4 ∨ p = 5) with rfl | rfl | rfl | rfl | rfl | rfl <;> exact CR hH _ _ _ (by decide)
theorem PR6 {h : Ht} (hH : HX h) {p : Nat} (hp : p < 6) : hR h (43 + 5 * p) 6 = some (47 + 5 * p) := by
  rcases (by omega : p = 0 ∨ p = 1 ∨ p = 2 ∨ p = 3 ∨ p = 4 ∨ p = 5) with rfl | rfl | rfl | rfl | rfl | rfl <;> exact CR hH _ _ _ (by decide)
theorem PR8 {h : Ht} (hH : HX h) {p : Nat} (hp : p < 6) : hR h (43 + 5 * p) 8 = some 31 := by
  rcases (by omega : p = 0 ∨ p = 1 ∨ p = 2 ∨ p = 3 ∨ p = 4 ∨ p = 5) with rfl | rfl | rfl | rfl | rfl | rfl <;> exact CR hH _ _ _ (by decide)
theorem PA4 {h : Ht} (hH : HX h) {p : Nat} (hp : p < 6) : hs h (44 + 5 * p) = (20, 10) := by
  rcases (by omega : p = 0 ∨ p = 1 ∨ p = 2 ∨ p = 3 ∨ p = 4 ∨ p = 5) with rfl | rfl | rfl | rfl | rfl | rfl <;> exact CS hH _ (by decide) rfl
theorem PA5 {h : Ht} (hH : HX h) {p : Nat} (hp : p < 6) : hs h (45 + 5 * p) = (20, 10) := by
  rcases (by omega : p = 0 ∨ p = 1 ∨ p = 2 ∨ p = 3 ∨ p = 4 ∨ p = 5) with rfl | rfl | rfl | rfl | rfl | rfl <;> exact CS hH _ (by decide) rfl
theorem PA6 {h : Ht} (hH : HX h) {p : Nat} (hp : p < 6) : hs h (46 + 5 * p) = (20, 10) := by
  rcases (by omega : p = 0 ∨ p = 1 ∨ p = 2 ∨ p = 3 ∨ p = 4 ∨ p = 5) with rfl | rfl | rfl | rfl | rfl | rfl <;> exact CS hH _ (by decide) rfl
theorem PA7 {h : Ht} (hH : HX h) {p : Nat} (hp : p < 6) : hs h (47 + 5 * p) = (20, 100) := by
  rcases (by omega : p = 0 ∨ p = 1 ∨ p = 2 ∨ p = 3 ∨ p = 4 ∨ p = 5) with rfl | rfl | rfl | rfl | rfl | rfl <;> exact CS hH _ (by decide) rfl
/-! what the class works out, in its own terms -/
def wuF (I : It) (a : Nat) (w : Int32) : Int32 := fmI (I a 3 - w) (I a 2)
def cmR (I : It) (h : Ht) (w : Int32) : Nat → Nat → Int32 → Int32 := fun k => match k with
  | 0 => fun _ b => b
  | k + 1 => fun d b => cmR I h w k (d + 1) (if wuF I (dn h d) w = 0 then b ||| bitI (nI d) else b)
theorem cmR_s (I : It) (h : Ht) (w : Int32) (k d : Nat) (b : Int32) : cmR I h w (k + 1) d b = cmR I h w k (d + 1) (if wuF I (dn h d) w = 0 then b ||| bitI (nI d) else b) := rfl
def cmF (I : It) (h : Ht) (w : Int32) : Int32 := cmR I h w (cN I) 0 0
def lwR (I : It) (h : Ht) (s w : Int32) : Nat → Nat → Int32 → Int32 := fun k => match k with
  | 0 => fun _ z => z
  | k + 1 => fun d z => lwR I h s w k (d + 1) (if hasI s (nI d) = 0 then z else if z < wuF I (dn h d) w then wuF I (dn h d) w else z)
theorem lwR_s (I : It) (h : Ht) (s w : Int32) (k d : Nat) (z : Int32) : lwR I h s w (k + 1) d z = lwR I h s w k (d + 1) (if hasI s (nI d) = 0 then z else if z < wuF I (dn h d) w then wuF I (dn h d) w else z) := rfl
def factC (I : It) (h : Ht) (q : Nat) (t y w : Int32) : Int32 :=
  if t &&& 255 = 99 then I q 4 / 10 else if t &&& 255 = 105 then I q 0 else if t &&& 255 = 107 then knd (hs h q).1 else if t &&& 255 = 114 then I q 2 else if t &&& 255 = 118 then I q 1 else if t &&& 255 = 121 then y else w
def psC (I : It) (h : Ht) (q : Nat) (t y w : Int32) : Int32 :=
  if (t >>> (8 &&& 31)) &&& 255 = 60 then bI (factC I h q t y w < t >>> (16 &&& 31)) else if (t >>> (8 &&& 31)) &&& 255 = 61 then bI (factC I h q t y w = t >>> (16 &&& 31)) else bI (t >>> (16 &&& 31) < factC I h q t y w)
def stC (I : It) (h : Ht) (q : Nat) (y w t b : Int32) : Int32 :=
  if t = 33 then b ^^^ 1 else if t = 38 then b >>> (1 &&& 31) &&& (b ||| -2) else if t = 124 then b >>> (1 &&& 31) ||| b &&& 1 else b <<< (1 &&& 31) ||| psC I h q t y w
def hbR (I : It) (h : Ht) (p q : Nat) (y w : Int32) : Nat → Nat → Int32 → Int32 := fun k => match k with
  | 0 => fun _ b => b
  | k + 1 => fun c b => hbR I h p q y w k (c + 1) (stC I h q y w (I (47 + 5 * p) c) b)
theorem hbR_s (I : It) (h : Ht) (p q : Nat) (y w : Int32) (k c : Nat) (b : Int32) : hbR I h p q y w (k + 1) c b = hbR I h p q y w k (c + 1) (stC I h q y w (I (47 + 5 * p) c) b) := rfl
def eB (I : It) (p k : Nat) : Nat := if k = 0 then 0 else tN (I (46 + 5 * p) (k - 1))
def eE (I : It) (p k : Nat) : Nat := tN (I (46 + 5 * p) k)
/-- whether a clause's E holds -/
abbrev hoC (I : It) (h : Ht) (p k q : Nat) (y w : Int32) : Prop := hbR I h p q y w (eE I p k - eB I p k) (eB I p k) 0 &&& 1 ≠ 0
def tgR (I : It) (h : Ht) (p : Nat) (wd : Int32) (q : Nat) (y w : Int32) : Nat → Nat → Int32 → Int32 := fun k => match k with
  | 0 => fun _ z => z
  | k + 1 => fun c z => tgR I h p wd q y w k (c + 1) (if I (44 + 5 * p) c = wd ∧ hoC I h p c q y w then z + I (45 + 5 * p) c else z)
theorem tgR_s (I : It) (h : Ht) (p : Nat) (wd : Int32) (q : Nat) (y w : Int32) (k c : Nat) (z : Int32) : tgR I h p wd q y w (k + 1) c z = tgR I h p wd q y w k (c + 1) (if I (44 + 5 * p) c = wd ∧ hoC I h p c q y w then z + I (45 + 5 * p) c else z) := rfl
def pN (P : Nat) : Nat := (P - 43) / 5
theorem pN_eq (p : Nat) : pN (43 + 5 * p) = p := by unfold pN; omega
/-- what the post that holds says, together -/
def tgF (I : It) (h : Ht) (wd : Int32) (q : Nat) (y w : Int32) : Int32 := match hR h 1 13 with
  | none => 0
  | some P => tgR I h (pN P) wd q y w (tN (I P 2)) 0 0
def caF (I : It) (h : Ht) : Int32 := match hR h 1 13 with
  | none => 7
  | some P => I P 0
def faF (I : It) (h : Ht) : Int32 := match hR h 1 13 with
  | none => 1
  | some P => I P 1
theorem psC_01 (I : It) (h : Ht) (q : Nat) (t y w : Int32) : psC I h q t y w = 0 ∨ psC I h q t y w = 1 := by
  unfold psC
  split
  · exact bI_01 _
  · split
    · exact bI_01 _
    · exact bI_01 _
theorem psC_1 {I : It} {h : Ht} {q : Nat} {t y w : Int32} (hne : ¬ psC I h q t y w = 0) : psC I h q t y w = 1 := by
  rcases psC_01 I h q t y w with z | z
  · exact absurd z hne
  · exact z
theorem eE_eq {I : It} {h : Ht} (hP : PO I h) {p k : Nat} (hp : p < 6) (hk : k < 10) : I (46 + 5 * p) k = nI (eE I p k) ∧ eE I p k ≤ 100 := by
  obtain ⟨x, hx, e⟩ := (hP.2 p hp).2 k hk
  unfold eE
  rw [e, tN_nI (by omega)]
  exact ⟨rfl, hx⟩
theorem eB_z {I : It} {p k : Nat} (hk : k < 10) (h : nI k = 0) : (0 : Int32) = nI (eB I p k) := by
  have : k = 0 := (nI_eq (b := 0) (by omega) (by decide)).mp h
  subst this
  rfl
theorem eB_n {I : It} {h : Ht} (hP : PO I h) {p k : Nat} (hp : p < 6) (hk : k < 10) (h : ¬ nI k = 0) : I (46 + 5 * p) (k - 1) = nI (eB I p k) := by
  have h0 : k ≠ 0 := fun z => h (by rw [z]; rfl)
  unfold eB
  rw [if_neg h0]
  exact (eE_eq hP hp (by omega)).1
theorem eB_le {I : It} {h : Ht} (hP : PO I h) {p k : Nat} (hp : p < 6) (hk : k < 10) : eB I p k ≤ 100 := by
  unfold eB
  split
  · omega
  · exact (eE_eq hP hp (by omega)).2
theorem k_1 {k : Nat} (hk : k < 10) (h : ¬ nI k = 0) : idx (nI k - 1) (k - 1) 10 := by
  have h0 : k ≠ 0 := fun z => h (by rw [z]; rfl)
  exact ⟨by rw [show (1 : Int32) = nI 1 from rfl, pk_sub (by omega)], by omega, by decide⟩

