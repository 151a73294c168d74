theorem lg_eq (a b : Int64) : lg_cmp a b = 0 ↔ a = b := by
  unfold lg_cmp
  by_cases h1 : a > b
  · rw [if_pos h1]
    exact ⟨fun h => absurd h (by decide), fun h => by subst h; exact absurd h1 (Int64.lt_irrefl)⟩
  · rw [if_neg h1]
    by_cases h2 : a = b
    · rw [if_pos h2]; exact ⟨fun _ => h2, fun _ => rfl⟩
    · rw [if_neg h2]; exact ⟨fun h => absurd h (by decide), fun h => absurd h h2⟩
theorem dg_ix {E : It} (hE : Inv E) (h : ¬ E 0 0 = 10) : idx (E 0 0) (cnt E) 10 := by
  obtain ⟨e, hc⟩ := inv_cnt hE
  refine ⟨e, ?_, by decide⟩
  rcases Nat.lt_or_ge (cnt E) 10 with z | z
  · exact z
  · exact absurd (by rw [e, show cnt E = 10 by omega]; rfl) h
def doE (E : It) (k n r p c d : Int32) : It := upI (upI (upI (upI (upI (upI (upI (upI (upI (upI E 1 (cnt E) k) 2 (cnt E) n) 3 (cnt E) r) 4 (cnt E) p) 5 (cnt E) c) 6 (cnt E) d) 7 (cnt E) 5) 0 5 (withI (E 0 5) (E 0 0) 0)) 0 6 (withI (E 0 6) (E 0 0) 0)) 0 0 (E 0 0 + 1)
def doingS (E : It) (k n r p c d : Int32) : Int32 × It := if ¬ (0 ≤ k ∧ k ≤ 6) then (-1, E) else if ¬ (0 ≤ n ∧ n ≤ 9) then (-2, E) else if ¬ (1 ≤ r ∧ r ≤ 60) then (-2, E) else if ¬ (0 ≤ p ∧ p ≤ r - 1) then (-2, E) else if ¬ (0 ≤ c ∧ c ≤ 99) then (-2, E) else if ¬ (0 ≤ d ∧ d ≤ 99) then (-2, E) else if E 0 0 = 10 then (-4, E) else (E 0 0, doE E k n r p c d)
theorem RM_body1 {E I : It} {b : Int32} (h : RM E I) : RM (body1 E b) (body1 I b) := by
  unfold body1
  rw [RM.f h 67 (by decide) (by decide)]
  split
  · exact RM.upf (RM.upc h (by decide)) (by decide)
  · exact RM.upf h (by decide)
theorem RM_putB : ∀ (l : List Int32) {E I : It}, RM E I → RM (putB E l) (putB I l) := by
  intro l
  induction l with
  | nil => intro E I h; exact h
  | cons b t ih => intro E I h; exact ih (RM_body1 h)
def actS (E : It) (a w x : Int32) : Int32 × It := if ¬ isD E a then (0, upI E 0 67 0) else if ¬ (0 ≤ w ∧ w ≤ 2) then (0, upI E 0 67 0) else if w ≠ 0 then (if w = 1 then (holdsV E (tN a) x, putB (upI E 0 67 0) (holdsB E (tN a))) else (tellsV E (tN a) x, putB (upI E 0 67 0) (tellsB E (tN a)))) else (saysV E (tN a) x, putB (upI E 0 67 0) (saysB E (tN a)))
/-! chance -/
def chR (E : It) (n : Nat) : Nat → Nat → Nat → Nat → Nat × Nat := fun k => match k with
  | 0 => fun _ a b => (a, b)
  | k + 1 => fun i a b => if hasI (E 0 6) (nI i) = 1 then chR E n k (i + 1) a b else if comInR E i n (wk E) = true then chR E n k (i + 1) (a * tN (E 7 i)) (b * 10) else chR E n k (i + 1) a b
theorem chR_s (E : It) (n k i a b : Nat) : chR E n (k + 1) i a b = if hasI (E 0 6) (nI i) = 1 then chR E n k (i + 1) a b else if comInR E i n (wk E) = true then chR E n k (i + 1) (a * tN (E 7 i)) (b * 10) else chR E n k (i + 1) a b := rfl
def chanceF (E : It) (n p : Int32) : Int64 := if ¬ (0 ≤ n ∧ n ≤ 60) then NOL else if ¬ (0 ≤ p ∧ p ≤ 1) then NOL else
  if p = 0 then lN ((chR E (tN n) (cnt E) 0 1 1).1 / Nat.gcd (chR E (tN n) (cnt E) 0 1 1).1 (chR E (tN n) (cnt E) 0 1 1).2) else lN ((chR E (tN n) (cnt E) 0 1 1).2 / Nat.gcd (chR E (tN n) (cnt E) 0 1 1).1 (chR E (tN n) (cnt E) 0 1 1).2)
theorem lN_ne0 {a : Nat} (h : 0 < a) (h2 : a < 2 ^ 63) : ¬ lN a = 0 := fun e => by
  have := (pk_lEQ (b := 0) h2 (by decide)).mp e
  omega
theorem ch_bd {a b o i : Nat} (ha : a ≤ 10 ^ i) (hb : 1 ≤ b ∧ b ≤ 10 ^ i) (ho : o ≤ 10) : a * o ≤ 10 ^ (i + 1) ∧ 1 ≤ b * 10 ∧ b * 10 ≤ 10 ^ (i + 1) := by
  rw [Nat.pow_succ]
  refine ⟨Nat.mul_le_mul ha ho, by omega, Nat.mul_le_mul hb.2 (Nat.le_refl _)⟩
theorem ch_up {a i : Nat} (h : a ≤ 10 ^ i) : a ≤ 10 ^ (i + 1) := Nat.le_trans h (Nat.pow_le_pow_right (by decide) (Nat.le_succ i))
theorem ch_63 {a i : Nat} (h : a ≤ 10 ^ i) (hi : i ≤ 10) : a < 2 ^ 63 := Nat.lt_of_le_of_lt (Nat.le_trans h (Nat.pow_le_pow_right (by decide) hi)) (by decide)
/-! the image -/
def imgF (E : It) : It := upI (upI (upI (upI (upI (upI (upI (upI (upI (upI E 0 47 1) 0 48 (E 0 16)) 0 49 (E 0 0)) 0 50 (E 0 1)) 0 51 (E 0 2)) 0 52 (E 0 3)) 0 53 (E 0 4)) 0 54 (E 0 5)) 0 55 (E 0 6)) 0 56 (E 0 44)
def imgC (E : It) : It := fun a j => if 25 ≤ a ∧ a ≤ 31 then (if j < 10 then E (a - 24) j else E a j) else if a = 32 then (if j < 4 then E 8 j else E a j) else if a = 33 ∨ a = 34 then (if j < 12 then E (a - 10) j else E a j) else E a j
def imageS (E : It) : Int32 × It := (E 0 0, imgC (imgF E))
def undF (E : It) : It := upI (upI (upI (upI (upI (upI (upI (upI (upI E 0 16 (E 0 48)) 0 0 (E 0 49)) 0 1 (E 0 50)) 0 2 (E 0 51)) 0 3 (E 0 52)) 0 4 (E 0 53)) 0 5 (E 0 54)) 0 6 (E 0 55)) 0 44 (E 0 56)
def undC (E : It) : It := fun a j => if 1 ≤ a ∧ a ≤ 7 then (if j < 10 then E (a + 24) j else E a j) else if a = 8 then (if j < 4 then E 32 j else E a j) else if a = 23 ∨ a = 24 then (if j < 12 then E (a + 10) j else E a j) else E a j
def undoS (E : It) : Int32 × It := if E 0 47 = 0 then (-3, E) else (E 0 49, undC (undF E))
theorem RM_cells {E E2 J : It} {C : List Nat} (h : RMx [] C E J) (h1 : ∀ a, a ∉ C → E2 a = E a) (h2 : ∀ a, a ∈ C → J a = E2 a) (h3 : disj [0, 10, 11, 12, 13, 14, 15] C = true) : RM E2 J := by
  have g : ∀ a, a ∈ [0, 10, 11, 12, 13, 14, 15] → E2 a = E a := fun a ha => h1 a (disj_no h3 ha)
  obtain ⟨a1, a2, a3, a4, a5, a6⟩ := h
  have hn : nP E2 = nP E := by unfold nP; rw [g 0 (by decide)]
  refine ⟨fun j hj hF => by rw [g 0 (by decide)]; exact a1 j hj hF, fun a ha _ => ?_, ?_, ?_, ?_, a6⟩
  · by_cases hc : a ∈ C
    · exact h2 a hc
    · rw [h1 a hc]; exact a2 a ha hc
  · rw [hn, g 10 (by decide)]; exact a3
  · rw [hn, g 11 (by decide), g 12 (by decide), g 13 (by decide), g 14 (by decide)]; exact a4
  · rw [hn, g 15 (by decide)]; exact a5
theorem RM.upx {E I : It} {F C : List Nat} {a j : Nat} {x : Int32} (h : RMx F C E I) (ha : a ∈ C) (h0 : disj C [0, 10, 11, 12, 13, 14, 15, 17] = true) : RMx F C E (upI I a j x) := by
  have hn : ∀ q, q ∈ [0, 10, 11, 12, 13, 14, 15, 17] → q ≠ a := fun q hq e => disj_no h0 ha (by rw [← e]; exact hq)
  obtain ⟨a1, a2, a3, a4, a5, a6⟩ := h
  refine ⟨?_, fun q hq hC => ?_, ?_, ?_, ?_, ?_⟩
  · rw [upI_off (hn 0 (by decide))]; exact a1
  · have : q ≠ a := fun e => hC (by rw [e]; exact ha)
    rw [upI_off this]; exact a2 q hq hC
  · rw [upI_off (hn 10 (by decide))]; exact a3
  · rw [upI_off (hn 11 (by decide)), upI_off (hn 12 (by decide)), upI_off (hn 13 (by decide)), upI_off (hn 14 (by decide))]; exact a4
  · rw [upI_off (hn 15 (by decide))]; exact a5
  · rw [upI_off (hn 17 (by decide))]; exact a6
theorem RMx.mono {E I : It} {F C C' : List Nat} (h : RMx F C E I) (hC : ∀ a, a ∈ C → a ∈ C') : RMx F C' E I := ⟨h.1, fun a ha hn => h.2.1 a ha (fun z => hn (hC a z)), h.2.2⟩
theorem cp_step {J : It} {a i : Nat} {f g : Nat → Int32} {v : Int32} (h : ∀ j, J a j = if j < i then f j else g j) (hv : v = f i) : ∀ j, upI J a i v a j = if j < i + 1 then f j else g j := by
  intro j
  by_cases e : j = i
  · subst e; rw [up0, if_pos (by omega), hv]
  · rw [upn (by omega), h j]
    by_cases e2 : j < i
    · rw [if_pos e2, if_pos (by omega)]
    · rw [if_neg e2, if_neg (by omega)]
/-! SHIFT -/
def shiftS (E : It) (t i o j n : Int32) : Int32 := if ¬ isT t then -1 else if ¬ isT o then -1 else if E 36 (tN t) < 0 then -11 else if ¬ 0 ≤ E 36 (tN o) then -11 else if ¬ E 36 (tN t) = E 36 (tN o) then -12
  else if n < 0 then -13 else if i < 0 then -13 else if j < 0 then -13 else if E 37 (tN t) - n < i then -13 else if ¬ j ≤ E 37 (tN o) - n then -13 else n
def shiftL (E : It) (L : Nat → Int64) (t i o j n : Int32) : Nat → Int64 := if ¬ isT t then L else if ¬ isT o then L else if E 36 (tN t) < 0 then L else if ¬ 0 ≤ E 36 (tN o) then L else if ¬ E 36 (tN t) = E 36 (tN o) then L
  else if n < 0 then L else if i < 0 then L else if j < 0 then L else if E 37 (tN t) - n < i then L else if ¬ j ≤ E 37 (tN o) - n then L
  else fun q => if 60 * tN o + tN j ≤ q ∧ q < 60 * tN o + tN j + tN n then L (60 * tN t + tN i + (q - (60 * tN o + tN j))) else L q
theorem sh_le {l n i : Nat} (hl : l ≤ 60) (hn : n < 2 ^ 31) (hi : i < 2 ^ 31) (h : nI i ≤ nI l - nI n) : i + n ≤ l := by
  rcases Nat.lt_or_ge l n with z | z
  · have h1 : nI l - nI n < 0 := by
      rw [Int32.lt_iff_toInt_lt, Int32.toInt_sub, nI_toInt (by omega), nI_toInt hn]
      have : ((l : Int) - (n : Int)).bmod (2 ^ 32) = (l : Int) - n := by
        rw [Int.bmod_eq_of_le (by omega) (by omega)]
      rw [this]
      show _ < (0 : Int32).toInt
      have : (0 : Int32).toInt = 0 := by decide
      omega
    exact absurd (Int32.lt_of_le_of_lt h h1) (nI_pos hi)
  · rw [pk_sub z] at h
    have := (nI_leI hi (by omega)).mp h
    omega
theorem jd_le {l i q : Nat} (hl : l ≤ 60) (hi : i ≤ 10) (hq : q < 2 ^ 31) (h : nI q ≤ nI l - nI i - 1) : q + i < l := by
  have e : nI l - nI i - 1 = nI l - nI (i + 1) := by
    rw [← nI_1, Int32.sub_eq_add_neg, Int32.sub_eq_add_neg, Int32.sub_eq_add_neg, Int32.neg_add, Int32.sub_eq_add_neg, Int32.add_assoc]
  rw [e] at h
  have := sh_le hl (n := i + 1) (by omega) hq h
  omega
theorem wL_off {h : Ht} {q j a : Nat} {x : Int64} (ha : a ≠ q) : hL (wL h q j x) a = hL h a := upL_off (I := hL h) ha
theorem wL_row {h : Ht} {q j : Nat} {x : Int64} : hL (wL h q j x) q = vp_updL (hL h q) j x := upL_row _ _ _ _
/-! a query of which no answer is claimed -/
def qN (E : It) (L : Nat → Int64) : Pt3 := qI fun _ I' h' => SM E L I' h'
theorem qN_of {v : Int32} {E J : It} {L : Nat → Int64} {h : Ht} (hM : HM h) (hl : hL h 38 = L) (hR : RM E J) : qN E L (some (.int v)) J h := ⟨v, rfl, hR, hM, hl⟩
theorem row_of {E : It} (hE : Inv E) {k : Nat} (hk : k < 12) : ∃ x z, x ≤ 99 ∧ z ≤ 9 ∧ E 23 k = nI x ∧ E 24 k = nI z := hE.1.2.2.2.2.2.1 k hk
theorem inv_rows {E : It} (hE : Inv E) : ∃ r, r ≤ 12 ∧ E 0 44 = nI r := hE.1.2.2.2.1
/-! SPLIT -/
def h4 (a b c d : Nat) : Nat → Int32 := fun y => if y = 0 then nI a else if y = 1 then nI b else if y = 2 then nI c else nI d
def spC (h c : Nat) : Nat → Int32 := h4 (c / 100) (c / 10 % 10) (c % 10) (h - (c / 100 + c / 10 % 10 + c % 10))
def spR (E : It) (h n : Nat) : Nat → Nat → Int32 → (Nat → Int32) → Int32 × (Nat → Int32) := fun k => match k with
  | 0 => fun _ l b => (l, b)
  | k + 1 => fun c l b => if h < c / 100 + c / 10 % 10 + c % 10 then spR E h n k (c + 1) l b else if l < 0 then spR E h n k (c + 1) (hcF E (spC h c) n) (spC h c) else if hcF E (spC h c) n < l then spR E h n k (c + 1) (hcF E (spC h c) n) (spC h c) else spR E h n k (c + 1) l b
theorem spR_s (E : It) (h n k c : Nat) (l : Int32) (b : Nat → Int32) : spR E h n (k + 1) c l b = if h < c / 100 + c / 10 % 10 + c % 10 then spR E h n k (c + 1) l b else if l < 0 then spR E h n k (c + 1) (hcF E (spC h c) n) (spC h c) else if hcF E (spC h c) n < l then spR E h n k (c + 1) (hcF E (spC h c) n) (spC h c) else spR E h n k (c + 1) l b := rfl
def spF (E : It) (h n : Nat) : Int32 × (Nat → Int32) := spR E h n 1000 0 (-1) (fun _ => 0)
def splitS (E : It) (h n w : Int32) : Int32 × It := if ¬ (-1 ≤ w ∧ w ≤ 3) then (-10001, E) else if ¬ (0 ≤ h ∧ h ≤ 9) then (-10002, E) else if ¬ (0 ≤ n ∧ n ≤ 60) then (-10002, E) else if 0 ≤ w then ((spF E (tN h) (tN n)).2 (tN w), E) else ((spF E (tN h) (tN n)).1, E)
theorem hcF_hr {E : It} {hr hr2 : Nat → Int32} (n : Nat) (e : ∀ y, y < 4 → hr y = hr2 y) : hcF E hr n = hcF E hr2 n := by unfold hcF; rw [overF_hr e]
theorem RM8_fr {E J K : It} {F : List Nat} (h : RMx F [8] E J) (hf : Fr [] [8] J K) : RMx F [8] E K := by
  obtain ⟨a1, a2, a3, a4, a5, a6⟩ := h
  obtain ⟨f1, f2⟩ := hf
  refine ⟨fun j hj hF => (f1 j (by simp)).trans (a1 j hj hF), fun a ha hC => (f2 a (by rintro rfl; revert ha; decide) hC).trans (a2 a ha hC), ?_, ?_, ?_, ?_⟩
  · rw [f2 10 (by decide) (by decide)]; exact a3
  · rw [f2 11 (by decide) (by decide), f2 12 (by decide) (by decide), f2 13 (by decide) (by decide), f2 14 (by decide) (by decide)]; exact a4
  · rw [f2 15 (by decide) (by decide)]; exact a5
  · rw [f2 17 (by decide) (by decide)]; exact a6
theorem RM8_keep {E J K : It} {F : List Nat} (h : RMx [] [8] E J) (hf : Fr F [18, 20] J K) (hF : disj pfL F = true := by decide) : RMx [] [8] E K := RM.keep h hf hF (by decide) (by decide)

