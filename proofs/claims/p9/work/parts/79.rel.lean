/-! the class's memory against the reference's picture E and its items L, posts left out -/
def DoR (c d : Nat) (k v r p co ne : Int32) (I : It) (h : Ht) : Prop :=
  ∃ a, hR h c d = some a ∧ 73 ≤ a ∧ a < hn h ∧ (hs h a).1 = kcl k ∧ I a 0 = nI d ∧ I a 1 = v ∧ I a 2 = r ∧ I a 3 = p ∧ I a 4 = co ∧ I a 5 = ne
def StR (s : Nat) (n w idl rows : Int32) (kd v rd pl co ne od hr : Nat → Int32) (I : It) (h : Ht) : Prop :=
  (I s 2 = n ∧ I s 6 = w ∧ I s 4 = idl ∧ I s 12 = rows) ∧ (∀ j, j < 10 → I (s + 2) j = od j) ∧ (∀ y, y < 4 → I (s + 3) y = hr y) ∧ ∀ d, d < tN n → DoR (s + 1) d (kd d) (v d) (rd d) (pl d) (co d) (ne d) I h
def St1 (E I : It) (h : Ht) : Prop := StR 1 (E 0 0) (E 0 1) (E 0 6) (E 0 44) (E 1) (E 2) (E 3) (E 4) (E 5) (E 6) (E 7) (E 8) I h
def St7 (E I : It) (h : Ht) : Prop := StR 7 (E 0 49) (E 0 50) (E 0 55) (E 0 56) (E 25) (E 26) (E 27) (E 28) (E 29) (E 30) (E 31) (E 32) I h
def TpR (E : It) (L : Nat → Int64) (I : It) (h : Ht) : Prop := ∀ t, t < 6 → I 34 t = E 36 t ∧ I 35 t = E 37 t ∧ ∀ j, j < 60 → hL h (37 + t) j = L (60 * t + j)
def RY (E : It) (L : Nat → Int64) (I : It) (h : Ht) : Prop :=
  HX h ∧ St1 E I h ∧ (I 0 2 = E 0 47 ∧ (E 0 47 = 1 → St7 E I h)) ∧ ((∀ j, j < 10 → okD h (hR h 2 j)) ∧ ∀ j, j < 10 → okD h (hR h 8 j)) ∧
  (PO I h ∧ ∀ r, hR h 7 13 = some r → ∃ p, p < 6 ∧ r = 43 + 5 * p) ∧ (I 32 1 = E 0 67 ∧ ∀ j, j < 20 → I 33 j = E 35 j) ∧ TpR E L I h ∧ (∃ k, k ≤ 6 ∧ I 0 5 = nI k) ∧ ∃ s, s ≤ 100 ∧ I 0 7 = nI s
theorem DoR.keep {c d : Nat} {k v r p co ne : Int32} {I J : It} {h h2 : Ht} (hD : DoR c d k v r p co ne I h) (e1 : hR h2 c d = hR h c d) (e2 : hn h ≤ hn h2) (e3 : ∀ a, a < hn h → hs h2 a = hs h a) (e4 : ∀ a, 73 ≤ a → a < hn h → J a = I a) : DoR c d k v r p co ne J h2 := by
  obtain ⟨a, g1, g2, g3, g4, g5⟩ := hD
  refine ⟨a, e1.trans g1, g2, by omega, by rw [e3 a g3]; exact g4, ?_⟩
  rw [e4 a g2 g3]; exact g5
theorem StR.keep {s : Nat} {n w idl rows : Int32} {kd v rd pl co ne od hr : Nat → Int32} {I J : It} {h h2 : Ht} (hS : StR s n w idl rows kd v rd pl co ne od hr I h) (hJ : ∀ a, (a = s ∨ a = s + 2 ∨ a = s + 3 ∨ (73 ≤ a ∧ a < hn h)) → J a = I a) (e1 : ∀ j, hR h2 (s + 1) j = hR h (s + 1) j) (e2 : hn h ≤ hn h2) (e3 : ∀ a, a < hn h → hs h2 a = hs h a) : StR s n w idl rows kd v rd pl co ne od hr J h2 := by
  obtain ⟨h1, h2', h3, h4⟩ := hS
  refine ⟨by rw [hJ s (Or.inl rfl)]; exact h1, ?_, ?_, fun d hd => (h4 d hd).keep (e1 d) e2 e3 (fun a z1 z2 => hJ a (Or.inr (Or.inr (Or.inr ⟨z1, z2⟩))))⟩
  · rw [hJ (s + 2) (Or.inr (Or.inl rfl))]; exact h2'
  · rw [hJ (s + 3) (Or.inr (Or.inr (Or.inl rfl)))]; exact h3
/-- the picture may differ where nothing is compared -/
theorem RY.eE {E E2 : It} {L : Nat → Int64} {I : It} {h : Ht} (hY : RY E L I h) (h0 : ∀ j, j ∈ [0, 1, 6, 44, 47, 49, 50, 55, 56, 67] → E2 0 j = E 0 j) (h1 : ∀ a, a ∈ [1, 2, 3, 4, 5, 6, 7, 8, 25, 26, 27, 28, 29, 30, 31, 32, 35, 36, 37] → E2 a = E a) : RY E2 L I h := by
  unfold RY St1 St7 TpR
  rw [h0 0 (by decide), h0 1 (by decide), h0 6 (by decide), h0 44 (by decide), h0 47 (by decide), h0 49 (by decide), h0 50 (by decide), h0 55 (by decide), h0 56 (by decide), h0 67 (by decide),
    h1 1 (by decide), h1 2 (by decide), h1 3 (by decide), h1 4 (by decide), h1 5 (by decide), h1 6 (by decide), h1 7 (by decide), h1 8 (by decide), h1 25 (by decide), h1 26 (by decide), h1 27 (by decide), h1 28 (by decide), h1 29 (by decide), h1 30 (by decide), h1 31 (by decide), h1 32 (by decide), h1 35 (by decide), h1 36 (by decide), h1 37 (by decide)]
  exact hY
theorem RY.f {E : It} {L : Nat → Int64} {I : It} {h : Ht} {j : Nat} {x : Int32} (hY : RY E L I h) (hj : j ∉ [0, 1, 6, 44, 47, 49, 50, 55, 56, 67]) : RY (upI E 0 j x) L I h :=
  hY.eE (fun b hb => upn (fun z => hj (by rw [← z.2]; exact hb))) (fun a ha => upI_off (by rintro rfl; revert ha; decide))
theorem RY.cc {E : It} {L : Nat → Int64} {I : It} {h : Ht} {a j : Nat} {x : Int32} (hY : RY E L I h) (ha : a ∉ [0, 1, 2, 3, 4, 5, 6, 7, 8, 25, 26, 27, 28, 29, 30, 31, 32, 35, 36, 37]) : RY (upI E a j x) L I h :=
  hY.eE (fun b _ => upn (fun z => ha (by rw [← z.1]; decide))) (fun b hb => upI_off (by rintro rfl; exact ha (List.mem_cons_of_mem _ hb)))
/-- what is not compared may be written -/
theorem RY.kI {E : It} {L : Nat → Int64} {I J : It} {h : Ht} (hY : RY E L I h) (h1 : ∀ j, j ∈ [2, 6, 4, 12] → J 1 j = I 1 j) (h0 : ∀ j, j ∈ [2, 5, 7] → J 0 j = I 0 j) (hJ : ∀ a, (a = 3 ∨ a = 4 ∨ a = 7 ∨ a = 9 ∨ a = 10 ∨ (32 ≤ a ∧ a ≤ 35)) → J a = I a) (h73 : ∀ a, 73 ≤ a → a < hn h → J a = I a) (hPO : PO J h) : RY E L J h := by
  obtain ⟨g1, ⟨⟨s1, s2, s3, s4⟩, s5, s6, s7⟩, ⟨g3, g4⟩, g5, ⟨g6, g7⟩, ⟨g8, g9⟩, g10, g11, g12⟩ := hY
  refine ⟨g1, ⟨⟨(h1 2 (by decide)).trans s1, (h1 6 (by decide)).trans s2, (h1 4 (by decide)).trans s3, (h1 12 (by decide)).trans s4⟩, fun j hj => ?_, fun j hj => ?_, fun d hd => (s7 d hd).keep rfl (Nat.le_refl _) (fun _ _ => rfl) h73⟩, ⟨(h0 2 (by decide)).trans g3, fun e => StR.keep (g4 e) (fun a ha => ?_) (fun _ => rfl) (Nat.le_refl _) (fun _ _ => rfl)⟩, g5, ⟨hPO, g7⟩, ⟨?_, fun j hj => ?_⟩, fun t ht => ?_, ?_, ?_⟩
  · rw [hJ 3 (by omega)]; exact s5 j hj
  · rw [hJ 4 (by omega)]; exact s6 j hj
  · rcases ha with rfl | rfl | rfl | ⟨z1, z2⟩
    · exact hJ 7 (by omega)
    · exact hJ 9 (by omega)
    · exact hJ 10 (by omega)
    · exact h73 a z1 z2
  · rw [hJ 32 (by omega)]; exact g8
  · rw [hJ 33 (by omega)]; exact g9 j hj
  · rw [hJ 34 (by omega), hJ 35 (by omega)]; exact g10 t ht
  · rw [h0 5 (by decide)]; exact g11
  · rw [h0 7 (by decide)]; exact g12
theorem PO.mv {I J : It} {h : Ht} (hP : PO I h) (e : ∀ a, 43 ≤ a → a < 73 → J a = I a) : PO J h := ⟨hP.1, fun p hp => ⟨by rw [e _ (by omega) (by omega)]; exact (hP.2 p hp).1, fun k hk => by rw [e _ (by omega) (by omega)]; exact (hP.2 p hp).2 k hk⟩⟩
theorem RY.sc {E : It} {L : Nat → Int64} {I J : It} {h : Ht} (hY : RY E L I h) (hS : Sc I J) : RY E L J h :=
  hY.kI (fun _ _ => by rw [hS 1 (by omega)]) (fun _ _ => by rw [hS 0 (by omega)]) (fun a ha => hS a (by omega)) (fun a ha _ => hS a (by omega)) (hY.2.2.2.2.1.1.mv (fun a ha _ => hS a (by omega)))
theorem RY.u1 {E : It} {L : Nat → Int64} {I : It} {h : Ht} {j : Nat} {x : Int32} (hY : RY E L I h) (hj : j ∉ [2, 6, 4, 12]) : RY E L (upI I 1 j x) h :=
  hY.kI (fun b hb => upn (fun z => hj (by rw [← z.2]; exact hb))) (fun _ _ => by rw [upI_off (by decide)]) (fun a ha => upI_off (by omega)) (fun a ha _ => upI_off (by omega)) (hY.2.2.2.2.1.1.mv (fun a ha _ => upI_off (by omega)))
theorem RY.ua {E : It} {L : Nat → Int64} {I : It} {h : Ht} {a j : Nat} {x : Int32} (hY : RY E L I h) (ha : a ∈ [2, 5, 6, 8, 11, 12, 31, 36]) : RY E L (upI I a j x) h := by
  have h43 : a ≤ 36 ∧ a ≠ 0 ∧ a ≠ 1 ∧ a ≠ 3 ∧ a ≠ 4 ∧ a ≠ 7 ∧ a ≠ 9 ∧ a ≠ 10 ∧ ¬ (32 ≤ a ∧ a ≤ 35) := by revert ha; simp; omega
  exact hY.kI (fun _ _ => by rw [upI_off (by omega)]) (fun _ _ => by rw [upI_off (by omega)]) (fun a ha => upI_off (by omega)) (fun a ha _ => upI_off (by omega)) (hY.2.2.2.2.1.1.mv (fun a ha _ => upI_off (by omega)))
/-! what the class's memory is, for the methods below -/
theorem RY.wx {E : It} {L : Nat → Int64} {I : It} {h : Ht} (hE : Inv E) (hY : RY E L I h) : WX I h := by
  obtain ⟨g1, ⟨⟨s1, s2, s3, s4⟩, s5, s6, s7⟩, -, g5, ⟨g6, -⟩, -⟩ := hY
  obtain ⟨e0, hc⟩ := inv_cnt hE
  obtain ⟨ew, hw⟩ := inv_wk hE
  have ec : cN I = cnt E := by unfold cN cnt; rw [s1]
  have ee : weN I = wk E := by unfold weN wk; rw [s2]
  refine ⟨g1, ⟨by rw [s1, ec]; exact e0, by omega⟩, fun d hd => ?_, g6, ⟨by rw [s2, ee]; exact ew, by omega⟩, ?_⟩
  · rw [ec] at hd
    obtain ⟨a, a1, a2, a3, a4, a5, a6, a7, -⟩ := s7 d hd
    have ea : dn h d = a := by unfold dn; rw [show hR h 2 d = some a from a1]; rfl
    obtain ⟨-, -, ⟨r, r1, r2, er, -⟩, -⟩ := inv_d hE hd
    unfold OD
    rw [ea]
    refine ⟨a1, a2, a3, by rw [a4]; exact kcl_dc _, a5, ?_⟩
    rw [a7, er]
    intro z
    have := (nI_eq (b := 0) (by omega) (by decide)).mp z
    omega
  · obtain ⟨r, hr, e⟩ := inv_rows hE
    exact ⟨r, hr, by rw [s4]; exact e⟩
/-- DOING d -/
theorem RY.d {E : It} {L : Nat → Int64} {I : It} {h : Ht} (hY : RY E L I h) {d : Nat} (hd : d < cnt E) : hR h 2 d = some (dn h d) ∧ 73 ≤ dn h d ∧ dn h d < hn h ∧ (hs h (dn h d)).1 = kcl (E 1 d) ∧ I (dn h d) 0 = nI d ∧ I (dn h d) 1 = E 2 d ∧ I (dn h d) 2 = E 3 d ∧ I (dn h d) 3 = E 4 d ∧ I (dn h d) 4 = E 5 d ∧ I (dn h d) 5 = E 6 d := by
  obtain ⟨a, a1, a2⟩ := hY.2.1.2.2.2 d hd
  have ea : dn h d = a := by unfold dn; rw [show hR h 2 d = some a from a1]; rfl
  rw [ea]
  exact ⟨a1, a2⟩
theorem RY.cn {E : It} {L : Nat → Int64} {I : It} {h : Ht} (hY : RY E L I h) : cN I = cnt E := by unfold cN cnt; rw [hY.2.1.1.1]
theorem RY.we {E : It} {L : Nat → Int64} {I : It} {h : Ht} (hY : RY E L I h) : weN I = wk E := by unfold weN wk; rw [hY.2.1.1.2.1]
theorem RY.no {E : It} {L : Nat → Int64} {I : It} {h : Ht} (hE : Inv E) (hY : RY E L I h) {a : Int32} (hno : ¬ isD E a) : ¬ (0 ≤ a ∧ a < I 1 2) := by
  rintro ⟨z1, z2⟩
  obtain ⟨e0, hc⟩ := inv_cnt hE
  rw [hY.2.1.1.1, e0] at z2
  obtain ⟨j, hj, rfl⟩ := nI_of (Int32.not_lt.mpr z1)
  exact hno (isD_mk hE (lt_nI hj (by omega) z2))
/-! what a public method answers, and the relation behind it; nX: at most one new cell -/
def qX (s : Int32 × It) (L : Nat → Int64) (N : Nat) : Pt3 := qI fun x I' h' => x = s.1 ∧ RY s.2 L I' h' ∧ hn h' ≤ N
def qXL (v : Int64) (E : It) (L : Nat → Int64) (N : Nat) : Pt3 := qL fun x I' h' => x = v ∧ RY E L I' h' ∧ hn h' ≤ N
def qW (E : It) (L : Nat → Int64) (N : Nat) : Pt3 := qI fun _ I' h' => RY E L I' h' ∧ hn h' ≤ N
theorem qX_of {s : Int32 × It} {v : Int32} {E' J : It} {L : Nat → Int64} {h : Ht} (e : s = (v, E')) (hY : RY E' L J h) : qX s L (hn h) (some (.int v)) J h := ⟨v, rfl, by rw [e], by rw [e]; exact hY, Nat.le_refl _⟩
theorem qXL_of {v w : Int64} {E J : It} {L : Nat → Int64} {h : Ht} (e : w = v) (hY : RY E L J h) : qXL v E L (hn h) (some (.long w)) J h := ⟨w, rfl, e, hY, Nat.le_refl _⟩
theorem qW_of {v : Int32} {E J : It} {L : Nat → Int64} {h : Ht} (hY : RY E L J h) : qW E L (hn h) (some (.int v)) J h := ⟨v, rfl, hY, Nat.le_refl _⟩
/-- numbers of the state are written, in both -/
theorem RY.kE {E E2 : It} {L : Nat → Int64} {I J : It} {h : Ht} (hY : RY E L I h) (w1 : J 1 2 = E 0 0) (w2 : J 1 6 = E2 0 1) (w3 : J 1 4 = E2 0 6) (w4 : J 1 12 = E2 0 44) (w5 : ∀ j, j < 10 → J 3 j = E2 7 j) (w6 : ∀ y, y < 4 → J 4 y = E2 8 y)
    (e0 : ∀ j, j ∈ [0, 47, 49, 50, 55, 56, 67] → E2 0 j = E 0 j) (e1 : ∀ a, a ∈ [1, 2, 3, 4, 5, 6, 25, 26, 27, 28, 29, 30, 31, 32, 35, 36, 37] → E2 a = E a)
    (h0 : ∀ j, j ∈ [2, 5, 7] → J 0 j = I 0 j) (hJ : ∀ a, (a = 7 ∨ a = 9 ∨ a = 10 ∨ (32 ≤ a ∧ a ≤ 35)) → J a = I a) (h73 : ∀ a, 43 ≤ a → J a = I a) : RY E2 L J h := by
  have q : RY (fun a j => if a = 0 then (if j = 1 ∨ j = 6 ∨ j = 44 then E 0 j else E2 0 j) else if a = 7 ∨ a = 8 then E a j else E2 a j) L I h := by
    refine hY.eE (fun j hj => ?_) (fun a ha => ?_)
    · show (if (0 : Nat) = 0 then (if j = 1 ∨ j = 6 ∨ j = 44 then E 0 j else E2 0 j) else _) = E 0 j
      rw [if_pos rfl]
      split
      · rfl
      · exact e0 j (by simp at hj ⊢; omega)
    · funext j
      show (if a = 0 then (if j = 1 ∨ j = 6 ∨ j = 44 then E 0 j else E2 0 j) else if a = 7 ∨ a = 8 then E a j else E2 a j) = E a j
      rw [if_neg (by simp at ha; omega)]
      split
      · rfl
      · rw [e1 a (by simp at ha ⊢; omega)]
  obtain ⟨g1, ⟨⟨s1, s2, s3, s4⟩, s5, s6, s7⟩, ⟨g3, g4⟩, g5, ⟨g6, g7⟩, ⟨g8, g9⟩, g10, g11, g12⟩ := q
  refine ⟨g1, ⟨⟨by rw [w1, e0 0 (by decide)], w2, w3, w4⟩, w5, w6, fun d hd => DoR.keep (s7 d hd) rfl (Nat.le_refl _) (fun _ _ => rfl) (fun a ha _ => h73 a (by omega))⟩, ⟨by rw [h0 2 (by decide)]; exact g3, fun e => StR.keep (g4 e) (fun a ha => ?_) (fun _ => rfl) (Nat.le_refl _) (fun _ _ => rfl)⟩, g5, ⟨g6.mv (fun a ha _ => h73 a ha), g7⟩, ⟨by rw [hJ 32 (by omega)]; exact g8, fun j hj => by rw [hJ 33 (by omega)]; exact g9 j hj⟩, fun t ht => by rw [hJ 34 (by omega), hJ 35 (by omega)]; exact g10 t ht, by rw [h0 5 (by decide)]; exact g11, by rw [h0 7 (by decide)]; exact g12⟩
  rcases ha with rfl | rfl | rfl | ⟨z1, z2⟩
  · exact hJ 7 (by omega)
  · exact hJ 9 (by omega)
  · exact hJ 10 (by omega)
  · exact h73 a (by omega)
theorem RY.wN {E : It} {L : Nat → Int64} {I : It} {h : Ht} {x : Int32} (hY : RY E L I h) : RY (upI E 0 6 x) L (upI I 1 4 x) h :=
  hY.kE (by rw [upn (by decide)]; exact hY.2.1.1.1) (by rw [upn (by decide), upn (by decide)]; exact hY.2.1.1.2.1) (by rw [up0, up0]) (by rw [upn (by decide), upn (by decide)]; exact hY.2.1.1.2.2.2) (fun j hj => by rw [upI_off (by decide), upI_off (by decide)]; exact hY.2.1.2.1 j hj) (fun j hj => by rw [upI_off (by decide), upI_off (by decide)]; exact hY.2.1.2.2.1 j hj)
    (fun j hj => upn (by rintro ⟨-, rfl⟩; revert hj; decide)) (fun a ha => upI_off (by rintro rfl; revert ha; decide)) (fun _ _ => by rw [upI_off (by decide)]) (fun a ha => upI_off (by omega)) (fun a ha => upI_off (by omega))
theorem RY.wW {E : It} {L : Nat → Int64} {I : It} {h : Ht} {x : Int32} (hY : RY E L I h) : RY (upI E 0 1 x) L (upI I 1 6 x) h :=
  hY.kE (by rw [upn (by decide)]; exact hY.2.1.1.1) (by rw [up0, up0]) (by rw [upn (by decide), upn (by decide)]; exact hY.2.1.1.2.2.1) (by rw [upn (by decide), upn (by decide)]; exact hY.2.1.1.2.2.2) (fun j hj => by rw [upI_off (by decide), upI_off (by decide)]; exact hY.2.1.2.1 j hj) (fun j hj => by rw [upI_off (by decide), upI_off (by decide)]; exact hY.2.1.2.2.1 j hj)
    (fun j hj => upn (by rintro ⟨-, rfl⟩; revert hj; decide)) (fun a ha => upI_off (by rintro rfl; revert ha; decide)) (fun _ _ => by rw [upI_off (by decide)]) (fun a ha => upI_off (by omega)) (fun a ha => upI_off (by omega))
theorem RY.wR {E : It} {L : Nat → Int64} {I : It} {h : Ht} {x : Int32} (hY : RY E L I h) : RY (upI E 0 44 x) L (upI I 1 12 x) h :=
  hY.kE (by rw [upn (by decide)]; exact hY.2.1.1.1) (by rw [upn (by decide), upn (by decide)]; exact hY.2.1.1.2.1) (by rw [upn (by decide), upn (by decide)]; exact hY.2.1.1.2.2.1) (by rw [up0, up0]) (fun j hj => by rw [upI_off (by decide), upI_off (by decide)]; exact hY.2.1.2.1 j hj) (fun j hj => by rw [upI_off (by decide), upI_off (by decide)]; exact hY.2.1.2.2.1 j hj)
    (fun j hj => upn (by rintro ⟨-, rfl⟩; revert hj; decide)) (fun a ha => upI_off (by rintro rfl; revert ha; decide)) (fun _ _ => by rw [upI_off (by decide)]) (fun a ha => upI_off (by omega)) (fun a ha => upI_off (by omega))
theorem RY.wO {E : It} {L : Nat → Int64} {I : It} {h : Ht} {d : Nat} {x : Int32} (hY : RY E L I h) : RY (upI E 7 d x) L (upI I 3 d x) h :=
  hY.kE (by rw [upI_off (by decide)]; exact hY.2.1.1.1) (by rw [upI_off (by decide), upI_off (by decide)]; exact hY.2.1.1.2.1) (by rw [upI_off (by decide), upI_off (by decide)]; exact hY.2.1.1.2.2.1) (by rw [upI_off (by decide), upI_off (by decide)]; exact hY.2.1.1.2.2.2)
    (fun j hj => by
      by_cases e : j = d
      · rw [e, up0, up0]
      · rw [upn (fun z => e z.2), upn (fun z => e z.2)]; exact hY.2.1.2.1 j hj) (fun j hj => by rw [upI_off (by decide), upI_off (by decide)]; exact hY.2.1.2.2.1 j hj)
    (fun j _ => by rw [upI_off (by decide)]) (fun a ha => upI_off (by rintro rfl; revert ha; decide)) (fun _ _ => by rw [upI_off (by decide)]) (fun a ha => upI_off (by omega)) (fun a ha => upI_off (by omega))
theorem RY.wH {E : It} {L : Nat → Int64} {I : It} {h : Ht} {d : Nat} {x : Int32} (hY : RY E L I h) : RY (upI E 8 d x) L (upI I 4 d x) h :=
  hY.kE (by rw [upI_off (by decide)]; exact hY.2.1.1.1) (by rw [upI_off (by decide), upI_off (by decide)]; exact hY.2.1.1.2.1) (by rw [upI_off (by decide), upI_off (by decide)]; exact hY.2.1.1.2.2.1) (by rw [upI_off (by decide), upI_off (by decide)]; exact hY.2.1.1.2.2.2) (fun j hj => by rw [upI_off (by decide), upI_off (by decide)]; exact hY.2.1.2.1 j hj)
    (fun j hj => by
      by_cases e : j = d
      · rw [e, up0, up0]
      · rw [upn (fun z => e z.2), upn (fun z => e z.2)]; exact hY.2.1.2.2.1 j hj)
    (fun j _ => by rw [upI_off (by decide)]) (fun a ha => upI_off (by rintro rfl; revert ha; decide)) (fun _ _ => by rw [upI_off (by decide)]) (fun a ha => upI_off (by omega)) (fun a ha => upI_off (by omega))
theorem and1_01 (x : Int32) : x &&& 1 = 0 ∨ x &&& 1 = 1 := by
  have h : (x &&& 1).toBitVec.toNat = x.toBitVec.toNat % 2 := by
    rw [Int32.toBitVec_and, BitVec.toNat_and]
    exact Nat.and_one_is_mod _
  rcases Nat.mod_two_eq_zero_or_one x.toBitVec.toNat with e | e
  · left
    apply Int32.toBitVec.inj
    apply BitVec.eq_of_toNat_eq
    rw [h, e]; rfl
  · right
    apply Int32.toBitVec.inj
    apply BitVec.eq_of_toNat_eq
    rw [h, e]; rfl
theorem hasI_if (s k : Int32) {A : Type} (x y : A) : (if hasI s k = 1 then x else y) = if hasI s k = 0 then y else x := by
  rcases and1_01 (s >>> (k &&& 31)) with e | e
  · rw [show hasI s k = 0 from e]; rfl
  · rw [show hasI s k = 1 from e]; rfl
theorem needless_e {E : It} {a z : Int32} (h : isD E a) : needlessS E a z = (hasI (E 0 6) a, upI E 0 6 (withI (E 0 6) a z)) := by
  unfold needlessS
  rw [if_neg (not_not_intro h)]
  rcases and1_01 (E 0 6 >>> (a &&& 31)) with e | e
  · rw [show hasI (E 0 6) a = 0 from e, if_neg (by decide)]
  · rw [show hasI (E 0 6) a = 1 from e, if_pos rfl]
theorem learn_e {E : It} {a z : Int32} (h : isD E a) : (learnS E a z).2 = upI E 0 5 (withI (E 0 5) a z) := by
  unfold learnS
  rw [if_neg (not_not_intro h)]
  split <;> rfl
theorem here_ix20 {x : Int32} (h0 : ¬ x < 0) (h1 : x < 20) : idx x (tN x) 20 := by
  obtain ⟨j, hj, rfl⟩ := nI_of h0
  exact ⟨by rw [tN_nI hj], by rw [tN_nI hj]; exact lt_nI hj (by decide) h1, by decide⟩
theorem lt20_le {x : Int32} (h : idx x (tN x) 20) : x ≤ 19 := by
  rw [h.1]
  exact nI_le (a := tN x) (b := 19) (by have := h.2.1; omega) (by decide)
theorem RY.u07 {E : It} {L : Nat → Int64} {I : It} {h : Ht} {s : Nat} (hY : RY E L I h) (hs : s ≤ 100) : RY E L (upI I 0 7 (nI s)) h := by
  obtain ⟨g1, g2, ⟨g3, g4⟩, g5, ⟨g6, g7⟩, g8, g9, g10, g11⟩ := hY
  refine ⟨g1, StR.keep g2 (fun a ha => upI_off (by omega)) (fun _ => rfl) (Nat.le_refl _) (fun _ _ => rfl), ⟨(upn (by decide)).trans g3, fun e => StR.keep (g4 e) (fun a ha => upI_off (by omega)) (fun _ => rfl) (Nat.le_refl _) (fun _ _ => rfl)⟩, g5, ⟨g6.mv (fun a ha _ => upI_off (by omega)), g7⟩, ?_, ?_, ?_, ⟨s, hs, up0 _ _ _ _⟩⟩
  · rw [upI_off (by decide), upI_off (by decide)]; exact g8
  · intro t ht; rw [upI_off (by decide), upI_off (by decide)]; exact g9 t ht
  · rw [upn (by decide)]; exact g10
theorem RY.u05 {E : It} {L : Nat → Int64} {I : It} {h : Ht} {s : Nat} (hY : RY E L I h) (hs : s ≤ 6) : RY E L (upI I 0 5 (nI s)) h := by
  obtain ⟨g1, g2, ⟨g3, g4⟩, g5, ⟨g6, g7⟩, g8, g9, g10, g11⟩ := hY
  refine ⟨g1, StR.keep g2 (fun a ha => upI_off (by omega)) (fun _ => rfl) (Nat.le_refl _) (fun _ _ => rfl), ⟨(upn (by decide)).trans g3, fun e => StR.keep (g4 e) (fun a ha => upI_off (by omega)) (fun _ => rfl) (Nat.le_refl _) (fun _ _ => rfl)⟩, g5, ⟨g6.mv (fun a ha _ => upI_off (by omega)), g7⟩, ?_, ?_, ⟨s, hs, up0 _ _ _ _⟩, ?_⟩
  · rw [upI_off (by decide), upI_off (by decide)]; exact g8
  · intro t ht; rw [upI_off (by decide), upI_off (by decide)]; exact g9 t ht
  · rw [upn (by decide)]; exact g11
theorem feed_w {E : It} {L : Nat → Int64} {I : It} {h : Ht} {j : Nat} {x : Int32} {s : Nat} (hY : RY E L I h) (hs : s ≤ 100) (e : I 0 7 = nI s) (hlt : I 0 7 < 100) : RY E L (upI (upI I 31 j x) 0 7 (upI I 31 j x 0 7 + 1)) h := by
  have e2 : upI I 31 j x 0 7 = I 0 7 := upn (by omega)
  rw [e] at hlt
  have hs2 := lt_nI (b := 100) (by omega) (by decide) hlt
  rw [e2, e, nI_1]
  exact RY.u07 (hY.ua (by decide)) (by omega)

