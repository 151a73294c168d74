/-! what a public method answers, and the picture behind it -/
def SM (E : It) (L : Nat → Int64) (I : It) (h : Ht) : Prop := RM E I ∧ HM h ∧ hL h 38 = L
def qS (s : Int32 × It) (L : Nat → Int64) : Pt3 := qI fun x I' h' => x = s.1 ∧ SM s.2 L I' h'
def qSL (v : Int64) (E : It) (L : Nat → Int64) : Pt3 := qL fun x I' h' => x = v ∧ SM E L I' h'
theorem qS_of {s : Int32 × It} {v : Int32} {E' J : It} {L : Nat → Int64} {h : Ht} (hM : HM h) (hl : hL h 38 = L) (e : s = (v, E')) (hR : RM E' J) : qS s L (some (.int v)) J h := ⟨v, rfl, by rw [e], by rw [e]; exact hR, hM, hl⟩
theorem qSL_of {v w : Int64} {E J : It} {L : Nat → Int64} {h : Ht} (hM : HM h) (hl : hL h 38 = L) (e : w = v) (hR : RM E J) : qSL v E L (some (.long w)) J h := ⟨w, rfl, e, hR, hM, hl⟩
theorem nP_upf {E : It} {j : Nat} {x : Int32} (hj : j ≠ 15) : nP (upI E 0 j x) = nP E := by
  unfold nP; rw [upn (by omega)]
theorem nP_upc {E : It} {a j : Nat} {x : Int32} (ha : a ≠ 0) : nP (upI E a j x) = nP E := by
  unfold nP; rw [upn (by omega)]
theorem RM.upf {E I : It} {F C : List Nat} {j : Nat} {x : Int32} (h : RMx F C E I) (hj : j ≠ 15) : RMx F C (upI E 0 j x) (upI I 0 j x) := by
  obtain ⟨a1, a2, a3, a4, a5, a6⟩ := h
  refine ⟨fun q hq hF => ?_, fun a ha hC => ?_, ?_, ?_, ?_, ?_⟩
  · by_cases e : q = j
    · subst e; rw [up0, up0]
    · rw [upn (by omega), upn (by omega)]; exact a1 q hq hF
  · have h0 : a ≠ 0 := by rintro rfl; revert ha; decide
    rw [upI_off h0, upI_off h0]; exact a2 a ha hC
  · rw [nP_upf hj]; exact a3
  · rw [nP_upf hj]; exact a4
  · rw [nP_upf hj]; exact a5
  · exact a6
theorem RM.upc {E I : It} {F C : List Nat} {a j : Nat} {x : Int32} (h : RMx F C E I) (ha : a ∈ pcL) : RMx F C (upI E a j x) (upI I a j x) := by
  have h0 : a ≠ 0 := by rintro rfl; revert ha; decide
  have g : ∀ q, q ∈ [10, 11, 12, 13, 14, 15, 17] → q ≠ a := by
    intro q hq e
    subst e
    revert q
    decide
  obtain ⟨a1, a2, a3, a4, a5, a6⟩ := h
  refine ⟨fun q hq hF => ?_, fun q hq hC => ?_, ?_, ?_, ?_, ?_⟩
  · rw [upn (by omega), upn (by omega)]; exact a1 q hq hF
  · by_cases e : q = a
    · subst e
      funext b
      by_cases e2 : b = j
      · subst e2; rw [up0, up0]
      · rw [upn (by omega), upn (by omega)]; exact congrFun (a2 q hq hC) b
    · rw [upI_off e, upI_off e]; exact a2 q hq hC
  · rw [nP_upc h0, upI_off (g 10 (by decide)), upI_off (g 10 (by decide))]; exact a3
  · rw [nP_upc h0]; rw [upI_off (g 11 (by decide)), upI_off (g 11 (by decide)), upI_off (g 12 (by decide)), upI_off (g 12 (by decide)), upI_off (g 13 (by decide)), upI_off (g 13 (by decide)), upI_off (g 14 (by decide)), upI_off (g 14 (by decide))]; exact a4
  · rw [nP_upc h0, upI_off (g 15 (by decide)), upI_off (g 15 (by decide))]; exact a5
  · rw [upI_off (g 17 (by decide))]; exact a6
/-! sets of DOINGS -/
def kb (n : Nat) (x : Int32) : Prop := ∃ m, m < 2 ^ n ∧ x = nI m
theorem nI_bv (n : Nat) : (nI n).toBitVec = BitVec.ofNat 32 n := rfl
theorem nI_or (a b : Nat) : nI a ||| nI b = nI (a ||| b) := by
  apply Int32.toBitVec.inj
  rw [Int32.toBitVec_or, nI_bv, nI_bv, nI_bv]
  apply BitVec.eq_of_toNat_eq
  simp [Nat.or_mod_two_pow]
theorem nI_and (a : Nat) (y : Int32) : nI a &&& y = nI (a &&& y.toBitVec.toNat) := by
  apply Int32.toBitVec.inj
  rw [Int32.toBitVec_and, nI_bv, nI_bv]
  apply BitVec.eq_of_toNat_eq
  simp [Nat.and_mod_two_pow]
theorem kb_or {n : Nat} {x y : Int32} (hx : kb n x) (hy : kb n y) : kb n (x ||| y) := by
  obtain ⟨a, ha, rfl⟩ := hx
  obtain ⟨b, hb, rfl⟩ := hy
  exact ⟨a ||| b, Nat.or_lt_two_pow ha hb, nI_or a b⟩
theorem kb_and {n : Nat} {x : Int32} (y : Int32) (hx : kb n x) : kb n (x &&& y) := by
  obtain ⟨a, ha, rfl⟩ := hx
  exact ⟨_, Nat.lt_of_le_of_lt Nat.and_le_left ha, nI_and a y⟩
theorem bit_nI : ∀ i, i < 32 → bitI (nI i) = nI (2 ^ i) := by decide +kernel
theorem kb_bit {n i : Nat} (hi : i < n) (hn : n ≤ 10) : kb n (bitI (nI i)) := ⟨2 ^ i, Nat.pow_lt_pow_right (by decide) hi, bit_nI i (by omega)⟩
theorem kb_with {n i : Nat} {x : Int32} (z : Int32) (hx : kb n x) (hi : i < n) (hn : n ≤ 10) : kb n (withI x (nI i) z) := by
  unfold withI
  split
  · exact kb_and _ hx
  · exact kb_or hx (kb_bit hi hn)
theorem kb_0 (n : Nat) : kb n 0 := ⟨0, Nat.two_pow_pos n, rfl⟩
theorem kb_lt {n : Nat} {x : Int32} (h : kb n x) (hn : n ≤ 10) : ∃ m, m < 1024 ∧ x = nI m := by
  obtain ⟨m, hm, e⟩ := h
  exact ⟨m, Nat.lt_of_lt_of_le hm (Nat.pow_le_pow_right (by decide) hn), e⟩
def onesI (x : Int32) : Int32 := nI (onesN (tN x))
theorem inv_kn {E : It} (hE : Inv E) : kb (cnt E) (E 0 5) := hE.1.2.2.2.2.2.2.1
theorem inv_id {E : It} (hE : Inv E) : kb (cnt E) (E 0 6) := hE.1.2.2.2.2.2.2.2
theorem kb_over {E : It} (hr : Nat → Int32) (hc : cnt E ≤ 10) : kb (cnt E) (overF E hr) := by
  have key : ∀ (k i : Nat) (s : Int32), i + k = cnt E → kb (cnt E) s → kb (cnt E) (overR E hr k i s) := by
    intro k
    induction k with
    | zero => intro i s _ hs; exact hs
    | succ k ih =>
      intro i s hk hs
      rw [overR_s]
      refine ih (i + 1) _ (by omega) (kb_or hs ?_)
      split
      · exact kb_bit (by omega) hc
      · exact kb_0 _
  exact key (cnt E) 0 0 (Nat.zero_add _) (kb_0 _)
theorem kb_step {E : It} {n : Nat} {idl may : Int32} {w i : Nat} {a : WS} (h : kb n a.2.1) (hi : i < n) (hn : n ≤ 10) : kb n (wkStep E idl w may i a).2.1 := by
  obtain ⟨had, kn, co, st, ca, fw, fd⟩ := a
  unfold wkStep
  dsimp only at h ⊢
  split
  · exact h
  · split
    · exact h
    · split
      · exact h
      · split
        · exact kb_with _ h hi hn
        · exact kb_with _ h hi hn
theorem kb_wk {E : It} {n : Nat} {idl may : Int32} {w : Nat} (hn : n ≤ 10) : ∀ (k i : Nat) (a : WS), i + k ≤ n → kb n a.2.1 → kb n (wkRun E idl w may k i a).2.1 := by
  intro k
  induction k with
  | zero => intro i a _ h; exact h
  | succ k ih => intro i a hk h; rw [wkRun_s]; exact ih (i + 1) _ (by omega) (kb_step h (by omega) hn)
theorem kb_wks {E : It} {idl : Int32} (hc : cnt E ≤ 10) : ∀ (k w : Nat) (a : WS), kb (cnt E) a.2.1 → kb (cnt E) (wksF E idl k w a).2.1 := by
  intro k
  induction k with
  | zero => intro w a h; exact h
  | succ k ih =>
    intro w a h
    rw [wksF_s]
    refine ih (w + 1) _ ?_
    unfold wkF
    exact kb_wk hc (cnt E) 0 _ (by omega) h
theorem kb_run {E : It} (hE : Inv E) {kn idl : Int32} {n : Nat} (hk : kb (cnt E) kn) : kb (cnt E) (runF E kn idl n).2.1 := kb_wks (inv_cnt hE).2 n (wk E) _ hk
abbrev isD (E : It) (a : Int32) : Prop := 0 ≤ a ∧ a ≤ E 0 0 - 1
theorem in_of {a : Int32} {b : Nat} (hb : b < 2 ^ 31) (h : 0 ≤ a ∧ a ≤ nI b) : ∃ n, n ≤ b ∧ a = nI n := by
  obtain ⟨j, hj, rfl⟩ := nI_of (Int32.not_lt.mpr h.1)
  exact ⟨j, (nI_leI hj hb).mp h.2, rfl⟩
theorem in1_of {a : Int32} {c b : Nat} (hc : c < 2 ^ 31) (hb : b < 2 ^ 31) (h : nI c ≤ a ∧ a ≤ nI b) : ∃ n, c ≤ n ∧ n ≤ b ∧ a = nI n := by
  have h0 : ¬ a < 0 := fun z => nI_pos hc (Int32.lt_of_le_of_lt h.1 z)
  obtain ⟨j, hj, rfl⟩ := nI_of h0
  exact ⟨j, (nI_leI hc hj).mp h.1, (nI_leI hj hb).mp h.2, rfl⟩
theorem isD_of {E : It} (hE : Inv E) {a : Int32} (h : isD E a) : ∃ d, d < cnt E ∧ a = nI d := by
  obtain ⟨e, hc⟩ := inv_cnt hE
  obtain ⟨h1, h2⟩ := h
  rw [e] at h2
  obtain ⟨j, hj, rfl⟩ := nI_of (Int32.not_lt.mpr h1)
  rcases Nat.eq_zero_or_pos (cnt E) with z | z
  · rw [z] at h2
    exact absurd (Int32.lt_of_le_of_lt h2 (by decide : nI 0 - 1 < 0)) (nI_pos hj)
  · rw [show (1 : Int32) = nI 1 from rfl, pk_sub z] at h2
    exact ⟨j, by have := (nI_leI hj (by omega)).mp h2; omega, rfl⟩
theorem fed_ix {E : It} (hE : Inv E) (h : ¬ E 0 17 = 100) : idx (E 0 17) (tN (E 0 17)) 100 := by
  obtain ⟨f, hf, e, -⟩ := hE.2.2.2.2.1
  rw [e] at h ⊢
  rw [tN_nI (by omega)]
  refine ⟨rfl, ?_, by decide⟩
  rcases Nat.lt_or_ge f 100 with z | z
  · exact z
  · exact absurd (by rw [show f = 100 by omega]; rfl) h
theorem Fr.pcw {F C : List Nat} {I : It} {q j : Nat} {x : Int32} (h : Fr F C I I) (h0 : q ≠ 0 := by decide) (hq : q ∈ C := by decide) : Fr F C I (upI I q j x) := h.pc h0 hq
theorem isD_mk {E : It} (hE : Inv E) {d : Nat} (hd : d < cnt E) : isD E (nI d) := by
  obtain ⟨e, hc⟩ := inv_cnt hE
  refine ⟨nI_pos' (by omega), ?_⟩
  rw [e, show (1 : Int32) = nI 1 from rfl, pk_sub (by omega)]
  exact (nI_leI (by omega) (by omega)).mpr (by omega)
/-! hours that are tried -/
def hcF (E : It) (hr : Nat → Int32) (n : Nat) : Int32 := costF E (E 0 5 ||| overF E hr) (E 0 6) n
theorem allR_hr {E : It} {hr hr2 : Nat → Int32} {d : Nat} (e : ∀ y, y < 4 → hr y = hr2 y) : ∀ (k y : Nat) (z : Int32), y + k ≤ 4 → allR E hr d k y z = allR E hr2 d k y z := by
  intro k
  induction k with
  | zero => intro y z _; rfl
  | succ k ih => intro y z hk; rw [allR_s, allR_s, e y (by omega)]; exact ih (y + 1) _ (by omega)
theorem saidF_hr {E : It} {hr hr2 : Nat → Int32} (e : ∀ y, y < 4 → hr y = hr2 y) (d : Nat) : saidF E hr d = saidF E hr2 d := by
  unfold saidF allF
  rw [allR_hr e (4 - 0) 0 0 (by omega), allR_hr e (4 - 2) 2 0 (by omega), e 0 (by decide), e 1 (by decide), e 2 (by decide), e 3 (by decide)]
theorem overF_hr {E : It} {hr hr2 : Nat → Int32} (e : ∀ y, y < 4 → hr y = hr2 y) : overF E hr = overF E hr2 := by
  have key : ∀ (k i : Nat) (s : Int32), overR E hr k i s = overR E hr2 k i s := by
    intro k
    induction k with
    | zero => intro i s; rfl
    | succ k ih => intro i s; rw [overR_s, overR_s, saidF_hr e, ih]
  exact key _ _ _
theorem RM_hour {E J K : It} {F : List Nat} {y : Nat} {a x : Int32} (hR : RM E J) (hf : Fr F [18, 20] (upI J 8 y a) K) (hF : disj pfL F = true) (hx : x = E 8 y) : RM E (upI K 8 y x) := by
  refine RM.keep (F' := F) (C' := [18, 20]) hR ⟨fun j hj => ?_, fun q h0 hq => ?_⟩ hF (by decide) (by decide)
  · rw [upn (by omega)]
    exact (hf.1 j hj).trans (upn (by omega))
  · by_cases e : q = 8
    · subst e
      funext b
      by_cases e2 : b = y
      · subst e2; rw [up0, hx]; exact (RM.c1 hR 8 b (by decide) (by decide)).symm
      · rw [upn (by omega), hf.2 8 (by decide) (by decide), upn (by omega)]
    · rw [upI_off e, hf.2 q h0 hq, upI_off e]
/-! ASK and DROP, weeks looked through -/
def pickR (E : It) (n : Nat) (has : Nat → Int32) (co : Nat → Int32) : Nat → Nat → Int32 → Int32 → Int32 := fun k => match k with
  | 0 => fun _ f _ => f
  | k + 1 => fun i f l => if has i = 1 then pickR E n has co k (i + 1) f l else if f < 0 then pickR E n has co k (i + 1) (nI i) (co i) else if co i < l then pickR E n has co k (i + 1) (nI i) (co i) else pickR E n has co k (i + 1) f l
theorem pickR_s (E : It) (n : Nat) (has : Nat → Int32) (co : Nat → Int32) (k i : Nat) (f l : Int32) : pickR E n has co (k + 1) i f l = if has i = 1 then pickR E n has co k (i + 1) f l else if f < 0 then pickR E n has co k (i + 1) (nI i) (co i) else if co i < l then pickR E n has co k (i + 1) (nI i) (co i) else pickR E n has co k (i + 1) f l := rfl
def askF (E : It) (n : Nat) : Int32 := pickR E n (fun i => hasI (E 0 5) (nI i)) (fun i => costF E (withI (E 0 5) (nI i) 1) (E 0 6) n) (cnt E) 0 (-5) 0
def dropF (E : It) (n : Nat) : Int32 := pickR E n (fun i => hasI (E 0 6) (nI i)) (fun i => costF E (E 0 5) (withI (E 0 6) (nI i) 1) n) (cnt E) 0 (-5) 0
def whR (E : It) (d : Nat) : Nat → Nat → Nat := fun k => match k with
  | 0 => fun w => w
  | k + 1 => fun w => if remI (nI w) (E 3 d) = E 4 d then w else whR E d k (w + 1)
theorem whR_s (E : It) (d k w : Nat) : whR E d (k + 1) w = if remI (nI w) (E 3 d) = E 4 d then w else whR E d k (w + 1) := rfl
theorem mod_hit {r p w : Nat} (hp : p < r) : ∃ j, j < r ∧ (w + j) % r = p := by
  have h1 : w % r < r := Nat.mod_lt _ (by omega)
  rcases Nat.lt_or_ge p (w % r) with z | z
  · refine ⟨r + p - w % r, by omega, ?_⟩
    rw [Nat.add_mod, Nat.mod_eq_of_lt (show r + p - w % r < r by omega), show w % r + (r + p - w % r) = r + p by omega, Nat.add_mod_left, Nat.mod_eq_of_lt hp]
  · refine ⟨p - w % r, by omega, ?_⟩
    rw [Nat.add_mod, Nat.mod_eq_of_lt (show p - w % r < r by omega), show w % r + (p - w % r) = p by omega, Nat.mod_eq_of_lt hp]
theorem rem_nI {w r : Nat} (hw : w < 2 ^ 31) (h0 : 0 < r) (hr : r < 2 ^ 31) : remI (nI w) (nI r) = nI (w % r) := pk_rem hw h0 hr
theorem wh_hit {E : It} (hE : Inv E) {d : Nat} (hd : d < cnt E) : ∃ j, j < 60 ∧ remI (nI (wk E + j)) (E 3 d) = E 4 d := by
  obtain ⟨-, -, ⟨r, r1, r2, er, p, hp, ep⟩, -⟩ := inv_d hE hd
  have hw := (inv_wk hE).2
  obtain ⟨j, hj, e⟩ := mod_hit (w := wk E) hp
  exact ⟨j, by omega, by rw [er, ep, rem_nI (by omega) (by omega) (by omega), e]⟩
def bsR (E : It) : Nat → Nat → Nat → Nat := fun k => match k with
  | 0 => fun _ f => f
  | k + 1 => fun w f => bsR E k (w + 1) (if manyF E w ≤ manyF E f then f else w)
theorem bsR_s (E : It) (k w f : Nat) : bsR E (k + 1) w f = bsR E k (w + 1) (if manyF E w ≤ manyF E f then f else w) := rfl
def alR (E : It) (set : Int32) : Nat → Nat → Int32 := fun k => match k with
  | 0 => fun _ => -5
  | k + 1 => fun i => if allCR E set (wk E + i) (cnt E) 0 = true then nI i else alR E set k (i + 1)
theorem alR_s (E : It) (set : Int32) (k i : Nat) : alR E set (k + 1) i = if allCR E set (wk E + i) (cnt E) 0 = true then nI i else alR E set k (i + 1) := rfl
/-! tapes -/
theorem inv_tp {E : It} (hE : Inv E) {t : Nat} (ht : t < 6) (h : ¬ E 36 t < 0) : ∃ l, l ≤ 60 ∧ E 37 t = nI l := by
  rcases hE.2.2.2.2.2.2 t ht with ⟨e, -⟩ | ⟨s, l, -, hl, -, e⟩
  · rw [e] at h; exact absurd (by decide) h
  · exact ⟨l, hl, e⟩
theorem pl_of {l : Nat} {i : Int32} (hl : l ≤ 60) (h : 0 ≤ i ∧ i ≤ nI l - 1) : ∃ k, k < l ∧ i = nI k := by
  obtain ⟨j, hj, rfl⟩ := nI_of (Int32.not_lt.mpr h.1)
  rcases Nat.eq_zero_or_pos l with z | z
  · subst z
    exact absurd (Int32.lt_of_le_of_lt h.2 (by decide : nI 0 - 1 < 0)) (nI_pos hj)
  · have h2 := h.2
    rw [show (1 : Int32) = nI 1 from rfl, pk_sub z] at h2
    exact ⟨j, by have := (nI_leI hj (by omega)).mp h2; omega, rfl⟩
def narF (s : Int32) (z : Int64) : Int64 := if s = 0 then z.toInt32.toInt8.toInt32.toInt64 else if s = 1 then z.toInt32.toInt16.toInt32.toInt64 else if s = 2 then z.toInt32.toInt64 else if s = 4 then (if z = 0 then 0 else 1) else z
def NOL : Int64 := -9223372036854775808
def tsF (t : Int32) : Prop := 0 ≤ t ∧ t ≤ 5
abbrev isT (t : Int32) : Prop := 0 ≤ t ∧ t ≤ 5
def jdR (E : It) (L : Nat → Int64) (t : Nat) (i : Int32) : Nat → Nat → Int32 := fun k => match k with
  | 0 => fun _ => -5
  | k + 1 => fun j => if E 36 t < 0 then 100 + nI j else if i < 0 then 100 + nI j else if ¬ i ≤ E 37 t - nI j - 1 then 100 + nI j
      else if L (60 * t + tN i + j) = (if hasI (E 0 5) (nI j) = 1 then 1 else 0) then jdR E L t i k (j + 1) else nI j
theorem jdR_s (E : It) (L : Nat → Int64) (t : Nat) (i : Int32) (k j : Nat) : jdR E L t i (k + 1) j = if E 36 t < 0 then 100 + nI j else if i < 0 then 100 + nI j else if ¬ i ≤ E 37 t - nI j - 1 then 100 + nI j
      else if L (60 * t + tN i + j) = (if hasI (E 0 5) (nI j) = 1 then 1 else 0) then jdR E L t i k (j + 1) else nI j := rfl

theorem cE_isDoing {G : Gt} (hG : Gok G) {I : It} {h : Ht} (hM : HM h) {E : It} (hR : I 0 0 = E 0 0) {a : Int32} : Con G 2 0 0 mX12_isDoing [.ref 0, .int a] I h (rI (bI (isD E a)) I h) := by
  have hc := c_X12_isDoing hG hM (I := I) (a := a)
  rw [hR] at hc
  exact hc
theorem cE_saidOf {G : Gt} (hG : Gok G) {I : It} {h : Ht} (hM : HM h) {E : It} (hE : Inv E) (hR : RM E I) {d : Nat} (hd : d < cnt E) (hS : SY E I) : Con G 2 0 0 mX12_saidOf [.ref 0, .int (nI d)] I h (rI (saidF E (E 8) d) I h) := by
  have hc := c_X12_saidOf hG hM hE (Ag.of hR (by decide) (by decide)) hd hS
  rw [RM.c hR 8 (by decide) (by decide)] at hc
  exact hc
theorem cE_over {G : Gt} (hG : Gok G) {I : It} {h : Ht} (hM : HM h) {E : It} (hE : Inv E) (hR : RM E I) (hS : SY E I) : Con G 3 0 0 mX12_over [.ref 0] I h (rI (overF E (E 8)) I h) := by
  have hc := c_X12_over hG hM hE (Ag.of hR (by decide) (by decide)) hS
  rw [RM.c hR 8 (by decide) (by decide)] at hc
  exact hc
theorem cE_ones {G : Gt} (hG : Gok G) {I : It} {h : Ht} {x : Int32} {n : Nat} (hx : kb n x) (hn : n ≤ 10) : Con G 1 0 0 mX12_ones [.ref 0, .int x] I h (rI (onesI x) I h) := by
  obtain ⟨m, hm, rfl⟩ := kb_lt hx hn
  unfold onesI
  rw [tN_nI (by omega)]
  exact c_X12_ones hG hm
