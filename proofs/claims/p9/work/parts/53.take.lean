section
theorem IT_r {h : Ht} (hH : HX h) {t : Nat} (ht : t < 6) : hR h 36 t = some (37 + t) := by
  rcases (by omega : t = 0 ∨ t = 1 ∨ t = 2 ∨ t = 3 ∨ t = 4 ∨ t = 5) with rfl | rfl | rfl | rfl | rfl | rfl <;> exact CR hH 36 _ _ (by decide)
theorem IT_lt {h : Ht} (hH : HX h) {t : Nat} (ht : t < 6) : 37 + t < hn h := CLt hH (by omega)
theorem IT_sh {h : Ht} (hH : HX h) {t : Nat} (ht : t < 6) : hs h (37 + t) = (21, 60) := by
  rcases (by omega : t = 0 ∨ t = 1 ∨ t = 2 ∨ t = 3 ∨ t = 4 ∨ t = 5) with rfl | rfl | rfl | rfl | rfl | rfl <;> exact CS hH _ (by decide) rfl
theorem no_m1 {b : Int32} (h : ¬ ¬ (0 ≤ b ∧ b ≤ 0 - 1)) : False := by
  have h2 := Decidable.not_not.mp h
  exact absurd (Int32.le_trans h2.1 h2.2) (by decide)
theorem okD.mv {h h2 : Ht} {r : Option Nat} (e1 : hn h2 = hn h) (e2 : hs h2 = hs h) (hr : okD h r) : okD h2 r := fun v e => by
  rw [e1, e2]; exact hr v e
theorem HX.wr {h : Ht} {q j : Nat} {r : Option Nat} (hH : HX h) (e : (RXL.all fun x => !(x.1.1 == q && x.1.2 == j)) = true) : HX (wR h q j r) := ⟨hH.1, hH.2.1, fun x hx => by
  have h1 := List.all_eq_true.mp e x hx
  rw [← hH.2.2 x hx]
  show (if x.1.1 = q ∧ x.1.2 = j then r else hR h x.1.1 x.1.2) = _
  rw [if_neg]
  rintro ⟨e1, e2⟩
  simp [e1, e2] at h1⟩
theorem HX.wq {h : Ht} {q j : Nat} {r : Option Nat} (hH : HX h) (e : (RXL.all fun x => !(x.1.1 == q)) = true) : HX (wR h q j r) := ⟨hH.1, hH.2.1, fun x hx => by
  have h1 := List.all_eq_true.mp e x hx
  rw [← hH.2.2 x hx]
  show (if x.1.1 = q ∧ x.1.2 = j then r else hR h x.1.1 x.1.2) = _
  rw [if_neg]
  rintro ⟨e1, e2⟩
  simp [e1] at h1⟩
theorem HX.zA {h : Ht} {c a1 : Nat} (hH : HX h) : HX (zA h (hn h) (hn h + 1) (c, a1)) := ⟨Nat.le_trans hH.1 (Nat.le_succ _), fun q hq => by
  rw [← hH.2.1 q hq]
  show (if q = hn h then _ else hs h q) = _
  rw [if_neg (by have := hH.1; omega)], fun x hx => by
  rw [← hH.2.2 x hx]
  have h1 : x.1.1 < 73 := by
    have := List.all_eq_true.mp (show (RXL.all fun x => decide (x.1.1 < 73)) = true by decide) x hx
    simpa using this
  show (if x.1.1 = hn h then none else hR h x.1.1 x.1.2) = _
  rw [if_neg (by have := hH.1; omega)]⟩
/-- State d becomes as State s is -/
def TF (d s : Nat) (I : It) (h : Ht) (I2 : It) (h2 : Ht) : Prop :=
  (∀ f, f ∈ [2, 3, 4, 6, 7, 8, 9, 12] → I2 d f = I s f) ∧ (∀ j, j < 10 → I2 (d + 2) j = I (s + 2) j) ∧ (∀ j, j < 4 → I2 (d + 3) j = I (s + 3) j) ∧ (∀ j, j < 12 → I2 (d + 4) j = I (s + 4) j) ∧ (∀ j, j < 12 → I2 (d + 5) j = I (s + 5) j) ∧ (∀ a, a ∉ [d, d + 2, d + 3, d + 4, d + 5] → I2 a = I a) ∧
  (∀ j, j < 10 → hR h2 (d + 1) j = hR h (s + 1) j) ∧ hR h2 d 13 = hR h s 13 ∧ (∀ a, a ≠ d → a ≠ d + 1 → hR h2 a = hR h a) ∧ (∀ j, j ≠ 13 → hR h2 d j = hR h d j) ∧ hs h2 = hs h ∧ hn h2 = hn h ∧ hL h2 = hL h ∧ HX h2
set_option maxRecDepth 8000 in
set_option maxHeartbeats 4000000 in
theorem c_take7 {G : Gt} (hG : Gok G) {I : It} {h : Ht}  (hH : HX h) (hO : ∀ j, j < 10 → okD h (hR h 2 j)) : Con G (2) 0 0 mX5_takeFrom [.ref 7, .ref 1] I h (qV (TF 7 1 I h)) := by
  refine con_intro (own := RX5) (lo0 := [some (.ref 7), some (.ref 1), none]) hG rfl pl_X5 (Nat.le_of_ble_eq_true rfl) rfl (fun X hX => ?_)
  have loop2 : ∀ (k i : Nat) (h2 : Ht), i + k = 10 → HX h2 → hn h2 = hn h → hs h2 = hs h → hL h2 = hL h → (∀ a, a ≠ 8 → hR h2 a = hR h a) → (∀ j, hR h2 8 j = if j < i then hR h 2 j else hR h 8 j) → GG G (2) 0 0 X (qV (TF 7 1 I h)) 2 [some (.ref 7), some (.ref 1), some (.int (nI i))] [] (I) (h2) 0 0 := by
    intro k
    induction k using Nat.strongRecOn with | _ k ih => ?_
    intro i h2 hk hH e1 e2 e3 e4 e5
    refine g_iload_2 hX (dk DX5_takeFrom_0 2 rfl) ?_
    refine g_bipush (v := 10) hX (dk DX5_takeFrom_0 3 rfl) (by decide) ?_
    refine g_icmp_ge (tgt := 26) hX (dk DX5_takeFrom_0 4 rfl) (by decide) (fun hc1 => ?_) (fun hc1 => ?_)
    · have hk0 := cl_end (e := 10) hk (by decide) hc1
      subst hk0
      refine g_aload_1 hX (dk DX5_takeFrom_0 15 rfl) ?_
      refine g_getRs (r := 3) hX (dk DX5_takeFrom_0 16 rfl) KX5 fX5_17 (by decide) rfl (CLt hH (q := 1) (by decide)) (CC hH 1 (by decide) rfl) (CR hH 1 1 3 (by decide)) ?_
      refine g_iconst (v := 0) hX (dk DX5_takeFrom_0 17 rfl) (by decide) ?_
      refine g_aload_0 hX (dk DX5_takeFrom_0 18 rfl) ?_
      refine g_getRs (r := 9) hX (dk DX5_takeFrom_0 19 rfl) KX5 fX5_17 (by decide) rfl (CLt hH (q := 7) (by decide)) (CC hH 7 (by decide) rfl) (CR hH 7 1 9 (by decide)) ?_
      refine g_iconst (v := 0) hX (dk DX5_takeFrom_0 20 rfl) (by decide) ?_
      refine g_bipush (v := 10) hX (dk DX5_takeFrom_0 21 rfl) (by decide) ?_
      refine g_copyI (sp := 0) (dp := 0) (m := 10) hX (dk DX5_takeFrom_0 22 rfl) (tg_4 99 rfl rfl) (tg_4 4 rfl rfl) (tg_4 3 rfl rfl) (tg_1 17 rfl rfl) (CLt hH (q := 3) (by decide)) (CS hH 3 (by decide) rfl) (CLt hH (q := 9) (by decide)) (CS hH 9 (by decide) rfl) (⟨rfl, rfl, rfl⟩) (⟨by decide, by decide⟩) (⟨by decide, by decide⟩) (by decide) (by decide) ?_
      refine g_aload_1 hX (dk DX5_takeFrom_0 23 rfl) ?_
      refine g_getRs (r := 4) hX (dk DX5_takeFrom_0 24 rfl) KX5 fX5_21 (by decide) rfl (CLt hH (q := 1) (by decide)) (CC hH 1 (by decide) rfl) (CR hH 1 5 4 (by decide)) ?_
      refine g_iconst (v := 0) hX (dk DX5_takeFrom_0 25 rfl) (by decide) ?_
      refine g_aload_0 hX (dk DX5_takeFrom_0 26 rfl) ?_
      refine g_getRs (r := 10) hX (dk DX5_takeFrom_0 27 rfl) KX5 fX5_21 (by decide) rfl (CLt hH (q := 7) (by decide)) (CC hH 7 (by decide) rfl) (CR hH 7 5 10 (by decide)) ?_
      refine g_iconst (v := 0) hX (dk DX5_takeFrom_0 28 rfl) (by decide) ?_
      refine g_iconst (v := 4) hX (dk DX5_takeFrom_0 29 rfl) (by decide) ?_
      refine g_copyI (sp := 0) (dp := 0) (m := 4) hX (dk DX5_takeFrom_0 30 rfl) (tg_4 99 rfl rfl) (tg_4 4 rfl rfl) (tg_4 3 rfl rfl) (tg_1 17 rfl rfl) (CLt hH (q := 4) (by decide)) (CS hH 4 (by decide) rfl) (CLt hH (q := 10) (by decide)) (CS hH 10 (by decide) rfl) (⟨rfl, rfl, rfl⟩) (⟨by decide, by decide⟩) (⟨by decide, by decide⟩) (by decide) (by decide) ?_
      refine g_aload_1 hX (dk DX5_takeFrom_0 31 rfl) ?_
      refine g_getRs (r := 5) hX (dk DX5_takeFrom_0 32 rfl) KX5 fX5_24 (by decide) rfl (CLt hH (q := 1) (by decide)) (CC hH 1 (by decide) rfl) (CR hH 1 10 5 (by decide)) ?_
      refine g_iconst (v := 0) hX (dk DX5_takeFrom_0 33 rfl) (by decide) ?_
      refine g_aload_0 hX (dk DX5_takeFrom_0 34 rfl) ?_
      refine g_getRs (r := 11) hX (dk DX5_takeFrom_0 35 rfl) KX5 fX5_24 (by decide) rfl (CLt hH (q := 7) (by decide)) (CC hH 7 (by decide) rfl) (CR hH 7 10 11 (by decide)) ?_
      refine g_iconst (v := 0) hX (dk DX5_takeFrom_0 36 rfl) (by decide) ?_
      refine g_bipush (v := 12) hX (dk DX5_takeFrom_0 37 rfl) (by decide) ?_
      refine g_copyI (sp := 0) (dp := 0) (m := 12) hX (dk DX5_takeFrom_0 38 rfl) (tg_4 99 rfl rfl) (tg_4 4 rfl rfl) (tg_4 3 rfl rfl) (tg_1 17 rfl rfl) (CLt hH (q := 5) (by decide)) (CS hH 5 (by decide) rfl) (CLt hH (q := 11) (by decide)) (CS hH 11 (by decide) rfl) (⟨rfl, rfl, rfl⟩) (⟨by decide, by decide⟩) (⟨by decide, by decide⟩) (by decide) (by decide) ?_
      refine g_aload_1 hX (dk DX5_takeFrom_0 39 rfl) ?_
      refine g_getRs (r := 6) hX (dk DX5_takeFrom_0 40 rfl) KX5 fX5_27 (by decide) rfl (CLt hH (q := 1) (by decide)) (CC hH 1 (by decide) rfl) (CR hH 1 11 6 (by decide)) ?_
      refine g_iconst (v := 0) hX (dk DX5_takeFrom_0 41 rfl) (by decide) ?_
      refine g_aload_0 hX (dk DX5_takeFrom_0 42 rfl) ?_
      refine g_getRs (r := 12) hX (dk DX5_takeFrom_0 43 rfl) KX5 fX5_27 (by decide) rfl (CLt hH (q := 7) (by decide)) (CC hH 7 (by decide) rfl) (CR hH 7 11 12 (by decide)) ?_
      refine g_iconst (v := 0) hX (dk DX5_takeFrom_0 44 rfl) (by decide) ?_
      refine g_bipush (v := 12) hX (dk DX5_takeFrom_0 45 rfl) (by decide) ?_
      refine g_copyI (sp := 0) (dp := 0) (m := 12) hX (dk DX5_takeFrom_0 46 rfl) (tg_4 99 rfl rfl) (tg_4 4 rfl rfl) (tg_4 3 rfl rfl) (tg_1 17 rfl rfl) (CLt hH (q := 6) (by decide)) (CS hH 6 (by decide) rfl) (CLt hH (q := 12) (by decide)) (CS hH 12 (by decide) rfl) (⟨rfl, rfl, rfl⟩) (⟨by decide, by decide⟩) (⟨by decide, by decide⟩) (by decide) (by decide) ?_
      refine g_aload_0 hX (dk DX5_takeFrom_0 47 rfl) ?_
      refine g_aload_1 hX (dk DX5_takeFrom_0 48 rfl) ?_
      refine g_getI hX (dk DX5_takeFrom_0 49 rfl) KX5 fX5_36 (by decide) rfl (CLt hH (q := 1) (by decide)) (CC hH 1 (by decide) rfl) ?_
      refine g_putI hX (dk DX5_takeFrom_0 50 rfl) KX5 fX5_36 (by decide) rfl (CLt hH (q := 7) (by decide)) (CC hH 7 (by decide) rfl) (Or.inl rfl) (rfl) (rfl) ?_
      refine g_aload_0 hX (dk DX5_takeFrom_0 51 rfl) ?_
      refine g_aload_1 hX (dk DX5_takeFrom_0 52 rfl) ?_
      refine g_getI hX (dk DX5_takeFrom_0 53 rfl) KX5 fX5_40 (by decide) rfl (CLt hH (q := 1) (by decide)) (CC hH 1 (by decide) rfl) ?_
      refine g_putI hX (dk DX5_takeFrom_0 54 rfl) KX5 fX5_40 (by decide) rfl (CLt hH (q := 7) (by decide)) (CC hH 7 (by decide) rfl) (Or.inl rfl) (rfl) (rfl) ?_
      refine g_aload_0 hX (dk DX5_takeFrom_0 55 rfl) ?_
      refine g_aload_1 hX (dk DX5_takeFrom_0 56 rfl) ?_
      refine g_getI hX (dk DX5_takeFrom_0 57 rfl) KX5 fX5_43 (by decide) rfl (CLt hH (q := 1) (by decide)) (CC hH 1 (by decide) rfl) ?_
      refine g_putI hX (dk DX5_takeFrom_0 58 rfl) KX5 fX5_43 (by decide) rfl (CLt hH (q := 7) (by decide)) (CC hH 7 (by decide) rfl) (Or.inl rfl) (rfl) (rfl) ?_
      refine g_aload_0 hX (dk DX5_takeFrom_0 59 rfl) ?_
      refine g_aload_1 hX (dk DX5_takeFrom_1 0 rfl) ?_
      refine g_getI hX (dk DX5_takeFrom_1 1 rfl) KX5 fX5_46 (by decide) rfl (CLt hH (q := 1) (by decide)) (CC hH 1 (by decide) rfl) ?_
      refine g_putI hX (dk DX5_takeFrom_1 2 rfl) KX5 fX5_46 (by decide) rfl (CLt hH (q := 7) (by decide)) (CC hH 7 (by decide) rfl) (Or.inl rfl) (rfl) (rfl) ?_
      refine g_aload_0 hX (dk DX5_takeFrom_1 3 rfl) ?_
      refine g_aload_1 hX (dk DX5_takeFrom_1 4 rfl) ?_
      refine g_getI hX (dk DX5_takeFrom_1 5 rfl) KX5 fX5_49 (by decide) rfl (CLt hH (q := 1) (by decide)) (CC hH 1 (by decide) rfl) ?_
      refine g_putI hX (dk DX5_takeFrom_1 6 rfl) KX5 fX5_49 (by decide) rfl (CLt hH (q := 7) (by decide)) (CC hH 7 (by decide) rfl) (Or.inl rfl) (rfl) (rfl) ?_
      refine g_aload_0 hX (dk DX5_takeFrom_1 7 rfl) ?_
      refine g_aload_1 hX (dk DX5_takeFrom_1 8 rfl) ?_
      refine g_getI hX (dk DX5_takeFrom_1 9 rfl) KX5 fX5_52 (by decide) rfl (CLt hH (q := 1) (by decide)) (CC hH 1 (by decide) rfl) ?_
      refine g_putI hX (dk DX5_takeFrom_1 10 rfl) KX5 fX5_52 (by decide) rfl (CLt hH (q := 7) (by decide)) (CC hH 7 (by decide) rfl) (Or.inl rfl) (rfl) (rfl) ?_
      refine g_aload_0 hX (dk DX5_takeFrom_1 11 rfl) ?_
      refine g_aload_1 hX (dk DX5_takeFrom_1 12 rfl) ?_
      refine g_getI hX (dk DX5_takeFrom_1 13 rfl) KX5 fX5_55 (by decide) rfl (CLt hH (q := 1) (by decide)) (CC hH 1 (by decide) rfl) ?_
      refine g_putI hX (dk DX5_takeFrom_1 14 rfl) KX5 fX5_55 (by decide) rfl (CLt hH (q := 7) (by decide)) (CC hH 7 (by decide) rfl) (Or.inl rfl) (rfl) (rfl) ?_
      refine g_aload_0 hX (dk DX5_takeFrom_1 15 rfl) ?_
      refine g_aload_1 hX (dk DX5_takeFrom_1 16 rfl) ?_
      refine g_getI hX (dk DX5_takeFrom_1 17 rfl) KX5 fX5_58 (by decide) rfl (CLt hH (q := 1) (by decide)) (CC hH 1 (by decide) rfl) ?_
      refine g_putI hX (dk DX5_takeFrom_1 18 rfl) KX5 fX5_58 (by decide) rfl (CLt hH (q := 7) (by decide)) (CC hH 7 (by decide) rfl) (Or.inl rfl) (rfl) (rfl) ?_
      refine g_aload_0 hX (dk DX5_takeFrom_1 19 rfl) ?_
      refine g_aload_1 hX (dk DX5_takeFrom_1 20 rfl) ?_
      refine g_getR hX (dk DX5_takeFrom_1 21 rfl) KX5 fX5_61 (by decide) rfl (CLt hH (q := 1) (by decide)) (CC hH 1 (by decide) rfl) (rfl) ?_
      refine g_putR (r := hR h2 1 13) hX (dk DX5_takeFrom_1 22 rfl) KX5 fX5_61 (by decide) rfl (CLt hH (q := 7) (by decide)) (CC hH 7 (by decide) rfl) (Or.inl rfl) rfl (by cases (hR h2 1 13) <;> rfl) (by cases (hR h2 1 13) <;> rfl) ?_
      refine g_return hX (dk DX5_takeFrom_1 23 rfl) rfl (by decide) (by decide) ?_
      refine qV_of ⟨?_, fun j hj => cpy_in hj, fun j hj => cpy_in hj, fun j hj => cpy_in hj, fun j hj => cpy_in hj, fun a ha => ?_, fun j hj => ?_, ?_, fun a h0 h1 => ?_, fun j hj => ?_, e2, e1, e3, HX.wr hH (by decide)⟩
      · exact am_s rfl (am_s rfl (am_s rfl (am_s rfl (am_s rfl (am_s rfl (am_s rfl (am_s rfl am_0)))))))
      · simp only [List.mem_cons, List.not_mem_nil, or_false, not_or] at ha
        obtain ⟨a0, a2, a3, a4, a5⟩ := ha
        simp only [upI_off a0, cpI_off a2, cpI_off a3, cpI_off a4, cpI_off a5]
      · exact (show hR h2 8 j = hR h 2 j by rw [e5 j, if_pos (by omega)])
      · exact (show (if 7 = 7 ∧ 13 = 13 then hR h2 1 13 else hR h2 7 13) = _ from if_pos ⟨rfl, rfl⟩).trans (congrFun (e4 1 (by decide)) 13)
      · exact (upR_off (I := hR h2) h0).trans (e4 a h1)
      · exact (show (if 7 = 7 ∧ j = 13 then hR h2 1 13 else hR h2 7 j) = _ from if_neg (fun z => hj z.2)).trans (congrFun (e4 7 (by decide)) j)
    · obtain ⟨k, rfl⟩ := cl_go (e := 10) hk (by decide) hc1
      refine g_aload_0 hX (dk DX5_takeFrom_0 5 rfl) ?_
      refine g_getRs (r := 8) hX (dk DX5_takeFrom_0 6 rfl) KX5 fX5_11 (by decide) rfl (CLt hH (q := 7) (by decide)) (CC hH 7 (by decide) rfl) (CR hH 7 0 8 (by decide)) ?_
      refine g_iload_2 hX (dk DX5_takeFrom_0 7 rfl) ?_
      refine g_aload_1 hX (dk DX5_takeFrom_0 8 rfl) ?_
      refine g_getRs (r := 2) hX (dk DX5_takeFrom_0 9 rfl) KX5 fX5_11 (by decide) rfl (CLt hH (q := 1) (by decide)) (CC hH 1 (by decide) rfl) (CR hH 1 0 2 (by decide)) ?_
      refine g_iload_2 hX (dk DX5_takeFrom_0 10 rfl) ?_
      refine i_aaload (i0 := 4) hX (dk DX5_takeFrom_0 11 rfl) (CLt hH (q := 2) (by decide)) (CS hH 2 (by decide) rfl) (by decide) rfl rfl (⟨rfl, by omega, by decide⟩) (rfl) ?_
      refine g_aastoreD (r := hR h2 2 i) (j := i) hX (dk DX5_takeFrom_0 12 rfl) (CLt hH (q := 8) (by decide)) (CS hH 8 (by decide) rfl) (⟨rfl, by omega, by decide⟩) (by rw [show hR h2 2 i = hR h 2 i from congrFun (e4 2 (by decide)) i]; exact okD.mv e1 e2 (hO i (by omega))) ?_
      refine g_iinc_2 hX (dk DX5_takeFrom_0 13 rfl) (nI_1 i) (by decide) rfl ?_
      refine g_goto (tgt := 2) hX (dk DX5_takeFrom_0 14 rfl) (by decide) ?_
      exact ih k (by omega) (i + 1) _ (by omega) (HX.wq hH (by decide)) e1 e2 e3 (fun a ha => (upR_off (I := hR h2) ha).trans (e4 a ha)) (fun j => by
        show (if 8 = 8 ∧ j = i then hR h2 2 i else hR h2 8 j) = _
        by_cases e : j = i
        · rw [if_pos ⟨rfl, e⟩, if_pos (by omega), e]; exact congrFun (e4 2 (by decide)) i
        · rw [if_neg (fun z => e z.2), e5 j]
          by_cases z : j < i
          · rw [if_pos z, if_pos (by omega)]
          · rw [if_neg z, if_neg (by omega)])
  refine g_iconst (v := 0) hX (dk DX5_takeFrom_0 0 rfl) (by decide) ?_
  refine g_istore_2 hX (dk DX5_takeFrom_0 1 rfl) (by decide) rfl ?_
  exact loop2 10 0 h (Nat.zero_add _) hH rfl rfl rfl (fun _ _ => rfl) (fun j => by rw [if_neg (Nat.not_lt_zero j)])

set_option maxRecDepth 8000 in
set_option maxHeartbeats 4000000 in
theorem c_take1 {G : Gt} (hG : Gok G) {I : It} {h : Ht}  (hH : HX h) (hO : ∀ j, j < 10 → okD h (hR h 8 j)) : Con G (2) 0 0 mX5_takeFrom [.ref 1, .ref 7] I h (qV (TF 1 7 I h)) := by
  refine con_intro (own := RX5) (lo0 := [some (.ref 1), some (.ref 7), none]) hG rfl pl_X5 (Nat.le_of_ble_eq_true rfl) rfl (fun X hX => ?_)
  have loop2 : ∀ (k i : Nat) (h2 : Ht), i + k = 10 → HX h2 → hn h2 = hn h → hs h2 = hs h → hL h2 = hL h → (∀ a, a ≠ 2 → hR h2 a = hR h a) → (∀ j, hR h2 2 j = if j < i then hR h 8 j else hR h 2 j) → GG G (2) 0 0 X (qV (TF 1 7 I h)) 2 [some (.ref 1), some (.ref 7), some (.int (nI i))] [] (I) (h2) 0 0 := by
    intro k
    induction k using Nat.strongRecOn with | _ k ih => ?_
    intro i h2 hk hH e1 e2 e3 e4 e5
    refine g_iload_2 hX (dk DX5_takeFrom_0 2 rfl) ?_
    refine g_bipush (v := 10) hX (dk DX5_takeFrom_0 3 rfl) (by decide) ?_
    refine g_icmp_ge (tgt := 26) hX (dk DX5_takeFrom_0 4 rfl) (by decide) (fun hc1 => ?_) (fun hc1 => ?_)
    · have hk0 := cl_end (e := 10) hk (by decide) hc1
      subst hk0
      refine g_aload_1 hX (dk DX5_takeFrom_0 15 rfl) ?_
      refine g_getRs (r := 9) hX (dk DX5_takeFrom_0 16 rfl) KX5 fX5_17 (by decide) rfl (CLt hH (q := 7) (by decide)) (CC hH 7 (by decide) rfl) (CR hH 7 1 9 (by decide)) ?_
      refine g_iconst (v := 0) hX (dk DX5_takeFrom_0 17 rfl) (by decide) ?_
      refine g_aload_0 hX (dk DX5_takeFrom_0 18 rfl) ?_
      refine g_getRs (r := 3) hX (dk DX5_takeFrom_0 19 rfl) KX5 fX5_17 (by decide) rfl (CLt hH (q := 1) (by decide)) (CC hH 1 (by decide) rfl) (CR hH 1 1 3 (by decide)) ?_
      refine g_iconst (v := 0) hX (dk DX5_takeFrom_0 20 rfl) (by decide) ?_
      refine g_bipush (v := 10) hX (dk DX5_takeFrom_0 21 rfl) (by decide) ?_
      refine g_copyI (sp := 0) (dp := 0) (m := 10) hX (dk DX5_takeFrom_0 22 rfl) (tg_4 99 rfl rfl) (tg_4 4 rfl rfl) (tg_4 3 rfl rfl) (tg_1 17 rfl rfl) (CLt hH (q := 9) (by decide)) (CS hH 9 (by decide) rfl) (CLt hH (q := 3) (by decide)) (CS hH 3 (by decide) rfl) (⟨rfl, rfl, rfl⟩) (⟨by decide, by decide⟩) (⟨by decide, by decide⟩) (by decide) (by decide) ?_
      refine g_aload_1 hX (dk DX5_takeFrom_0 23 rfl) ?_
      refine g_getRs (r := 10) hX (dk DX5_takeFrom_0 24 rfl) KX5 fX5_21 (by decide) rfl (CLt hH (q := 7) (by decide)) (CC hH 7 (by decide) rfl) (CR hH 7 5 10 (by decide)) ?_
      refine g_iconst (v := 0) hX (dk DX5_takeFrom_0 25 rfl) (by decide) ?_
      refine g_aload_0 hX (dk DX5_takeFrom_0 26 rfl) ?_
      refine g_getRs (r := 4) hX (dk DX5_takeFrom_0 27 rfl) KX5 fX5_21 (by decide) rfl (CLt hH (q := 1) (by decide)) (CC hH 1 (by decide) rfl) (CR hH 1 5 4 (by decide)) ?_
      refine g_iconst (v := 0) hX (dk DX5_takeFrom_0 28 rfl) (by decide) ?_
      refine g_iconst (v := 4) hX (dk DX5_takeFrom_0 29 rfl) (by decide) ?_
      refine g_copyI (sp := 0) (dp := 0) (m := 4) hX (dk DX5_takeFrom_0 30 rfl) (tg_4 99 rfl rfl) (tg_4 4 rfl rfl) (tg_4 3 rfl rfl) (tg_1 17 rfl rfl) (CLt hH (q := 10) (by decide)) (CS hH 10 (by decide) rfl) (CLt hH (q := 4) (by decide)) (CS hH 4 (by decide) rfl) (⟨rfl, rfl, rfl⟩) (⟨by decide, by decide⟩) (⟨by decide, by decide⟩) (by decide) (by decide) ?_
      refine g_aload_1 hX (dk DX5_takeFrom_0 31 rfl) ?_
      refine g_getRs (r := 11) hX (dk DX5_takeFrom_0 32 rfl) KX5 fX5_24 (by decide) rfl (CLt hH (q := 7) (by decide)) (CC hH 7 (by decide) rfl) (CR hH 7 10 11 (by decide)) ?_
      refine g_iconst (v := 0) hX (dk DX5_takeFrom_0 33 rfl) (by decide) ?_
      refine g_aload_0 hX (dk DX5_takeFrom_0 34 rfl) ?_
      refine g_getRs (r := 5) hX (dk DX5_takeFrom_0 35 rfl) KX5 fX5_24 (by decide) rfl (CLt hH (q := 1) (by decide)) (CC hH 1 (by decide) rfl) (CR hH 1 10 5 (by decide)) ?_
      refine g_iconst (v := 0) hX (dk DX5_takeFrom_0 36 rfl) (by decide) ?_
      refine g_bipush (v := 12) hX (dk DX5_takeFrom_0 37 rfl) (by decide) ?_
      refine g_copyI (sp := 0) (dp := 0) (m := 12) hX (dk DX5_takeFrom_0 38 rfl) (tg_4 99 rfl rfl) (tg_4 4 rfl rfl) (tg_4 3 rfl rfl) (tg_1 17 rfl rfl) (CLt hH (q := 11) (by decide)) (CS hH 11 (by decide) rfl) (CLt hH (q := 5) (by decide)) (CS hH 5 (by decide) rfl) (⟨rfl, rfl, rfl⟩) (⟨by decide, by decide⟩) (⟨by decide, by decide⟩) (by decide) (by decide) ?_
      refine g_aload_1 hX (dk DX5_takeFrom_0 39 rfl) ?_
      refine g_getRs (r := 12) hX (dk DX5_takeFrom_0 40 rfl) KX5 fX5_27 (by decide) rfl (CLt hH (q := 7) (by decide)) (CC hH 7 (by decide) rfl) (CR hH 7 11 12 (by decide)) ?_
      refine g_iconst (v := 0) hX (dk DX5_takeFrom_0 41 rfl) (by decide) ?_
      refine g_aload_0 hX (dk DX5_takeFrom_0 42 rfl) ?_
      refine g_getRs (r := 6) hX (dk DX5_takeFrom_0 43 rfl) KX5 fX5_27 (by decide) rfl (CLt hH (q := 1) (by decide)) (CC hH 1 (by decide) rfl) (CR hH 1 11 6 (by decide)) ?_
      refine g_iconst (v := 0) hX (dk DX5_takeFrom_0 44 rfl) (by decide) ?_
      refine g_bipush (v := 12) hX (dk DX5_takeFrom_0 45 rfl) (by decide) ?_
      refine g_copyI (sp := 0) (dp := 0) (m := 12) hX (dk DX5_takeFrom_0 46 rfl) (tg_4 99 rfl rfl) (tg_4 4 rfl rfl) (tg_4 3 rfl rfl) (tg_1 17 rfl rfl) (CLt hH (q := 12) (by decide)) (CS hH 12 (by decide) rfl) (CLt hH (q := 6) (by decide)) (CS hH 6 (by decide) rfl) (⟨rfl, rfl, rfl⟩) (⟨by decide, by decide⟩) (⟨by decide, by decide⟩) (by decide) (by decide) ?_
      refine g_aload_0 hX (dk DX5_takeFrom_0 47 rfl) ?_
      refine g_aload_1 hX (dk DX5_takeFrom_0 48 rfl) ?_
      refine g_getI hX (dk DX5_takeFrom_0 49 rfl) KX5 fX5_36 (by decide) rfl (CLt hH (q := 7) (by decide)) (CC hH 7 (by decide) rfl) ?_
      refine g_putI hX (dk DX5_takeFrom_0 50 rfl) KX5 fX5_36 (by decide) rfl (CLt hH (q := 1) (by decide)) (CC hH 1 (by decide) rfl) (Or.inl rfl) (rfl) (rfl) ?_
      refine g_aload_0 hX (dk DX5_takeFrom_0 51 rfl) ?_
      refine g_aload_1 hX (dk DX5_takeFrom_0 52 rfl) ?_
      refine g_getI hX (dk DX5_takeFrom_0 53 rfl) KX5 fX5_40 (by decide) rfl (CLt hH (q := 7) (by decide)) (CC hH 7 (by decide) rfl) ?_
      refine g_putI hX (dk DX5_takeFrom_0 54 rfl) KX5 fX5_40 (by decide) rfl (CLt hH (q := 1) (by decide)) (CC hH 1 (by decide) rfl) (Or.inl rfl) (rfl) (rfl) ?_
      refine g_aload_0 hX (dk DX5_takeFrom_0 55 rfl) ?_
      refine g_aload_1 hX (dk DX5_takeFrom_0 56 rfl) ?_
      refine g_getI hX (dk DX5_takeFrom_0 57 rfl) KX5 fX5_43 (by decide) rfl (CLt hH (q := 7) (by decide)) (CC hH 7 (by decide) rfl) ?_
      refine g_putI hX (dk DX5_takeFrom_0 58 rfl) KX5 fX5_43 (by decide) rfl (CLt hH (q := 1) (by decide)) (CC hH 1 (by decide) rfl) (Or.inl rfl) (rfl) (rfl) ?_
      refine g_aload_0 hX (dk DX5_takeFrom_0 59 rfl) ?_
      refine g_aload_1 hX (dk DX5_takeFrom_1 0 rfl) ?_
      refine g_getI hX (dk DX5_takeFrom_1 1 rfl) KX5 fX5_46 (by decide) rfl (CLt hH (q := 7) (by decide)) (CC hH 7 (by decide) rfl) ?_
      refine g_putI hX (dk DX5_takeFrom_1 2 rfl) KX5 fX5_46 (by decide) rfl (CLt hH (q := 1) (by decide)) (CC hH 1 (by decide) rfl) (Or.inl rfl) (rfl) (rfl) ?_
      refine g_aload_0 hX (dk DX5_takeFrom_1 3 rfl) ?_
      refine g_aload_1 hX (dk DX5_takeFrom_1 4 rfl) ?_
      refine g_getI hX (dk DX5_takeFrom_1 5 rfl) KX5 fX5_49 (by decide) rfl (CLt hH (q := 7) (by decide)) (CC hH 7 (by decide) rfl) ?_
      refine g_putI hX (dk DX5_takeFrom_1 6 rfl) KX5 fX5_49 (by decide) rfl (CLt hH (q := 1) (by decide)) (CC hH 1 (by decide) rfl) (Or.inl rfl) (rfl) (rfl) ?_
      refine g_aload_0 hX (dk DX5_takeFrom_1 7 rfl) ?_
      refine g_aload_1 hX (dk DX5_takeFrom_1 8 rfl) ?_
      refine g_getI hX (dk DX5_takeFrom_1 9 rfl) KX5 fX5_52 (by decide) rfl (CLt hH (q := 7) (by decide)) (CC hH 7 (by decide) rfl) ?_
      refine g_putI hX (dk DX5_takeFrom_1 10 rfl) KX5 fX5_52 (by decide) rfl (CLt hH (q := 1) (by decide)) (CC hH 1 (by decide) rfl) (Or.inl rfl) (rfl) (rfl) ?_
      refine g_aload_0 hX (dk DX5_takeFrom_1 11 rfl) ?_
      refine g_aload_1 hX (dk DX5_takeFrom_1 12 rfl) ?_
      refine g_getI hX (dk DX5_takeFrom_1 13 rfl) KX5 fX5_55 (by decide) rfl (CLt hH (q := 7) (by decide)) (CC hH 7 (by decide) rfl) ?_
      refine g_putI hX (dk DX5_takeFrom_1 14 rfl) KX5 fX5_55 (by decide) rfl (CLt hH (q := 1) (by decide)) (CC hH 1 (by decide) rfl) (Or.inl rfl) (rfl) (rfl) ?_
      refine g_aload_0 hX (dk DX5_takeFrom_1 15 rfl) ?_
      refine g_aload_1 hX (dk DX5_takeFrom_1 16 rfl) ?_
      refine g_getI hX (dk DX5_takeFrom_1 17 rfl) KX5 fX5_58 (by decide) rfl (CLt hH (q := 7) (by decide)) (CC hH 7 (by decide) rfl) ?_
      refine g_putI hX (dk DX5_takeFrom_1 18 rfl) KX5 fX5_58 (by decide) rfl (CLt hH (q := 1) (by decide)) (CC hH 1 (by decide) rfl) (Or.inl rfl) (rfl) (rfl) ?_
      refine g_aload_0 hX (dk DX5_takeFrom_1 19 rfl) ?_
      refine g_aload_1 hX (dk DX5_takeFrom_1 20 rfl) ?_
      refine g_getR hX (dk DX5_takeFrom_1 21 rfl) KX5 fX5_61 (by decide) rfl (CLt hH (q := 7) (by decide)) (CC hH 7 (by decide) rfl) (rfl) ?_
      refine g_putR (r := hR h2 7 13) hX (dk DX5_takeFrom_1 22 rfl) KX5 fX5_61 (by decide) rfl (CLt hH (q := 1) (by decide)) (CC hH 1 (by decide) rfl) (Or.inl rfl) rfl (by cases (hR h2 7 13) <;> rfl) (by cases (hR h2 7 13) <;> rfl) ?_
      refine g_return hX (dk DX5_takeFrom_1 23 rfl) rfl (by decide) (by decide) ?_
      refine qV_of ⟨?_, fun j hj => cpy_in hj, fun j hj => cpy_in hj, fun j hj => cpy_in hj, fun j hj => cpy_in hj, fun a ha => ?_, fun j hj => ?_, ?_, fun a h0 h1 => ?_, fun j hj => ?_, e2, e1, e3, HX.wr hH (by decide)⟩
      · exact am_s rfl (am_s rfl (am_s rfl (am_s rfl (am_s rfl (am_s rfl (am_s rfl (am_s rfl am_0)))))))
      · simp only [List.mem_cons, List.not_mem_nil, or_false, not_or] at ha
        obtain ⟨a0, a2, a3, a4, a5⟩ := ha
        simp only [upI_off a0, cpI_off a2, cpI_off a3, cpI_off a4, cpI_off a5]
      · exact (show hR h2 2 j = hR h 8 j by rw [e5 j, if_pos (by omega)])
      · exact (show (if 1 = 1 ∧ 13 = 13 then hR h2 7 13 else hR h2 1 13) = _ from if_pos ⟨rfl, rfl⟩).trans (congrFun (e4 7 (by decide)) 13)
      · exact (upR_off (I := hR h2) h0).trans (e4 a h1)
      · exact (show (if 1 = 1 ∧ j = 13 then hR h2 7 13 else hR h2 1 j) = _ from if_neg (fun z => hj z.2)).trans (congrFun (e4 1 (by decide)) j)
    · obtain ⟨k, rfl⟩ := cl_go (e := 10) hk (by decide) hc1
      refine g_aload_0 hX (dk DX5_takeFrom_0 5 rfl) ?_
      refine g_getRs (r := 2) hX (dk DX5_takeFrom_0 6 rfl) KX5 fX5_11 (by decide) rfl (CLt hH (q := 1) (by decide)) (CC hH 1 (by decide) rfl) (CR hH 1 0 2 (by decide)) ?_
      refine g_iload_2 hX (dk DX5_takeFrom_0 7 rfl) ?_
      refine g_aload_1 hX (dk DX5_takeFrom_0 8 rfl) ?_
      refine g_getRs (r := 8) hX (dk DX5_takeFrom_0 9 rfl) KX5 fX5_11 (by decide) rfl (CLt hH (q := 7) (by decide)) (CC hH 7 (by decide) rfl) (CR hH 7 0 8 (by decide)) ?_
      refine g_iload_2 hX (dk DX5_takeFrom_0 10 rfl) ?_
      refine i_aaload (i0 := 4) hX (dk DX5_takeFrom_0 11 rfl) (CLt hH (q := 8) (by decide)) (CS hH 8 (by decide) rfl) (by decide) rfl rfl (⟨rfl, by omega, by decide⟩) (rfl) ?_
      refine g_aastoreD (r := hR h2 8 i) (j := i) hX (dk DX5_takeFrom_0 12 rfl) (CLt hH (q := 2) (by decide)) (CS hH 2 (by decide) rfl) (⟨rfl, by omega, by decide⟩) (by rw [show hR h2 8 i = hR h 8 i from congrFun (e4 8 (by decide)) i]; exact okD.mv e1 e2 (hO i (by omega))) ?_
      refine g_iinc_2 hX (dk DX5_takeFrom_0 13 rfl) (nI_1 i) (by decide) rfl ?_
      refine g_goto (tgt := 2) hX (dk DX5_takeFrom_0 14 rfl) (by decide) ?_
      exact ih k (by omega) (i + 1) _ (by omega) (HX.wq hH (by decide)) e1 e2 e3 (fun a ha => (upR_off (I := hR h2) ha).trans (e4 a ha)) (fun j => by
        show (if 2 = 2 ∧ j = i then hR h2 8 i else hR h2 2 j) = _
        by_cases e : j = i
        · rw [if_pos ⟨rfl, e⟩, if_pos (by omega), e]; exact congrFun (e4 8 (by decide)) i
        · rw [if_neg (fun z => e z.2), e5 j]
          by_cases z : j < i
          · rw [if_pos z, if_pos (by omega)]
          · rw [if_neg z, if_neg (by omega)])
  refine g_iconst (v := 0) hX (dk DX5_takeFrom_0 0 rfl) (by decide) ?_
  refine g_istore_2 hX (dk DX5_takeFrom_0 1 rfl) (by decide) rfl ?_
  exact loop2 10 0 h (Nat.zero_add _) hH rfl rfl rfl (fun _ _ => rfl) (fun j => by rw [if_neg (Nat.not_lt_zero j)])
end
section
set_option maxRecDepth 8000 in
set_option maxHeartbeats 4000000 in
theorem c_X5_add {G : Gt} (hG : Gok G) {I : It} {h : Ht}  (hH : HX h) {v n : Nat} (hn1 : I 1 2 = nI n) (hn10 : n < 10) (hv : v < hn h) (hvd : isDC (hs h v).1) : Con G (2) 0 0 mX5_add [.ref 1, .ref v] I h (qI (fun x I2 h2 => x = nI n ∧ I2 = upI (upI I 3 n 5) 1 2 (nI (n + 1)) ∧ h2 = wR h 2 n (some v))) := by
  refine con_intro (own := RX5) (lo0 := [some (.ref 1), some (.ref v)]) hG rfl pl_X5 (Nat.le_of_ble_eq_true rfl) rfl (fun X hX => ?_)
  refine g_aload_0 hX (dk DX5_add 0 rfl) ?_
  refine g_getIv hX (dk DX5_add 1 rfl) KX5 fX5_36 (by decide) rfl (CLt hH (q := 1) (by decide)) (CC hH 1 (by decide) rfl) (hn1) ?_
  refine g_bipush (v := 10) hX (dk DX5_add 2 rfl) (by decide) ?_
  refine g_icmp_lt (tgt := 12) hX (dk DX5_add 3 rfl) (by decide) (fun hc1 => ?_) (fun hc1 => absurd (show nI n < nI 10 from nI_lt hn10 (by decide)) hc1)
  refine g_aload_0 hX (dk DX5_add 6 rfl) ?_
  refine g_getRs (r := 2) hX (dk DX5_add 7 rfl) KX5 fX5_11 (by decide) rfl (CLt hH (q := 1) (by decide)) (CC hH 1 (by decide) rfl) (CR hH 1 0 2 (by decide)) ?_
  refine g_aload_0 hX (dk DX5_add 8 rfl) ?_
  refine g_getIv hX (dk DX5_add 9 rfl) KX5 fX5_36 (by decide) rfl (CLt hH (q := 1) (by decide)) (CC hH 1 (by decide) rfl) (hn1) ?_
  refine g_aload_1 hX (dk DX5_add 10 rfl) ?_
  refine g_aastoreD (r := some v) (j := n) hX (dk DX5_add 11 rfl) (CLt hH (q := 2) (by decide)) (CS hH 2 (by decide) rfl) (⟨rfl, hn10, by decide⟩) (fun z e => by cases e; exact ⟨hv, hvd⟩) ?_
  refine g_aload_0 hX (dk DX5_add 12 rfl) ?_
  refine g_getRs (r := 3) hX (dk DX5_add 13 rfl) KX5 fX5_17 (by decide) rfl (CLt hH (q := 1) (by decide)) (CC hH 1 (by decide) rfl) (CR hH 1 1 3 (by decide)) ?_
  refine g_aload_0 hX (dk DX5_add 14 rfl) ?_
  refine g_getIv hX (dk DX5_add 15 rfl) KX5 fX5_36 (by decide) rfl (CLt hH (q := 1) (by decide)) (CC hH 1 (by decide) rfl) (hn1) ?_
  refine g_iconst (v := 5) hX (dk DX5_add 16 rfl) (by decide) ?_
  refine i_iastore hX (dk DX5_add 17 rfl) (CLt hH (q := 3) (by decide)) (CS hH 3 (by decide) rfl) (⟨rfl, hn10, by decide⟩) ?_
  refine g_aload_0 hX (dk DX5_add 18 rfl) ?_
  refine g_dup hX (dk DX5_add 19 rfl) rfl ?_
  refine g_getIv hX (dk DX5_add 20 rfl) KX5 fX5_36 (by decide) rfl (CLt hH (q := 1) (by decide)) (CC hH 1 (by decide) rfl) ((show _ = nI n from hn1)) ?_
  refine g_iconst (v := 1) hX (dk DX5_add 21 rfl) (by decide) ?_
  refine g_iadd hX (dk DX5_add 22 rfl) ?_
  refine g_putI hX (dk DX5_add 23 rfl) KX5 fX5_36 (by decide) rfl (CLt hH (q := 1) (by decide)) (CC hH 1 (by decide) rfl) (Or.inl rfl) (rfl) (rfl) ?_
  refine g_aload_0 hX (dk DX5_add 24 rfl) ?_
  refine g_getIv hX (dk DX5_add 25 rfl) KX5 fX5_36 (by decide) rfl (CLt hH (q := 1) (by decide)) (CC hH 1 (by decide) rfl) ((up0 _ _ _ _).trans (nI_1 n)) ?_
  refine g_iconst (v := 1) hX (dk DX5_add 26 rfl) (by decide) ?_
  refine g_isub hX (dk DX5_add 27 rfl) ?_
  refine g_ireturn hX (dk DX5_add 28 rfl) rfl (rfl) (by decide) (by decide) ?_
  exact qI_of ⟨nI_pred n, by rw [nI_1], rfl⟩
end
section
def bsC (co : Nat → Nat → Nat → Nat → Int32) (hh a b : Nat) : Nat → Nat → Int32 × (Nat → Int32) → Int32 × (Nat → Int32) := fun k => match k with
  | 0 => fun _ s => s
  | k + 1 => fun c s => bsC co hh a b k (c + 1) (if co a b c (hh - a - b - c) < s.1 then (co a b c (hh - a - b - c), h4 a b c (hh - a - b - c)) else s)
theorem bsC_s (co : Nat → Nat → Nat → Nat → Int32) (hh a b k c : Nat) (s : Int32 × (Nat → Int32)) : bsC co hh a b (k + 1) c s = bsC co hh a b k (c + 1) (if co a b c (hh - a - b - c) < s.1 then (co a b c (hh - a - b - c), h4 a b c (hh - a - b - c)) else s) := rfl
def bsB (co : Nat → Nat → Nat → Nat → Int32) (hh a : Nat) : Nat → Nat → Int32 × (Nat → Int32) → Int32 × (Nat → Int32) := fun k => match k with
  | 0 => fun _ s => s
  | k + 1 => fun b s => bsB co hh a k (b + 1) (bsC co hh a b (hh - a - b + 1) 0 s)
theorem bsB_s (co : Nat → Nat → Nat → Nat → Int32) (hh a k b : Nat) (s : Int32 × (Nat → Int32)) : bsB co hh a (k + 1) b s = bsB co hh a k (b + 1) (bsC co hh a b (hh - a - b + 1) 0 s) := rfl
def bsA (co : Nat → Nat → Nat → Nat → Int32) (hh : Nat) : Nat → Nat → Int32 × (Nat → Int32) → Int32 × (Nat → Int32) := fun k => match k with
  | 0 => fun _ s => s
  | k + 1 => fun a s => bsA co hh k (a + 1) (bsB co hh a (hh - a + 1) 0 s)
theorem bsA_s (co : Nat → Nat → Nat → Nat → Int32) (hh k a : Nat) (s : Int32 × (Nat → Int32)) : bsA co hh (k + 1) a s = bsA co hh k (a + 1) (bsB co hh a (hh - a + 1) 0 s) := rfl
theorem bs_end {c k e : Nat} (hk : c + k = e + 1) (he : e ≤ 9) (hc : nI e < nI c) : k = 0 := by
  have := (nI_ltI (by omega) (by omega)).mp hc
  omega
theorem bs_go {c k e : Nat} (hk : c + k = e + 1) (he : e ≤ 9) (hc : ¬ nI e < nI c) : ∃ z, k = z + 1 := by
  cases k with
  | zero => exact absurd (nI_lt (by omega) (by omega)) hc
  | succ z => exact ⟨z, rfl⟩
set_option maxRecDepth 8000 in
set_option maxHeartbeats 4000000 in
theorem c_X0_share {G : Gt} (hG : Gok G) {I : It} {h : Ht}  (hH : HX h) {a b c e : Int32} : Con G (1) 0 0 mX0_share [.ref 13, .int a, .int b, .int c, .int e] I h (rV (upI (upI (upI (upI I 28 0 a) 28 1 b) 28 2 c) 28 3 e) h) := by
  refine con_intro (own := RX0) (lo0 := [some (.ref 13), some (.int a), some (.int b), some (.int c), some (.int e)]) hG rfl pl_X0 (Nat.le_of_ble_eq_true rfl) rfl (fun X hX => ?_)
  refine g_aload_0 hX (dk DX0_share 0 rfl) ?_
  refine g_getRs (r := 28) hX (dk DX0_share 1 rfl) KX0 fX0_28 (by decide) rfl (CLt hH (q := 13) (by decide)) (CC hH 13 (by decide) rfl) (CR hH 13 14 28 (by decide)) ?_
  refine g_iconst (v := 0) hX (dk DX0_share 2 rfl) (by decide) ?_
  refine g_iload_1 hX (dk DX0_share 3 rfl) ?_
  refine i_iastore (j := 0) hX (dk DX0_share 4 rfl) (CLt hH (q := 28) (by decide)) (CS hH 28 (by decide) rfl) (⟨rfl, by decide, by decide⟩) ?_
  refine g_aload_0 hX (dk DX0_share 5 rfl) ?_
  refine g_getRs (r := 28) hX (dk DX0_share 6 rfl) KX0 fX0_28 (by decide) rfl (CLt hH (q := 13) (by decide)) (CC hH 13 (by decide) rfl) (CR hH 13 14 28 (by decide)) ?_
  refine g_iconst (v := 1) hX (dk DX0_share 7 rfl) (by decide) ?_
  refine g_iload_2 hX (dk DX0_share 8 rfl) ?_
  refine i_iastore (j := 1) hX (dk DX0_share 9 rfl) (CLt hH (q := 28) (by decide)) (CS hH 28 (by decide) rfl) (⟨rfl, by decide, by decide⟩) ?_
  refine g_aload_0 hX (dk DX0_share 10 rfl) ?_
  refine g_getRs (r := 28) hX (dk DX0_share 11 rfl) KX0 fX0_28 (by decide) rfl (CLt hH (q := 13) (by decide)) (CC hH 13 (by decide) rfl) (CR hH 13 14 28 (by decide)) ?_
  refine g_iconst (v := 2) hX (dk DX0_share 12 rfl) (by decide) ?_
  refine g_iload_3 hX (dk DX0_share 13 rfl) ?_
  refine i_iastore (j := 2) hX (dk DX0_share 14 rfl) (CLt hH (q := 28) (by decide)) (CS hH 28 (by decide) rfl) (⟨rfl, by decide, by decide⟩) ?_
  refine g_aload_0 hX (dk DX0_share 15 rfl) ?_
  refine g_getRs (r := 28) hX (dk DX0_share 16 rfl) KX0 fX0_28 (by decide) rfl (CLt hH (q := 13) (by decide)) (CC hH 13 (by decide) rfl) (CR hH 13 14 28 (by decide)) ?_
  refine g_iconst (v := 3) hX (dk DX0_share 17 rfl) (by decide) ?_
  refine g_iload_4 hX (dk DX0_share 18 rfl) ?_
  refine i_iastore (j := 3) hX (dk DX0_share 19 rfl) (CLt hH (q := 28) (by decide)) (CS hH 28 (by decide) rfl) (⟨rfl, by decide, by decide⟩) ?_
  refine g_return hX (dk DX0_share 20 rfl) rfl (by decide) (by decide) ?_
  exact rV_of rfl rfl

set_option maxRecDepth 8000 in
set_option maxHeartbeats 4000000 in
theorem c_X0_bestSplit {G : Gt} (hG : Gok G) {I : It} {h : Ht}  (hH : HX h) {hh dd : Nat} {co : Nat → Nat → Nat → Nat → Int32} {K : It → Prop} (hh9 : hh ≤ 9) (hdd : dd + 1 ≤ 9) (hKs : ∀ J y x, K J → K (upI J 28 y x)) (hKc : ∀ J, K J → K (cpI J 28 29 0 0 4)) (hco : ∀ J a b c e, K J → (J 28 0 = nI a ∧ J 28 1 = nI b ∧ J 28 2 = nI c ∧ J 28 3 = nI e) → a + b + c + e = hh → Con G dd 0 0 mX0_costHanded [.ref 13, .ref 28] J h (qI fun x I2 h2 => x = co a b c e ∧ K I2 ∧ h2 = h ∧ I2 28 = J 28 ∧ I2 29 = J 29)) (hK0 : K I) : Con G (9) 0 0 mX0_bestSplit [.ref 13, .int (nI hh)] I h (qI (fun x I2 h2 => x = (bsA co hh (hh + 1) 0 (2147483647, I 29)).1 ∧ (∀ y, y < 4 → I2 29 y = (bsA co hh (hh + 1) 0 (2147483647, I 29)).2 y) ∧ K I2 ∧ h2 = h)) := by
  refine con_intro (own := RX0) (lo0 := [some (.ref 13), some (.int (nI hh)), none, none, none, none, none]) hG rfl pl_X0 (Nat.le_of_ble_eq_true rfl) rfl (fun X hX => ?_)
  have loop24 : ∀ a b, a ≤ hh → a + b ≤ hh → ∀ (sF : Int32 × (Nat → Int32)), (∀ J, K J → (∀ y, y < 4 → J 29 y = sF.2 y) → GG G 9 0 0 X (qI (fun x I2 h2 => x = (bsA co hh (hh + 1) 0 (2147483647, I 29)).1 ∧ (∀ y, y < 4 → I2 29 y = (bsA co hh (hh + 1) 0 (2147483647, I 29)).2 y) ∧ K I2 ∧ h2 = h)) 92 [some (.ref 13), some (.int (nI hh)), some (.int sF.1), some (.int (nI a)), some (.int (nI b)), none, none] [] J h 0 0) → ∀ (k c : Nat) (s : Int32 × (Nat → Int32)) (J : It), c + k = hh - a - b + 1 → bsC co hh a b k c s = sF → K J → (∀ y, y < 4 → J 29 y = s.2 y) → GG G (9) 0 0 X (qI (fun x I2 h2 => x = (bsA co hh (hh + 1) 0 (2147483647, I 29)).1 ∧ (∀ y, y < 4 → I2 29 y = (bsA co hh (hh + 1) 0 (2147483647, I 29)).2 y) ∧ K I2 ∧ h2 = h)) 24 [some (.ref 13), some (.int (nI hh)), some (.int s.1), some (.int (nI a)), some (.int (nI b)), some (.int (nI c)), none] [] (J) (h) 0 0 := by
    intro a b ha hb sF kk k
    induction k using Nat.strongRecOn with | _ k ih => ?_
    intro c s J hk hv hK hbest
    refine g_iload_5 hX (dk DX0_bestSplit_0 16 rfl) ?_
    refine g_iload_1 hX (dk DX0_bestSplit_0 17 rfl) ?_
    refine g_iload_3 hX (dk DX0_bestSplit_0 18 rfl) ?_
    refine g_isub hX (dk DX0_bestSplit_0 19 rfl) ?_
    refine g_nmI (nI (hh - a)) (pk_sub (by omega)) ?_
    refine g_iload_4 hX (dk DX0_bestSplit_0 20 rfl) ?_
    refine g_isub hX (dk DX0_bestSplit_0 21 rfl) ?_
    refine g_nmI (nI (hh - a - b)) (pk_sub (by omega)) ?_
    refine g_icmp_gt (tgt := 92) hX (dk DX0_bestSplit_0 22 rfl) (by decide) (fun hc1 => ?_) (fun hc1 => ?_)
    · have hk0 := bs_end hk (by omega) hc1
      subst hk0
      subst hv
      exact g_fgt (kk J hK hbest) ⟨rfl, rfl, rfl, rfl, rfl, trivial⟩
    · obtain ⟨k, rfl⟩ := bs_go hk (by omega) hc1
      rw [bsC_s] at hv
      refine g_aload_0 hX (dk DX0_bestSplit_0 23 rfl) ?_
      refine g_iload_3 hX (dk DX0_bestSplit_0 24 rfl) ?_
      refine g_iload_4 hX (dk DX0_bestSplit_0 25 rfl) ?_
      refine g_iload_5 hX (dk DX0_bestSplit_0 26 rfl) ?_
      refine g_iload_1 hX (dk DX0_bestSplit_0 27 rfl) ?_
      refine g_iload_3 hX (dk DX0_bestSplit_0 28 rfl) ?_
      refine g_isub hX (dk DX0_bestSplit_0 29 rfl) ?_
      refine g_nmI (nI (hh - a)) (pk_sub (by omega)) ?_
      refine g_iload_4 hX (dk DX0_bestSplit_0 30 rfl) ?_
      refine g_isub hX (dk DX0_bestSplit_0 31 rfl) ?_
      refine g_nmI (nI (hh - a - b)) (pk_sub (by omega)) ?_
      refine g_iload_5 hX (dk DX0_bestSplit_0 32 rfl) ?_
      refine g_isub hX (dk DX0_bestSplit_0 33 rfl) ?_
      refine g_nmI (nI (hh - a - b - c)) (pk_sub (by omega)) ?_
      refine g_c5V hX sX0_bestSplit_50 (by decide) (Nat.le_of_ble_eq_true rfl) (rc0 rfl (CLt hH (by decide)) (CC hH 13 (by decide) rfl)) (by decide) (by decide) (c_X0_share hG hH) ?_
      refine g_aload_0 hX (dk DX0_bestSplit_0 35 rfl) ?_
      refine g_aload_0 hX (dk DX0_bestSplit_0 36 rfl) ?_
      refine g_getRs (r := 28) hX (dk DX0_bestSplit_0 37 rfl) KX0 fX0_28 (by decide) rfl (CLt hH (q := 13) (by decide)) (CC hH 13 (by decide) rfl) (CR hH 13 14 28 (by decide)) ?_
      refine g_c2q hX sX0_bestSplit_58 (hdd) (Nat.le_of_ble_eq_true rfl) (rc0 rfl (CLt hH (by decide)) (CC hH 13 (by decide) rfl)) (by decide) (by decide) (hco _ a b c (hh - a - b - c) (hKs _ _ _ (hKs _ _ _ (hKs _ _ _ (hKs _ _ _ hK)))) ⟨rfl, rfl, rfl, rfl⟩ (by omega)) ?_
      rintro _ J2 _ ⟨rfl, hK2, rfl, h28, h29⟩
      refine g_istore_6 hX (dk DX0_bestSplit_0 39 rfl) (by decide) rfl ?_
      refine g_iload_6 hX (dk DX0_bestSplit_0 40 rfl) ?_
      refine g_iload_2 hX (dk DX0_bestSplit_0 41 rfl) ?_
      refine g_icmp_ge (tgt := 86) hX (dk DX0_bestSplit_0 42 rfl) (by decide) (fun hc2 => ?_) (fun hc2 => ?_)
      · refine g_iinc_5 hX (dk DX0_bestSplit_0 53 rfl) (nI_1 c) (by decide) rfl ?_
        refine g_goto (tgt := 24) hX (dk DX0_bestSplit_0 54 rfl) (by decide) ?_
        first
        | exact g_fgt (ih k (by omega) (c + 1) (co a b c (hh - a - b - c), h4 a b c (hh - a - b - c)) _ (by omega) hv (hKc _ hK2) (fun y hy => (cpy_in hy).trans (by rw [h28]; exact h4_eq (a := a) (b := b) (c := c) (d := hh - a - b - c) rfl rfl rfl rfl y hy))) ⟨rfl, rfl, rfl, rfl, rfl, rfl, trivial⟩
        | exact g_fgt (ih k (by omega) (c + 1) s _ (by omega) (by rw [if_neg (Int32.not_lt.mpr (by assumption))] at hv; exact hv) hK2 (fun y hy => by rw [h29]; exact hbest y hy)) ⟨rfl, rfl, rfl, rfl, rfl, rfl, trivial⟩
      · have hlt : co a b c (hh - a - b - c) < s.1 := Int32.not_le.mp hc2
        rw [if_pos hlt] at hv
        refine g_iload_6 hX (dk DX0_bestSplit_0 43 rfl) ?_
        refine g_istore_2 hX (dk DX0_bestSplit_0 44 rfl) (by decide) rfl ?_
        refine g_aload_0 hX (dk DX0_bestSplit_0 45 rfl) ?_
        refine g_getRs (r := 28) hX (dk DX0_bestSplit_0 46 rfl) KX0 fX0_28 (by decide) rfl (CLt hH (q := 13) (by decide)) (CC hH 13 (by decide) rfl) (CR hH 13 14 28 (by decide)) ?_
        refine g_iconst (v := 0) hX (dk DX0_bestSplit_0 47 rfl) (by decide) ?_
        refine g_aload_0 hX (dk DX0_bestSplit_0 48 rfl) ?_
        refine g_getRs (r := 29) hX (dk DX0_bestSplit_0 49 rfl) KX0 fX0_31 (by decide) rfl (CLt hH (q := 13) (by decide)) (CC hH 13 (by decide) rfl) (CR hH 13 15 29 (by decide)) ?_
        refine g_iconst (v := 0) hX (dk DX0_bestSplit_0 50 rfl) (by decide) ?_
        refine g_iconst (v := 4) hX (dk DX0_bestSplit_0 51 rfl) (by decide) ?_
        refine g_copyI (sp := 0) (dp := 0) (m := 4) hX (dk DX0_bestSplit_0 52 rfl) (tg_4 2 rfl rfl) (tg_4 4 rfl rfl) (tg_4 3 rfl rfl) (tg_1 17 rfl rfl) (CLt hH (q := 28) (by decide)) (CS hH 28 (by decide) rfl) (CLt hH (q := 29) (by decide)) (CS hH 29 (by decide) rfl) (⟨rfl, rfl, rfl⟩) (⟨by decide, by decide⟩) (⟨by decide, by decide⟩) (by decide) (by decide) ?_
        refine g_iinc_5 hX (dk DX0_bestSplit_0 53 rfl) (nI_1 c) (by decide) rfl ?_
        refine g_goto (tgt := 24) hX (dk DX0_bestSplit_0 54 rfl) (by decide) ?_
        first
        | exact g_fgt (ih k (by omega) (c + 1) (co a b c (hh - a - b - c), h4 a b c (hh - a - b - c)) _ (by omega) hv (hKc _ hK2) (fun y hy => (cpy_in hy).trans (by rw [h28]; exact h4_eq (a := a) (b := b) (c := c) (d := hh - a - b - c) rfl rfl rfl rfl y hy))) ⟨rfl, rfl, rfl, rfl, rfl, rfl, trivial⟩
        | exact g_fgt (ih k (by omega) (c + 1) s _ (by omega) (by rw [if_neg (Int32.not_lt.mpr (by assumption))] at hv; exact hv) hK2 (fun y hy => by rw [h29]; exact hbest y hy)) ⟨rfl, rfl, rfl, rfl, rfl, rfl, trivial⟩
  have loop13 : ∀ a, a ≤ hh → ∀ (sF : Int32 × (Nat → Int32)), (∀ J, K J → (∀ y, y < 4 → J 29 y = sF.2 y) → GG G 9 0 0 X (qI (fun x I2 h2 => x = (bsA co hh (hh + 1) 0 (2147483647, I 29)).1 ∧ (∀ y, y < 4 → I2 29 y = (bsA co hh (hh + 1) 0 (2147483647, I 29)).2 y) ∧ K I2 ∧ h2 = h)) 98 [some (.ref 13), some (.int (nI hh)), some (.int sF.1), some (.int (nI a)), none, none, none] [] J h 0 0) → ∀ (k b : Nat) (s : Int32 × (Nat → Int32)) (J : It), b + k = hh - a + 1 → bsB co hh a k b s = sF → K J → (∀ y, y < 4 → J 29 y = s.2 y) → GG G (9) 0 0 X (qI (fun x I2 h2 => x = (bsA co hh (hh + 1) 0 (2147483647, I 29)).1 ∧ (∀ y, y < 4 → I2 29 y = (bsA co hh (hh + 1) 0 (2147483647, I 29)).2 y) ∧ K I2 ∧ h2 = h)) 13 [some (.ref 13), some (.int (nI hh)), some (.int s.1), some (.int (nI a)), some (.int (nI b)), none, none] [] (J) (h) 0 0 := by
    intro a ha sF kk k
    induction k using Nat.strongRecOn with | _ k ih => ?_
    intro b s J hk hv hK hbest
    refine g_iload_4 hX (dk DX0_bestSplit_0 9 rfl) ?_
    refine g_iload_1 hX (dk DX0_bestSplit_0 10 rfl) ?_
    refine g_iload_3 hX (dk DX0_bestSplit_0 11 rfl) ?_
    refine g_isub hX (dk DX0_bestSplit_0 12 rfl) ?_
    refine g_nmI (nI (hh - a)) (pk_sub (by omega)) ?_
    refine g_icmp_gt (tgt := 98) hX (dk DX0_bestSplit_0 13 rfl) (by decide) (fun hc1 => ?_) (fun hc1 => ?_)
    · have hk0 := bs_end hk (by omega) hc1
      subst hk0
      subst hv
      exact g_fgt (kk J hK hbest) ⟨rfl, rfl, rfl, rfl, trivial⟩
    · obtain ⟨k, rfl⟩ := bs_go hk (by omega) hc1
      rw [bsB_s] at hv
      refine g_iconst (v := 0) hX (dk DX0_bestSplit_0 14 rfl) (by decide) ?_
      refine g_istore_5 hX (dk DX0_bestSplit_0 15 rfl) (by decide) rfl ?_
      refine loop24 a b ha (by omega) (bsC co hh a b (hh - a - b + 1) 0 s) (fun J hK hbest => ?_) (hh - a - b + 1) 0 s J (Nat.zero_add _) rfl hK hbest
      · skip
        refine g_iinc_4 hX (dk DX0_bestSplit_0 55 rfl) (nI_1 b) (by decide) rfl ?_
        refine g_goto (tgt := 13) hX (dk DX0_bestSplit_0 56 rfl) (by decide) ?_
        exact ih k (by omega) (b + 1) _ _ (by omega) hv hK hbest
  have loop5 : ∀ (k a : Nat) (s : Int32 × (Nat → Int32)) (J : It), a + k = hh + 1 → bsA co hh k a s = bsA co hh (hh + 1) 0 (2147483647, I 29) → K J → (∀ y, y < 4 → J 29 y = s.2 y) → GG G (9) 0 0 X (qI (fun x I2 h2 => x = (bsA co hh (hh + 1) 0 (2147483647, I 29)).1 ∧ (∀ y, y < 4 → I2 29 y = (bsA co hh (hh + 1) 0 (2147483647, I 29)).2 y) ∧ K I2 ∧ h2 = h)) 5 [some (.ref 13), some (.int (nI hh)), some (.int s.1), some (.int (nI a)), none, none, none] [] (J) (h) 0 0 := by
    intro k
    induction k using Nat.strongRecOn with | _ k ih => ?_
    intro a s J hk hv hK hbest
    refine g_iload_3 hX (dk DX0_bestSplit_0 4 rfl) ?_
    refine g_iload_1 hX (dk DX0_bestSplit_0 5 rfl) ?_
    refine g_icmp_gt (tgt := 104) hX (dk DX0_bestSplit_0 6 rfl) (by decide) (fun hc1 => ?_) (fun hc1 => ?_)
    · refine g_iload_2 hX (dk DX0_bestSplit_0 59 rfl) ?_
      refine g_ireturn hX (dk DX0_bestSplit_1 0 rfl) rfl (rfl) (by decide) (by decide) ?_
      have hk0 := bs_end hk (by omega) hc1
      subst hk0
      exact qI_of ⟨congrArg Prod.fst hv, fun y hy => by rw [hbest y hy, ← hv]; rfl, hK, rfl⟩
    · obtain ⟨k, rfl⟩ := bs_go hk (by omega) hc1
      rw [bsA_s] at hv
      refine g_iconst (v := 0) hX (dk DX0_bestSplit_0 7 rfl) (by decide) ?_
      refine g_istore_4 hX (dk DX0_bestSplit_0 8 rfl) (by decide) rfl ?_
      refine loop13 a (by omega) (bsB co hh a (hh - a + 1) 0 s) (fun J hK hbest => ?_) (hh - a + 1) 0 s J (Nat.zero_add _) rfl hK hbest
      · skip
        refine g_iinc_3 hX (dk DX0_bestSplit_0 57 rfl) (nI_1 a) (by decide) rfl ?_
        refine g_goto (tgt := 5) hX (dk DX0_bestSplit_0 58 rfl) (by decide) ?_
        exact ih k (by omega) (a + 1) _ _ (by omega) hv hK hbest
  refine g_ldc (v := 2147483647) hX (dk DX0_bestSplit_0 0 rfl) (tg_3 231 rfl rfl) ?_
  refine g_istore_2 hX (dk DX0_bestSplit_0 1 rfl) (by decide) rfl ?_
  refine g_iconst (v := 0) hX (dk DX0_bestSplit_0 2 rfl) (by decide) ?_
  refine g_istore_3 hX (dk DX0_bestSplit_0 3 rfl) (by decide) rfl ?_
  exact loop5 (hh + 1) 0 (2147483647, I 29) I (Nat.zero_add _) rfl hK0 (fun _ _ => rfl)
end
section
/-! DOINGS of any of the seven classes -/
section DG
variable {G : Gt} {d mc ms : Nat} {own : String} {y : Mt} {X : Xt} {P : Pt3} {pc nx : Nat} {lo : List (Option Value)} {st : List Value} {I : It} {h : Ht} {k n : Nat}
theorem g_getD (hX : Xok G own y X) {idx j q : Nat} {v : Int32} (hd : dc y.2.1 pc (.getfield idx) 3 nx) (hl : Fln own RX1 TX1 idx j) (hj : j < 6) (hq : q < hn h) (hdc : isDC (hs h q).1) (hv : I q j = v) (kk : GG G d mc ms X P nx lo (.int v :: st) I h k n) : GG G d mc ms X P pc lo (.ref q :: st) I h k n := by
  subst hv
  rcases hdc with e | e | e | e | e | e | e
  · rcases (by omega : j = 0 ∨ j = 1 ∨ j = 2 ∨ j = 3 ∨ j = 4 ∨ j = 5) with rfl | rfl | rfl | rfl | rfl | rfl <;> exact g_getI hX hd KX1 hl hj rfl hq e kk
  · rcases (by omega : j = 0 ∨ j = 1 ∨ j = 2 ∨ j = 3 ∨ j = 4 ∨ j = 5) with rfl | rfl | rfl | rfl | rfl | rfl <;> exact g_getI (ref := RX1) hX hd KX2 hl hj rfl hq e kk
  · rcases (by omega : j = 0 ∨ j = 1 ∨ j = 2 ∨ j = 3 ∨ j = 4 ∨ j = 5) with rfl | rfl | rfl | rfl | rfl | rfl <;> exact g_getI (ref := RX1) hX hd KX4 hl hj rfl hq e kk
  · rcases (by omega : j = 0 ∨ j = 1 ∨ j = 2 ∨ j = 3 ∨ j = 4 ∨ j = 5) with rfl | rfl | rfl | rfl | rfl | rfl <;> exact g_getI (ref := RX1) hX hd KX6 hl hj rfl hq e kk
  · rcases (by omega : j = 0 ∨ j = 1 ∨ j = 2 ∨ j = 3 ∨ j = 4 ∨ j = 5) with rfl | rfl | rfl | rfl | rfl | rfl <;> exact g_getI (ref := RX1) hX hd KX8 hl hj rfl hq e kk
  · rcases (by omega : j = 0 ∨ j = 1 ∨ j = 2 ∨ j = 3 ∨ j = 4 ∨ j = 5) with rfl | rfl | rfl | rfl | rfl | rfl <;> exact g_getI (ref := RX1) hX hd KX9 hl hj rfl hq e kk
  · rcases (by omega : j = 0 ∨ j = 1 ∨ j = 2 ∨ j = 3 ∨ j = 4 ∨ j = 5) with rfl | rfl | rfl | rfl | rfl | rfl <;> exact g_getI (ref := RX1) hX hd KX10 hl hj rfl hq e kk
end DG
def knd (c : Nat) : Int32 := if c = 9 then 1 else if c = 2 then 2 else if c = 4 then 3 else if c = 8 then 4 else if c = 6 then 5 else if c = 10 then 6 else 0
/-- said over all ways: an hour's by is by, hours are hr -/
def svA (by_ hr : Nat → Int32) : Nat → Nat → Int32 → Int32 := fun k => match k with
  | 0 => fun _ z => z
  | k + 1 => fun y z => svA by_ hr k (y + 1) (z + hr y * by_ y)
theorem svA_s (by_ hr : Nat → Int32) (k y : Nat) (z : Int32) : svA by_ hr (k + 1) y z = svA by_ hr k (y + 1) (z + hr y * by_ y) := rfl
def svC (c : Nat) (v : Int32) (by_ hr : Nat → Int32) : Int32 :=
  if c = 9 then svA by_ hr 4 0 0 + v * hr 0 else if c = 8 then svA by_ hr 4 0 0 + v * hr 0 + (if 0 < hr 2 then v else 0) else if c = 2 then hr 2 * by_ 2 + hr 3 * by_ 3 else if c = 6 then hr 2 * by_ 2 + hr 3 * by_ 3 + 2 * v * hr 1
  else if c = 4 then (if hr 3 = 0 then 0 else svA by_ hr 4 0 0) else if c = 10 then (if hr 3 = 0 then 0 else svA by_ hr 4 0 0) - v else svA by_ hr 4 0 0
theorem svC_1 (v : Int32) (a b : Nat → Int32) : svC 1 v a b = svA a b 4 0 0 := rfl
theorem svC_9 (v : Int32) (a b : Nat → Int32) : svC 9 v a b = svA a b 4 0 0 + v * b 0 := rfl
theorem svC_8 (v : Int32) (a b : Nat → Int32) : svC 8 v a b = svA a b 4 0 0 + v * b 0 + (if 0 < b 2 then v else 0) := rfl
theorem svC_2 (v : Int32) (a b : Nat → Int32) : svC 2 v a b = b 2 * a 2 + b 3 * a 3 := rfl
theorem svC_6 (v : Int32) (a b : Nat → Int32) : svC 6 v a b = b 2 * a 2 + b 3 * a 3 + 2 * v * b 1 := rfl
theorem svC_4 (v : Int32) (a b : Nat → Int32) : svC 4 v a b = if b 3 = 0 then 0 else svA a b 4 0 0 := rfl
theorem svC_10 (v : Int32) (a b : Nat → Int32) : svC 10 v a b = (if b 3 = 0 then 0 else svA a b 4 0 0) - v := rfl
def kbC (c : Nat) : Int32 := if c = 10 then 0 else 1
def kbS (c : Nat) (v : Int32) : Int32 := if c = 2 ∨ c = 6 then bI (4 < v) else if c = 4 ∨ c = 10 then bI (v = 0) else 0
/-! acts -/
def tb1 (J : It) (b : Int32) : It := upI (if J 32 1 < 20 then upI J 33 (tN (J 32 1)) b else J) 32 1 (J 32 1 + 1)
def tbL (J : It) : List Int32 → It := fun l => match l with
  | [] => J
  | b :: r => tbL (tb1 J b) r
theorem tbL_app (J : It) (l m : List Int32) : tbL (tbL J l) m = tbL J (l ++ m) := by
  induction l generalizing J with
  | nil => rfl
  | cons b r ih => exact ih (tb1 J b)
theorem tbL_c (J : It) (b : Int32) (r : List Int32) : tbL J (b :: r) = tbL (tb1 J b) r := rfl
theorem tbL_1 (J : It) (b : Int32) : tbL J [b] = tb1 J b := rfl
theorem tbL_2 (J : It) (a b : Int32) : tbL J [a, b] = tb1 (tb1 J a) b := rfl
theorem tb1_ran (J : It) (b : Int32) {r : Nat} (h : J 32 1 = nI r) : tb1 J b 32 1 = nI (r + 1) := by
  unfold tb1
  rw [up0, h, nI_1]
theorem tb1_off (J : It) (b : Int32) {a : Nat} (h1 : a ≠ 32) (h2 : a ≠ 33) : tb1 J b a = J a := by
  unfold tb1
  rw [upI_off h1]
  split
  · rw [upI_off h2]
  · rfl
theorem tbL_ran : ∀ (l : List Int32) (J : It) {r : Nat}, J 32 1 = nI r → tbL J l 32 1 = nI (r + l.length) := by
  intro l
  induction l with
  | nil => intro J r h; exact h
  | cons b t ih =>
    intro J r h
    have := ih (tb1 J b) (tb1_ran J b h)
    rw [show r + (b :: t).length = r + 1 + t.length by simp only [List.length_cons]; omega]
    exact this
theorem tbL_off : ∀ (l : List Int32) (J : It) {a : Nat}, a ≠ 32 → a ≠ 33 → tbL J l a = J a := by
  intro l
  induction l with
  | nil => intro J a _ _; rfl
  | cons b t ih => intro J a h1 h2; exact (ih (tb1 J b) h1 h2).trans (tb1_off J b h1 h2)
def dsV (c : Nat) (i v x : Int32) : Int32 := if c = 2 ∨ c = 6 then x * 3 + i else if c = 8 then -(x + i) else if c = 10 then (x + i) ^^^ v else x + i
def dsB (c : Nat) : List Int32 := if c = 2 ∨ c = 6 then [30, 10] else if c = 8 then [50, 10] else if c = 10 then [71, 10] else [10]
def dkV (c : Nat) (i v x : Int32) : Int32 := dsV c i v x - v
def dhV (c : Nat) (i v x : Int32) : Int32 := if c = 9 then dkV c i v x ^^^ 6 else if c = 8 then dkV c i v (x + 1) ^^^ 6 else if c = 10 then dkV c i v x + (2 + i) else dkV c i v x
def dhB (c : Nat) : List Int32 := if c = 9 then 20 :: 11 :: dsB c else if c = 8 then 51 :: 20 :: 11 :: dsB c else if c = 10 then 70 :: ((11 :: dsB c) ++ [10]) else 11 :: dsB c
def dtV (c : Nat) (i v x : Int32) : Int32 := dhV c i v x * 2
def dtlV (c : Nat) (i v x : Int32) : Int32 := if c = 4 ∨ c = 10 then dtV c i v x + dhV c i v 1 else if c = 6 then dtV c i v (x - i) else dtV c i v x
def dtlB (c : Nat) : List Int32 := if c = 4 ∨ c = 10 then 40 :: ((12 :: dhB c) ++ dhB c) else if c = 6 then 60 :: 12 :: dhB c else 12 :: dhB c
theorem dsB_len (c : Nat) : (dsB c).length ≤ 2 := by unfold dsB; split <;> (try split) <;> (try split) <;> simp
theorem dhB_len (c : Nat) : (dhB c).length ≤ 5 := by have := dsB_len c; unfold dhB; split <;> (try split) <;> (try split) <;> (try simp only [List.length_cons, List.length_append, List.length_nil]) <;> omega
theorem dtlB_len (c : Nat) : (dtlB c).length ≤ 12 := by have := dhB_len c; unfold dtlB; split <;> (try split) <;> (try simp only [List.length_cons, List.length_append, List.length_nil]) <;> omega

def vm_saidOver : Nat → Mt := fun c => if c = 2 then mX2_saidOver else if c = 4 then mX4_saidOver else if c = 6 then mX6_saidOver else if c = 8 then mX8_saidOver else if c = 9 then mX9_saidOver else if c = 10 then mX10_saidOver else mX1_saidOver
def vm_isKnownByCall : Nat → Mt := fun c => if c = 2 then mX1_isKnownByCall else if c = 4 then mX1_isKnownByCall else if c = 6 then mX1_isKnownByCall else if c = 8 then mX1_isKnownByCall else if c = 9 then mX1_isKnownByCall else if c = 10 then mX10_isKnownByCall else mX1_isKnownByCall
def vm_isKnownByStop : Nat → Mt := fun c => if c = 2 then mX2_isKnownByStop else if c = 4 then mX4_isKnownByStop else if c = 6 then mX2_isKnownByStop else if c = 8 then mX1_isKnownByStop else if c = 9 then mX1_isKnownByStop else if c = 10 then mX4_isKnownByStop else mX1_isKnownByStop
def vm_says : Nat → Mt := fun c => if c = 2 then mX2_says else if c = 4 then mX1_says else if c = 6 then mX2_says else if c = 8 then mX8_says else if c = 9 then mX1_says else if c = 10 then mX10_says else mX1_says
def vm_holds : Nat → Mt := fun c => if c = 2 then mX1_holds else if c = 4 then mX1_holds else if c = 6 then mX1_holds else if c = 8 then mX8_holds else if c = 9 then mX9_holds else if c = 10 then mX10_holds else mX1_holds
def vm_kind : Nat → Mt := fun c => if c = 2 then mX2_kind else if c = 4 then mX4_kind else if c = 6 then mX6_kind else if c = 8 then mX8_kind else if c = 9 then mX9_kind else if c = 10 then mX10_kind else mX1_kind
def vm_weeksUntil : Nat → Mt := fun c => if c = 2 then mX1_weeksUntil else if c = 4 then mX1_weeksUntil else if c = 6 then mX1_weeksUntil else if c = 8 then mX1_weeksUntil else if c = 9 then mX1_weeksUntil else if c = 10 then mX1_weeksUntil else mX1_weeksUntil
def vm_tells : Nat → Mt := fun c => if c = 2 then mX1_tells else if c = 4 then mX4_tells else if c = 6 then mX6_tells else if c = 8 then mX1_tells else if c = 9 then mX1_tells else if c = 10 then mX4_tells else mX1_tells
theorem sD_X0_saidOf_22 : ∀ c, isDC c → Site RX0 mX0_saidOf 22 25 (vm_saidOver c) (some c) 3 := by
  rintro c (rfl | rfl | rfl | rfl | rfl | rfl | rfl)
  · exact sX0_saidOf_22_c1
  · exact sX0_saidOf_22_c2
  · exact sX0_saidOf_22_c4
  · exact sX0_saidOf_22_c6
  · exact sX0_saidOf_22_c8
  · exact sX0_saidOf_22_c9
  · exact sX0_saidOf_22_c10
theorem sD_X0_goingOver_39 : ∀ c, isDC c → Site RX0 mX0_goingOver 39 42 (vm_saidOver c) (some c) 3 := by
  rintro c (rfl | rfl | rfl | rfl | rfl | rfl | rfl)
  · exact sX0_goingOver_39_c1
  · exact sX0_goingOver_39_c2
  · exact sX0_goingOver_39_c4
  · exact sX0_goingOver_39_c6
  · exact sX0_goingOver_39_c8
  · exact sX0_goingOver_39_c9
  · exact sX0_goingOver_39_c10
theorem sD_X0_stop_119 : ∀ c, isDC c → Site RX0 mX0_stop 119 122 (vm_isKnownByCall c) (some c) 1 := by
  rintro c (rfl | rfl | rfl | rfl | rfl | rfl | rfl)
  · exact sX0_stop_119_c1
  · exact sX0_stop_119_c2
  · exact sX0_stop_119_c4
  · exact sX0_stop_119_c6
  · exact sX0_stop_119_c8
  · exact sX0_stop_119_c9
  · exact sX0_stop_119_c10
theorem sD_X0_stop_129 : ∀ c, isDC c → Site RX0 mX0_stop 129 132 (vm_isKnownByStop c) (some c) 1 := by
  rintro c (rfl | rfl | rfl | rfl | rfl | rfl | rfl)
  · exact sX0_stop_129_c1
  · exact sX0_stop_129_c2
  · exact sX0_stop_129_c4
  · exact sX0_stop_129_c6
  · exact sX0_stop_129_c8
  · exact sX0_stop_129_c9
  · exact sX0_stop_129_c10
theorem sD_X1_holds_9 : ∀ c, isDC c → Site RX1 mX1_holds 9 12 (vm_says c) (some c) 3 := by
  rintro c (rfl | rfl | rfl | rfl | rfl | rfl | rfl)
  · exact sX1_holds_9_c1
  · exact sX1_holds_9_c2
  · exact sX1_holds_9_c4
  · exact sX1_holds_9_c6
  · exact sX1_holds_9_c8
  · exact sX1_holds_9_c9
  · exact sX1_holds_9_c10
theorem sD_X1_tells_9 : ∀ c, isDC c → Site RX1 mX1_tells 9 12 (vm_holds c) (some c) 3 := by
  rintro c (rfl | rfl | rfl | rfl | rfl | rfl | rfl)
  · exact sX1_tells_9_c1
  · exact sX1_tells_9_c2
  · exact sX1_tells_9_c4
  · exact sX1_tells_9_c6
  · exact sX1_tells_9_c8
  · exact sX1_tells_9_c9
  · exact sX1_tells_9_c10
theorem sD_X3_passes_78 : ∀ c, isDC c → Site RX3 mX3_passes 78 81 (vm_kind c) (some c) 1 := by
  rintro c (rfl | rfl | rfl | rfl | rfl | rfl | rfl)
  · exact sX3_passes_78_c1
  · exact sX3_passes_78_c2
  · exact sX3_passes_78_c4
  · exact sX3_passes_78_c6
  · exact sX3_passes_78_c8
  · exact sX3_passes_78_c9
  · exact sX3_passes_78_c10
theorem sD_X5_coming_27 : ∀ c, isDC c → Site RX5 mX5_coming 27 30 (vm_weeksUntil c) (some c) 2 := by
  rintro c (rfl | rfl | rfl | rfl | rfl | rfl | rfl)
  · exact sX5_coming_27_c1
  · exact sX5_coming_27_c2
  · exact sX5_coming_27_c4
  · exact sX5_coming_27_c6
  · exact sX5_coming_27_c8
  · exact sX5_coming_27_c9
  · exact sX5_coming_27_c10
theorem sD_X5_longestWait_40 : ∀ c, isDC c → Site RX5 mX5_longestWait 40 43 (vm_weeksUntil c) (some c) 2 := by
  rintro c (rfl | rfl | rfl | rfl | rfl | rfl | rfl)
  · exact sX5_longestWait_40_c1
  · exact sX5_longestWait_40_c2
  · exact sX5_longestWait_40_c4
  · exact sX5_longestWait_40_c6
  · exact sX5_longestWait_40_c8
  · exact sX5_longestWait_40_c9
  · exact sX5_longestWait_40_c10
theorem sD_X11_of_81 : ∀ c, isDC c → Site RX11 mX11_of 81 84 (vm_kind c) (some c) 1 := by
  rintro c (rfl | rfl | rfl | rfl | rfl | rfl | rfl)
  · exact sX11_of_81_c1
  · exact sX11_of_81_c2
  · exact sX11_of_81_c4
  · exact sX11_of_81_c6
  · exact sX11_of_81_c8
  · exact sX11_of_81_c9
  · exact sX11_of_81_c10
theorem sD_X11_when_32 : ∀ c, isDC c → Site RX11 mX11_when 32 35 (vm_weeksUntil c) (some c) 2 := by
  rintro c (rfl | rfl | rfl | rfl | rfl | rfl | rfl)
  · exact sX11_when_32_c1
  · exact sX11_when_32_c2
  · exact sX11_when_32_c4
  · exact sX11_when_32_c6
  · exact sX11_when_32_c8
  · exact sX11_when_32_c9
  · exact sX11_when_32_c10
theorem sD_X11_chance_83 : ∀ c, isDC c → Site RX11 mX11_chance 83 86 (vm_weeksUntil c) (some c) 2 := by
  rintro c (rfl | rfl | rfl | rfl | rfl | rfl | rfl)
  · exact sX11_chance_83_c1
  · exact sX11_chance_83_c2
  · exact sX11_chance_83_c4
  · exact sX11_chance_83_c6
  · exact sX11_chance_83_c8
  · exact sX11_chance_83_c9
  · exact sX11_chance_83_c10
theorem sD_X11_act_59 : ∀ c, isDC c → Site RX11 mX11_act 59 62 (vm_says c) (some c) 3 := by
  rintro c (rfl | rfl | rfl | rfl | rfl | rfl | rfl)
  · exact sX11_act_59_c1
  · exact sX11_act_59_c2
  · exact sX11_act_59_c4
  · exact sX11_act_59_c6
  · exact sX11_act_59_c8
  · exact sX11_act_59_c9
  · exact sX11_act_59_c10
theorem sD_X11_act_70 : ∀ c, isDC c → Site RX11 mX11_act 70 73 (vm_holds c) (some c) 3 := by
  rintro c (rfl | rfl | rfl | rfl | rfl | rfl | rfl)
  · exact sX11_act_70_c1
  · exact sX11_act_70_c2
  · exact sX11_act_70_c4
  · exact sX11_act_70_c6
  · exact sX11_act_70_c8
  · exact sX11_act_70_c9
  · exact sX11_act_70_c10
theorem sD_X11_act_81 : ∀ c, isDC c → Site RX11 mX11_act 81 84 (vm_tells c) (some c) 3 := by
  rintro c (rfl | rfl | rfl | rfl | rfl | rfl | rfl)
  · exact sX11_act_81_c1
  · exact sX11_act_81_c2
  · exact sX11_act_81_c4
  · exact sX11_act_81_c6
  · exact sX11_act_81_c8
  · exact sX11_act_81_c9
  · exact sX11_act_81_c10
theorem sD_X11_taken_38 : ∀ c, isDC c → Site RX11 mX11_taken 38 41 (vm_kind c) (some c) 1 := by
  rintro c (rfl | rfl | rfl | rfl | rfl | rfl | rfl)
  · exact sX11_taken_38_c1
  · exact sX11_taken_38_c2
  · exact sX11_taken_38_c4
  · exact sX11_taken_38_c6
  · exact sX11_taken_38_c8
  · exact sX11_taken_38_c9
  · exact sX11_taken_38_c10
end
section
set_option maxRecDepth 8000 in
set_option maxHeartbeats 4000000 in
theorem cv_kind_1 {G : Gt} (hG : Gok G) {I : It} {h : Ht}  {q : Nat}  (hq : q < hn h) (hcl : (hs h q).1 = 1) : Con G (1) 0 0 mX1_kind [.ref q] I h (rI (knd 1) I h) := by
  refine con_intro (own := RX1) (lo0 := [some (.ref q)]) hG rfl pl_X1 (Nat.le_of_ble_eq_true rfl) rfl (fun X hX => ?_)
  refine g_iconst (v := 0) hX (dk DX1_kind 0 rfl) (by decide) ?_
  refine g_ireturn hX (dk DX1_kind 1 rfl) rfl (rfl) (by decide) (by decide) ?_
  exact rI_of rfl rfl rfl

set_option maxRecDepth 8000 in
set_option maxHeartbeats 4000000 in
theorem cv_kind_2 {G : Gt} (hG : Gok G) {I : It} {h : Ht}  {q : Nat}  (hq : q < hn h) (hcl : (hs h q).1 = 2) : Con G (1) 0 0 mX2_kind [.ref q] I h (rI (knd 2) I h) := by
  refine con_intro (own := RX2) (lo0 := [some (.ref q)]) hG rfl pl_X2 (Nat.le_of_ble_eq_true rfl) rfl (fun X hX => ?_)
  refine g_iconst (v := 2) hX (dk DX2_kind 0 rfl) (by decide) ?_
  refine g_ireturn hX (dk DX2_kind 1 rfl) rfl (rfl) (by decide) (by decide) ?_
  exact rI_of rfl rfl rfl

set_option maxRecDepth 8000 in
set_option maxHeartbeats 4000000 in
theorem cv_kind_4 {G : Gt} (hG : Gok G) {I : It} {h : Ht}  {q : Nat}  (hq : q < hn h) (hcl : (hs h q).1 = 4) : Con G (1) 0 0 mX4_kind [.ref q] I h (rI (knd 4) I h) := by
  refine con_intro (own := RX4) (lo0 := [some (.ref q)]) hG rfl pl_X4 (Nat.le_of_ble_eq_true rfl) rfl (fun X hX => ?_)
  refine g_iconst (v := 3) hX (dk DX4_kind 0 rfl) (by decide) ?_
  refine g_ireturn hX (dk DX4_kind 1 rfl) rfl (rfl) (by decide) (by decide) ?_
  exact rI_of rfl rfl rfl

set_option maxRecDepth 8000 in
set_option maxHeartbeats 4000000 in
theorem cv_kind_6 {G : Gt} (hG : Gok G) {I : It} {h : Ht}  {q : Nat}  (hq : q < hn h) (hcl : (hs h q).1 = 6) : Con G (1) 0 0 mX6_kind [.ref q] I h (rI (knd 6) I h) := by
  refine con_intro (own := RX6) (lo0 := [some (.ref q)]) hG rfl pl_X6 (Nat.le_of_ble_eq_true rfl) rfl (fun X hX => ?_)
  refine g_iconst (v := 5) hX (dk DX6_kind 0 rfl) (by decide) ?_
  refine g_ireturn hX (dk DX6_kind 1 rfl) rfl (rfl) (by decide) (by decide) ?_
  exact rI_of rfl rfl rfl

set_option maxRecDepth 8000 in
set_option maxHeartbeats 4000000 in
theorem cv_kind_8 {G : Gt} (hG : Gok G) {I : It} {h : Ht}  {q : Nat}  (hq : q < hn h) (hcl : (hs h q).1 = 8) : Con G (1) 0 0 mX8_kind [.ref q] I h (rI (knd 8) I h) := by
  refine con_intro (own := RX8) (lo0 := [some (.ref q)]) hG rfl pl_X8 (Nat.le_of_ble_eq_true rfl) rfl (fun X hX => ?_)
  refine g_iconst (v := 4) hX (dk DX8_kind 0 rfl) (by decide) ?_
  refine g_ireturn hX (dk DX8_kind 1 rfl) rfl (rfl) (by decide) (by decide) ?_
  exact rI_of rfl rfl rfl

set_option maxRecDepth 8000 in
set_option maxHeartbeats 4000000 in
theorem cv_kind_9 {G : Gt} (hG : Gok G) {I : It} {h : Ht}  {q : Nat}  (hq : q < hn h) (hcl : (hs h q).1 = 9) : Con G (1) 0 0 mX9_kind [.ref q] I h (rI (knd 9) I h) := by
  refine con_intro (own := RX9) (lo0 := [some (.ref q)]) hG rfl pl_X9 (Nat.le_of_ble_eq_true rfl) rfl (fun X hX => ?_)
  refine g_iconst (v := 1) hX (dk DX9_kind 0 rfl) (by decide) ?_
  refine g_ireturn hX (dk DX9_kind 1 rfl) rfl (rfl) (by decide) (by decide) ?_
  exact rI_of rfl rfl rfl

set_option maxRecDepth 8000 in
set_option maxHeartbeats 4000000 in
theorem cv_kind_10 {G : Gt} (hG : Gok G) {I : It} {h : Ht}  {q : Nat}  (hq : q < hn h) (hcl : (hs h q).1 = 10) : Con G (1) 0 0 mX10_kind [.ref q] I h (rI (knd 10) I h) := by
  refine con_intro (own := RX10) (lo0 := [some (.ref q)]) hG rfl pl_X10 (Nat.le_of_ble_eq_true rfl) rfl (fun X hX => ?_)
  refine g_bipush (v := 6) hX (dk DX10_kind 0 rfl) (by decide) ?_
  refine g_ireturn hX (dk DX10_kind 1 rfl) rfl (rfl) (by decide) (by decide) ?_
  exact rI_of rfl rfl rfl

theorem cD_kind {G : Gt} (hG : Gok G) {I : It} {h : Ht} {q : Nat}  (hq : q < hn h) (hdc : isDC (hs h q).1) : Con G 1 0 0 (vm_kind (hs h q).1) [.ref q] I h (rI (knd (hs h q).1) I h) := by
  rcases hdc with e | e | e | e | e | e | e <;> rw [e]
  · exact cv_kind_1 hG hq e
  · exact cv_kind_2 hG hq e
  · exact cv_kind_4 hG hq e
  · exact cv_kind_6 hG hq e
  · exact cv_kind_8 hG hq e
  · exact cv_kind_9 hG hq e
  · exact cv_kind_10 hG hq e
set_option maxRecDepth 8000 in
set_option maxHeartbeats 4000000 in
theorem cv_weeksUntil_1 {G : Gt} (hG : Gok G) {I : It} {h : Ht}  {q : Nat} {w : Int32} (hq : q < hn h) (hcl : (hs h q).1 = 1) (hr : I q 2 ≠ 0) : Con G (2) 0 0 mX1_weeksUntil [.ref q, .int w] I h (rI (fmI (I q 3 - w) (I q 2)) I h) := by
  refine con_intro (own := RX1) (lo0 := [some (.ref q), some (.int w)]) hG rfl pl_X1 (Nat.le_of_ble_eq_true rfl) rfl (fun X hX => ?_)
  refine g_aload_0 hX (dk DX1_weeksUntil 0 rfl) ?_
  refine g_getI hX (dk DX1_weeksUntil 1 rfl) KX1 fX1_27 (by decide) rfl hq hcl ?_
  refine g_iload_1 hX (dk DX1_weeksUntil 2 rfl) ?_
  refine g_isub hX (dk DX1_weeksUntil 3 rfl) ?_
  refine g_aload_0 hX (dk DX1_weeksUntil 4 rfl) ?_
  refine g_getI hX (dk DX1_weeksUntil 5 rfl) KX1 fX1_24 (by decide) rfl hq hcl ?_
  refine g_c2I hX sX1_weeksUntil_10 (by decide) (Nat.le_of_ble_eq_true rfl) rcN (by decide) (by decide) (c_J9_floorMod_7cf53 hG hr) ?_
  refine g_ireturn hX (dk DX1_weeksUntil 7 rfl) rfl (rfl) (by decide) (by decide) ?_
  exact rI_of rfl rfl rfl

set_option maxRecDepth 8000 in
set_option maxHeartbeats 4000000 in
theorem cv_weeksUntil_2 {G : Gt} (hG : Gok G) {I : It} {h : Ht}  {q : Nat} {w : Int32} (hq : q < hn h) (hcl : (hs h q).1 = 2) (hr : I q 2 ≠ 0) : Con G (2) 0 0 mX1_weeksUntil [.ref q, .int w] I h (rI (fmI (I q 3 - w) (I q 2)) I h) := by
  refine con_intro (own := RX1) (lo0 := [some (.ref q), some (.int w)]) hG rfl pl_X1 (Nat.le_of_ble_eq_true rfl) rfl (fun X hX => ?_)
  refine g_aload_0 hX (dk DX1_weeksUntil 0 rfl) ?_
  refine g_getI hX (dk DX1_weeksUntil 1 rfl) KX2 fX1_27 (by decide) rfl hq hcl ?_
  refine g_iload_1 hX (dk DX1_weeksUntil 2 rfl) ?_
  refine g_isub hX (dk DX1_weeksUntil 3 rfl) ?_
  refine g_aload_0 hX (dk DX1_weeksUntil 4 rfl) ?_
  refine g_getI hX (dk DX1_weeksUntil 5 rfl) KX2 fX1_24 (by decide) rfl hq hcl ?_
  refine g_c2I hX sX1_weeksUntil_10 (by decide) (Nat.le_of_ble_eq_true rfl) rcN (by decide) (by decide) (c_J9_floorMod_7cf53 hG hr) ?_
  refine g_ireturn hX (dk DX1_weeksUntil 7 rfl) rfl (rfl) (by decide) (by decide) ?_
  exact rI_of rfl rfl rfl

set_option maxRecDepth 8000 in
set_option maxHeartbeats 4000000 in
theorem cv_weeksUntil_4 {G : Gt} (hG : Gok G) {I : It} {h : Ht}  {q : Nat} {w : Int32} (hq : q < hn h) (hcl : (hs h q).1 = 4) (hr : I q 2 ≠ 0) : Con G (2) 0 0 mX1_weeksUntil [.ref q, .int w] I h (rI (fmI (I q 3 - w) (I q 2)) I h) := by
  refine con_intro (own := RX1) (lo0 := [some (.ref q), some (.int w)]) hG rfl pl_X1 (Nat.le_of_ble_eq_true rfl) rfl (fun X hX => ?_)
  refine g_aload_0 hX (dk DX1_weeksUntil 0 rfl) ?_
  refine g_getI hX (dk DX1_weeksUntil 1 rfl) KX4 fX1_27 (by decide) rfl hq hcl ?_
  refine g_iload_1 hX (dk DX1_weeksUntil 2 rfl) ?_
  refine g_isub hX (dk DX1_weeksUntil 3 rfl) ?_
  refine g_aload_0 hX (dk DX1_weeksUntil 4 rfl) ?_
  refine g_getI hX (dk DX1_weeksUntil 5 rfl) KX4 fX1_24 (by decide) rfl hq hcl ?_
  refine g_c2I hX sX1_weeksUntil_10 (by decide) (Nat.le_of_ble_eq_true rfl) rcN (by decide) (by decide) (c_J9_floorMod_7cf53 hG hr) ?_
  refine g_ireturn hX (dk DX1_weeksUntil 7 rfl) rfl (rfl) (by decide) (by decide) ?_
  exact rI_of rfl rfl rfl

set_option maxRecDepth 8000 in
set_option maxHeartbeats 4000000 in
theorem cv_weeksUntil_6 {G : Gt} (hG : Gok G) {I : It} {h : Ht}  {q : Nat} {w : Int32} (hq : q < hn h) (hcl : (hs h q).1 = 6) (hr : I q 2 ≠ 0) : Con G (2) 0 0 mX1_weeksUntil [.ref q, .int w] I h (rI (fmI (I q 3 - w) (I q 2)) I h) := by
  refine con_intro (own := RX1) (lo0 := [some (.ref q), some (.int w)]) hG rfl pl_X1 (Nat.le_of_ble_eq_true rfl) rfl (fun X hX => ?_)
  refine g_aload_0 hX (dk DX1_weeksUntil 0 rfl) ?_
  refine g_getI hX (dk DX1_weeksUntil 1 rfl) KX6 fX1_27 (by decide) rfl hq hcl ?_
  refine g_iload_1 hX (dk DX1_weeksUntil 2 rfl) ?_
  refine g_isub hX (dk DX1_weeksUntil 3 rfl) ?_
  refine g_aload_0 hX (dk DX1_weeksUntil 4 rfl) ?_
  refine g_getI hX (dk DX1_weeksUntil 5 rfl) KX6 fX1_24 (by decide) rfl hq hcl ?_
  refine g_c2I hX sX1_weeksUntil_10 (by decide) (Nat.le_of_ble_eq_true rfl) rcN (by decide) (by decide) (c_J9_floorMod_7cf53 hG hr) ?_
  refine g_ireturn hX (dk DX1_weeksUntil 7 rfl) rfl (rfl) (by decide) (by decide) ?_
  exact rI_of rfl rfl rfl

set_option maxRecDepth 8000 in
set_option maxHeartbeats 4000000 in
theorem cv_weeksUntil_8 {G : Gt} (hG : Gok G) {I : It} {h : Ht}  {q : Nat} {w : Int32} (hq : q < hn h) (hcl : (hs h q).1 = 8) (hr : I q 2 ≠ 0) : Con G (2) 0 0 mX1_weeksUntil [.ref q, .int w] I h (rI (fmI (I q 3 - w) (I q 2)) I h) := by
  refine con_intro (own := RX1) (lo0 := [some (.ref q), some (.int w)]) hG rfl pl_X1 (Nat.le_of_ble_eq_true rfl) rfl (fun X hX => ?_)
  refine g_aload_0 hX (dk DX1_weeksUntil 0 rfl) ?_
  refine g_getI hX (dk DX1_weeksUntil 1 rfl) KX8 fX1_27 (by decide) rfl hq hcl ?_
  refine g_iload_1 hX (dk DX1_weeksUntil 2 rfl) ?_
  refine g_isub hX (dk DX1_weeksUntil 3 rfl) ?_
  refine g_aload_0 hX (dk DX1_weeksUntil 4 rfl) ?_
  refine g_getI hX (dk DX1_weeksUntil 5 rfl) KX8 fX1_24 (by decide) rfl hq hcl ?_
  refine g_c2I hX sX1_weeksUntil_10 (by decide) (Nat.le_of_ble_eq_true rfl) rcN (by decide) (by decide) (c_J9_floorMod_7cf53 hG hr) ?_
  refine g_ireturn hX (dk DX1_weeksUntil 7 rfl) rfl (rfl) (by decide) (by decide) ?_
  exact rI_of rfl rfl rfl

set_option maxRecDepth 8000 in
set_option maxHeartbeats 4000000 in
theorem cv_weeksUntil_9 {G : Gt} (hG : Gok G) {I : It} {h : Ht}  {q : Nat} {w : Int32} (hq : q < hn h) (hcl : (hs h q).1 = 9) (hr : I q 2 ≠ 0) : Con G (2) 0 0 mX1_weeksUntil [.ref q, .int w] I h (rI (fmI (I q 3 - w) (I q 2)) I h) := by
  refine con_intro (own := RX1) (lo0 := [some (.ref q), some (.int w)]) hG rfl pl_X1 (Nat.le_of_ble_eq_true rfl) rfl (fun X hX => ?_)
  refine g_aload_0 hX (dk DX1_weeksUntil 0 rfl) ?_
  refine g_getI hX (dk DX1_weeksUntil 1 rfl) KX9 fX1_27 (by decide) rfl hq hcl ?_
  refine g_iload_1 hX (dk DX1_weeksUntil 2 rfl) ?_
  refine g_isub hX (dk DX1_weeksUntil 3 rfl) ?_
  refine g_aload_0 hX (dk DX1_weeksUntil 4 rfl) ?_
  refine g_getI hX (dk DX1_weeksUntil 5 rfl) KX9 fX1_24 (by decide) rfl hq hcl ?_
  refine g_c2I hX sX1_weeksUntil_10 (by decide) (Nat.le_of_ble_eq_true rfl) rcN (by decide) (by decide) (c_J9_floorMod_7cf53 hG hr) ?_
  refine g_ireturn hX (dk DX1_weeksUntil 7 rfl) rfl (rfl) (by decide) (by decide) ?_
  exact rI_of rfl rfl rfl

set_option maxRecDepth 8000 in
set_option maxHeartbeats 4000000 in
theorem cv_weeksUntil_10 {G : Gt} (hG : Gok G) {I : It} {h : Ht}  {q : Nat} {w : Int32} (hq : q < hn h) (hcl : (hs h q).1 = 10) (hr : I q 2 ≠ 0) : Con G (2) 0 0 mX1_weeksUntil [.ref q, .int w] I h (rI (fmI (I q 3 - w) (I q 2)) I h) := by
  refine con_intro (own := RX1) (lo0 := [some (.ref q), some (.int w)]) hG rfl pl_X1 (Nat.le_of_ble_eq_true rfl) rfl (fun X hX => ?_)
  refine g_aload_0 hX (dk DX1_weeksUntil 0 rfl) ?_
  refine g_getI hX (dk DX1_weeksUntil 1 rfl) KX10 fX1_27 (by decide) rfl hq hcl ?_
  refine g_iload_1 hX (dk DX1_weeksUntil 2 rfl) ?_
  refine g_isub hX (dk DX1_weeksUntil 3 rfl) ?_
  refine g_aload_0 hX (dk DX1_weeksUntil 4 rfl) ?_
  refine g_getI hX (dk DX1_weeksUntil 5 rfl) KX10 fX1_24 (by decide) rfl hq hcl ?_
  refine g_c2I hX sX1_weeksUntil_10 (by decide) (Nat.le_of_ble_eq_true rfl) rcN (by decide) (by decide) (c_J9_floorMod_7cf53 hG hr) ?_
  refine g_ireturn hX (dk DX1_weeksUntil 7 rfl) rfl (rfl) (by decide) (by decide) ?_
  exact rI_of rfl rfl rfl

theorem cD_weeksUntil {G : Gt} (hG : Gok G) {I : It} {h : Ht} {q : Nat} {w : Int32} (hq : q < hn h) (hdc : isDC (hs h q).1) (hr : I q 2 ≠ 0) : Con G 2 0 0 (vm_weeksUntil (hs h q).1) [.ref q, .int w] I h (rI (fmI (I q 3 - w) (I q 2)) I h) := by
  rcases hdc with e | e | e | e | e | e | e <;> rw [e]
  · exact cv_weeksUntil_1 hG hq e hr
  · exact cv_weeksUntil_2 hG hq e hr
  · exact cv_weeksUntil_4 hG hq e hr
  · exact cv_weeksUntil_6 hG hq e hr
  · exact cv_weeksUntil_8 hG hq e hr
  · exact cv_weeksUntil_9 hG hq e hr
  · exact cv_weeksUntil_10 hG hq e hr
set_option maxRecDepth 8000 in
set_option maxHeartbeats 4000000 in
theorem cv_isKnownByCall_1 {G : Gt} (hG : Gok G) {I : It} {h : Ht}  {q : Nat}  (hq : q < hn h) (hcl : (hs h q).1 = 1) : Con G (1) 0 0 mX1_isKnownByCall [.ref q] I h (rI (kbC 1) I h) := by
  refine con_intro (own := RX1) (lo0 := [some (.ref q)]) hG rfl pl_X1 (Nat.le_of_ble_eq_true rfl) rfl (fun X hX => ?_)
  refine g_iconst (v := 1) hX (dk DX1_isKnownByCall 0 rfl) (by decide) ?_
  refine g_ireturn hX (dk DX1_isKnownByCall 1 rfl) rfl (by decide) (by decide) (by decide) ?_
  exact rI_of rfl rfl rfl

set_option maxRecDepth 8000 in
set_option maxHeartbeats 4000000 in
theorem cv_isKnownByStop_1 {G : Gt} (hG : Gok G) {I : It} {h : Ht}  {q : Nat}  (hq : q < hn h) (hcl : (hs h q).1 = 1) : Con G (1) 0 0 mX1_isKnownByStop [.ref q] I h (rI (kbS 1 (I q 1)) I h) := by
  refine con_intro (own := RX1) (lo0 := [some (.ref q)]) hG rfl pl_X1 (Nat.le_of_ble_eq_true rfl) rfl (fun X hX => ?_)
  refine g_iconst (v := 0) hX (dk DX1_isKnownByStop 0 rfl) (by decide) ?_
  refine g_ireturn hX (dk DX1_isKnownByStop 1 rfl) rfl (by decide) (by decide) (by decide) ?_
  exact rI_of (by unfold kbS; first | rfl | (rw [if_neg (by decide), if_pos (by decide)]; exact (bI_t (by assumption)).symm) | (rw [if_neg (by decide), if_pos (by decide)]; exact (bI_f (by assumption)).symm) | (rw [if_pos (by decide)]; exact (bI_f (Int32.not_lt.mpr (by assumption))).symm) | (rw [if_pos (by decide)]; exact (bI_t (Int32.not_le.mp (by assumption))).symm)) rfl rfl

set_option maxRecDepth 8000 in
set_option maxHeartbeats 4000000 in
theorem cv_isKnownByCall_2 {G : Gt} (hG : Gok G) {I : It} {h : Ht}  {q : Nat}  (hq : q < hn h) (hcl : (hs h q).1 = 2) : Con G (1) 0 0 mX1_isKnownByCall [.ref q] I h (rI (kbC 2) I h) := by
  refine con_intro (own := RX1) (lo0 := [some (.ref q)]) hG rfl pl_X1 (Nat.le_of_ble_eq_true rfl) rfl (fun X hX => ?_)
  refine g_iconst (v := 1) hX (dk DX1_isKnownByCall 0 rfl) (by decide) ?_
  refine g_ireturn hX (dk DX1_isKnownByCall 1 rfl) rfl (by decide) (by decide) (by decide) ?_
  exact rI_of rfl rfl rfl

set_option maxRecDepth 8000 in
set_option maxHeartbeats 4000000 in
theorem cv_isKnownByStop_2 {G : Gt} (hG : Gok G) {I : It} {h : Ht}  {q : Nat}  (hq : q < hn h) (hcl : (hs h q).1 = 2) : Con G (1) 0 0 mX2_isKnownByStop [.ref q] I h (rI (kbS 2 (I q 1)) I h) := by
  refine con_intro (own := RX2) (lo0 := [some (.ref q)]) hG rfl pl_X2 (Nat.le_of_ble_eq_true rfl) rfl (fun X hX => ?_)
  refine g_aload_0 hX (dk DX2_isKnownByStop 0 rfl) ?_
  refine g_getI hX (dk DX2_isKnownByStop 1 rfl) KX2 fX2_9 (by decide) rfl hq hcl ?_
  refine g_iconst (v := 4) hX (dk DX2_isKnownByStop 2 rfl) (by decide) ?_
  refine g_icmp_le (tgt := 12) hX (dk DX2_isKnownByStop 3 rfl) (by decide) (fun hc1 => ?_) (fun hc1 => ?_)
  · refine g_iconst (v := 0) hX (dk DX2_isKnownByStop 6 rfl) (by decide) ?_
    refine g_ireturn hX (dk DX2_isKnownByStop 7 rfl) rfl (by decide) (by decide) (by decide) ?_
    exact rI_of (by unfold kbS; first | rfl | (rw [if_neg (by decide), if_pos (by decide)]; exact (bI_t (by assumption)).symm) | (rw [if_neg (by decide), if_pos (by decide)]; exact (bI_f (by assumption)).symm) | (rw [if_pos (by decide)]; exact (bI_f (Int32.not_lt.mpr (by assumption))).symm) | (rw [if_pos (by decide)]; exact (bI_t (Int32.not_le.mp (by assumption))).symm)) rfl rfl
  · refine g_iconst (v := 1) hX (dk DX2_isKnownByStop 4 rfl) (by decide) ?_
    refine g_goto (tgt := 13) hX (dk DX2_isKnownByStop 5 rfl) (by decide) ?_
    refine g_ireturn hX (dk DX2_isKnownByStop 7 rfl) rfl (by decide) (by decide) (by decide) ?_
    exact rI_of (by unfold kbS; first | rfl | (rw [if_neg (by decide), if_pos (by decide)]; exact (bI_t (by assumption)).symm) | (rw [if_neg (by decide), if_pos (by decide)]; exact (bI_f (by assumption)).symm) | (rw [if_pos (by decide)]; exact (bI_f (Int32.not_lt.mpr (by assumption))).symm) | (rw [if_pos (by decide)]; exact (bI_t (Int32.not_le.mp (by assumption))).symm)) rfl rfl

set_option maxRecDepth 8000 in
set_option maxHeartbeats 4000000 in
theorem cv_isKnownByCall_4 {G : Gt} (hG : Gok G) {I : It} {h : Ht}  {q : Nat}  (hq : q < hn h) (hcl : (hs h q).1 = 4) : Con G (1) 0 0 mX1_isKnownByCall [.ref q] I h (rI (kbC 4) I h) := by
  refine con_intro (own := RX1) (lo0 := [some (.ref q)]) hG rfl pl_X1 (Nat.le_of_ble_eq_true rfl) rfl (fun X hX => ?_)
  refine g_iconst (v := 1) hX (dk DX1_isKnownByCall 0 rfl) (by decide) ?_
  refine g_ireturn hX (dk DX1_isKnownByCall 1 rfl) rfl (by decide) (by decide) (by decide) ?_
  exact rI_of rfl rfl rfl

set_option maxRecDepth 8000 in
set_option maxHeartbeats 4000000 in
theorem cv_isKnownByStop_4 {G : Gt} (hG : Gok G) {I : It} {h : Ht}  {q : Nat}  (hq : q < hn h) (hcl : (hs h q).1 = 4) : Con G (1) 0 0 mX4_isKnownByStop [.ref q] I h (rI (kbS 4 (I q 1)) I h) := by
  refine con_intro (own := RX4) (lo0 := [some (.ref q)]) hG rfl pl_X4 (Nat.le_of_ble_eq_true rfl) rfl (fun X hX => ?_)
  refine g_aload_0 hX (dk DX4_isKnownByStop 0 rfl) ?_
  refine g_getI hX (dk DX4_isKnownByStop 1 rfl) KX4 fX4_13 (by decide) rfl hq hcl ?_
  refine g_if_ne (tgt := 11) hX (dk DX4_isKnownByStop 2 rfl) (by decide) (fun hc1 => ?_) (fun hc1 => ?_)
  · refine g_iconst (v := 0) hX (dk DX4_isKnownByStop 5 rfl) (by decide) ?_
    refine g_ireturn hX (dk DX4_isKnownByStop 6 rfl) rfl (by decide) (by decide) (by decide) ?_
    exact rI_of (by unfold kbS; first | rfl | (rw [if_neg (by decide), if_pos (by decide)]; exact (bI_t (by assumption)).symm) | (rw [if_neg (by decide), if_pos (by decide)]; exact (bI_f (by assumption)).symm) | (rw [if_pos (by decide)]; exact (bI_f (Int32.not_lt.mpr (by assumption))).symm) | (rw [if_pos (by decide)]; exact (bI_t (Int32.not_le.mp (by assumption))).symm)) rfl rfl
  · refine g_iconst (v := 1) hX (dk DX4_isKnownByStop 3 rfl) (by decide) ?_
    refine g_goto (tgt := 12) hX (dk DX4_isKnownByStop 4 rfl) (by decide) ?_
    refine g_ireturn hX (dk DX4_isKnownByStop 6 rfl) rfl (by decide) (by decide) (by decide) ?_
    exact rI_of (by unfold kbS; first | rfl | (rw [if_neg (by decide), if_pos (by decide)]; exact (bI_t (by assumption)).symm) | (rw [if_neg (by decide), if_pos (by decide)]; exact (bI_f (by assumption)).symm) | (rw [if_pos (by decide)]; exact (bI_f (Int32.not_lt.mpr (by assumption))).symm) | (rw [if_pos (by decide)]; exact (bI_t (Int32.not_le.mp (by assumption))).symm)) rfl rfl

set_option maxRecDepth 8000 in
set_option maxHeartbeats 4000000 in
theorem cv_isKnownByCall_6 {G : Gt} (hG : Gok G) {I : It} {h : Ht}  {q : Nat}  (hq : q < hn h) (hcl : (hs h q).1 = 6) : Con G (1) 0 0 mX1_isKnownByCall [.ref q] I h (rI (kbC 6) I h) := by
  refine con_intro (own := RX1) (lo0 := [some (.ref q)]) hG rfl pl_X1 (Nat.le_of_ble_eq_true rfl) rfl (fun X hX => ?_)
  refine g_iconst (v := 1) hX (dk DX1_isKnownByCall 0 rfl) (by decide) ?_
  refine g_ireturn hX (dk DX1_isKnownByCall 1 rfl) rfl (by decide) (by decide) (by decide) ?_
  exact rI_of rfl rfl rfl

set_option maxRecDepth 8000 in
set_option maxHeartbeats 4000000 in
theorem cv_isKnownByStop_6 {G : Gt} (hG : Gok G) {I : It} {h : Ht}  {q : Nat}  (hq : q < hn h) (hcl : (hs h q).1 = 6) : Con G (1) 0 0 mX2_isKnownByStop [.ref q] I h (rI (kbS 6 (I q 1)) I h) := by
  refine con_intro (own := RX2) (lo0 := [some (.ref q)]) hG rfl pl_X2 (Nat.le_of_ble_eq_true rfl) rfl (fun X hX => ?_)
  refine g_aload_0 hX (dk DX2_isKnownByStop 0 rfl) ?_
  refine g_getI hX (dk DX2_isKnownByStop 1 rfl) KX6 fX2_9 (by decide) rfl hq hcl ?_
  refine g_iconst (v := 4) hX (dk DX2_isKnownByStop 2 rfl) (by decide) ?_
  refine g_icmp_le (tgt := 12) hX (dk DX2_isKnownByStop 3 rfl) (by decide) (fun hc1 => ?_) (fun hc1 => ?_)
  · refine g_iconst (v := 0) hX (dk DX2_isKnownByStop 6 rfl) (by decide) ?_
    refine g_ireturn hX (dk DX2_isKnownByStop 7 rfl) rfl (by decide) (by decide) (by decide) ?_
    exact rI_of (by unfold kbS; first | rfl | (rw [if_neg (by decide), if_pos (by decide)]; exact (bI_t (by assumption)).symm) | (rw [if_neg (by decide), if_pos (by decide)]; exact (bI_f (by assumption)).symm) | (rw [if_pos (by decide)]; exact (bI_f (Int32.not_lt.mpr (by assumption))).symm) | (rw [if_pos (by decide)]; exact (bI_t (Int32.not_le.mp (by assumption))).symm)) rfl rfl
  · refine g_iconst (v := 1) hX (dk DX2_isKnownByStop 4 rfl) (by decide) ?_
    refine g_goto (tgt := 13) hX (dk DX2_isKnownByStop 5 rfl) (by decide) ?_
    refine g_ireturn hX (dk DX2_isKnownByStop 7 rfl) rfl (by decide) (by decide) (by decide) ?_
    exact rI_of (by unfold kbS; first | rfl | (rw [if_neg (by decide), if_pos (by decide)]; exact (bI_t (by assumption)).symm) | (rw [if_neg (by decide), if_pos (by decide)]; exact (bI_f (by assumption)).symm) | (rw [if_pos (by decide)]; exact (bI_f (Int32.not_lt.mpr (by assumption))).symm) | (rw [if_pos (by decide)]; exact (bI_t (Int32.not_le.mp (by assumption))).symm)) rfl rfl

set_option maxRecDepth 8000 in
set_option maxHeartbeats 4000000 in
theorem cv_isKnownByCall_8 {G : Gt} (hG : Gok G) {I : It} {h : Ht}  {q : Nat}  (hq : q < hn h) (hcl : (hs h q).1 = 8) : Con G (1) 0 0 mX1_isKnownByCall [.ref q] I h (rI (kbC 8) I h) := by
  refine con_intro (own := RX1) (lo0 := [some (.ref q)]) hG rfl pl_X1 (Nat.le_of_ble_eq_true rfl) rfl (fun X hX => ?_)
  refine g_iconst (v := 1) hX (dk DX1_isKnownByCall 0 rfl) (by decide) ?_
  refine g_ireturn hX (dk DX1_isKnownByCall 1 rfl) rfl (by decide) (by decide) (by decide) ?_
  exact rI_of rfl rfl rfl

set_option maxRecDepth 8000 in
set_option maxHeartbeats 4000000 in
theorem cv_isKnownByStop_8 {G : Gt} (hG : Gok G) {I : It} {h : Ht}  {q : Nat}  (hq : q < hn h) (hcl : (hs h q).1 = 8) : Con G (1) 0 0 mX1_isKnownByStop [.ref q] I h (rI (kbS 8 (I q 1)) I h) := by
  refine con_intro (own := RX1) (lo0 := [some (.ref q)]) hG rfl pl_X1 (Nat.le_of_ble_eq_true rfl) rfl (fun X hX => ?_)
  refine g_iconst (v := 0) hX (dk DX1_isKnownByStop 0 rfl) (by decide) ?_
  refine g_ireturn hX (dk DX1_isKnownByStop 1 rfl) rfl (by decide) (by decide) (by decide) ?_
  exact rI_of (by unfold kbS; first | rfl | (rw [if_neg (by decide), if_pos (by decide)]; exact (bI_t (by assumption)).symm) | (rw [if_neg (by decide), if_pos (by decide)]; exact (bI_f (by assumption)).symm) | (rw [if_pos (by decide)]; exact (bI_f (Int32.not_lt.mpr (by assumption))).symm) | (rw [if_pos (by decide)]; exact (bI_t (Int32.not_le.mp (by assumption))).symm)) rfl rfl

set_option maxRecDepth 8000 in
set_option maxHeartbeats 4000000 in
theorem cv_isKnownByCall_9 {G : Gt} (hG : Gok G) {I : It} {h : Ht}  {q : Nat}  (hq : q < hn h) (hcl : (hs h q).1 = 9) : Con G (1) 0 0 mX1_isKnownByCall [.ref q] I h (rI (kbC 9) I h) := by
  refine con_intro (own := RX1) (lo0 := [some (.ref q)]) hG rfl pl_X1 (Nat.le_of_ble_eq_true rfl) rfl (fun X hX => ?_)
  refine g_iconst (v := 1) hX (dk DX1_isKnownByCall 0 rfl) (by decide) ?_
  refine g_ireturn hX (dk DX1_isKnownByCall 1 rfl) rfl (by decide) (by decide) (by decide) ?_
  exact rI_of rfl rfl rfl

set_option maxRecDepth 8000 in
set_option maxHeartbeats 4000000 in
theorem cv_isKnownByStop_9 {G : Gt} (hG : Gok G) {I : It} {h : Ht}  {q : Nat}  (hq : q < hn h) (hcl : (hs h q).1 = 9) : Con G (1) 0 0 mX1_isKnownByStop [.ref q] I h (rI (kbS 9 (I q 1)) I h) := by
  refine con_intro (own := RX1) (lo0 := [some (.ref q)]) hG rfl pl_X1 (Nat.le_of_ble_eq_true rfl) rfl (fun X hX => ?_)
  refine g_iconst (v := 0) hX (dk DX1_isKnownByStop 0 rfl) (by decide) ?_
  refine g_ireturn hX (dk DX1_isKnownByStop 1 rfl) rfl (by decide) (by decide) (by decide) ?_
  exact rI_of (by unfold kbS; first | rfl | (rw [if_neg (by decide), if_pos (by decide)]; exact (bI_t (by assumption)).symm) | (rw [if_neg (by decide), if_pos (by decide)]; exact (bI_f (by assumption)).symm) | (rw [if_pos (by decide)]; exact (bI_f (Int32.not_lt.mpr (by assumption))).symm) | (rw [if_pos (by decide)]; exact (bI_t (Int32.not_le.mp (by assumption))).symm)) rfl rfl

set_option maxRecDepth 8000 in
set_option maxHeartbeats 4000000 in
theorem cv_isKnownByCall_10 {G : Gt} (hG : Gok G) {I : It} {h : Ht}  {q : Nat}  (hq : q < hn h) (hcl : (hs h q).1 = 10) : Con G (1) 0 0 mX10_isKnownByCall [.ref q] I h (rI (kbC 10) I h) := by
  refine con_intro (own := RX10) (lo0 := [some (.ref q)]) hG rfl pl_X10 (Nat.le_of_ble_eq_true rfl) rfl (fun X hX => ?_)
  refine g_iconst (v := 0) hX (dk DX10_isKnownByCall 0 rfl) (by decide) ?_
  refine g_ireturn hX (dk DX10_isKnownByCall 1 rfl) rfl (by decide) (by decide) (by decide) ?_
  exact rI_of rfl rfl rfl

set_option maxRecDepth 8000 in
set_option maxHeartbeats 4000000 in
theorem cv_isKnownByStop_10 {G : Gt} (hG : Gok G) {I : It} {h : Ht}  {q : Nat}  (hq : q < hn h) (hcl : (hs h q).1 = 10) : Con G (1) 0 0 mX4_isKnownByStop [.ref q] I h (rI (kbS 10 (I q 1)) I h) := by
  refine con_intro (own := RX4) (lo0 := [some (.ref q)]) hG rfl pl_X4 (Nat.le_of_ble_eq_true rfl) rfl (fun X hX => ?_)
  refine g_aload_0 hX (dk DX4_isKnownByStop 0 rfl) ?_
  refine g_getI hX (dk DX4_isKnownByStop 1 rfl) KX10 fX4_13 (by decide) rfl hq hcl ?_
  refine g_if_ne (tgt := 11) hX (dk DX4_isKnownByStop 2 rfl) (by decide) (fun hc1 => ?_) (fun hc1 => ?_)
  · refine g_iconst (v := 0) hX (dk DX4_isKnownByStop 5 rfl) (by decide) ?_
    refine g_ireturn hX (dk DX4_isKnownByStop 6 rfl) rfl (by decide) (by decide) (by decide) ?_
    exact rI_of (by unfold kbS; first | rfl | (rw [if_neg (by decide), if_pos (by decide)]; exact (bI_t (by assumption)).symm) | (rw [if_neg (by decide), if_pos (by decide)]; exact (bI_f (by assumption)).symm) | (rw [if_pos (by decide)]; exact (bI_f (Int32.not_lt.mpr (by assumption))).symm) | (rw [if_pos (by decide)]; exact (bI_t (Int32.not_le.mp (by assumption))).symm)) rfl rfl
  · refine g_iconst (v := 1) hX (dk DX4_isKnownByStop 3 rfl) (by decide) ?_
    refine g_goto (tgt := 12) hX (dk DX4_isKnownByStop 4 rfl) (by decide) ?_
    refine g_ireturn hX (dk DX4_isKnownByStop 6 rfl) rfl (by decide) (by decide) (by decide) ?_
    exact rI_of (by unfold kbS; first | rfl | (rw [if_neg (by decide), if_pos (by decide)]; exact (bI_t (by assumption)).symm) | (rw [if_neg (by decide), if_pos (by decide)]; exact (bI_f (by assumption)).symm) | (rw [if_pos (by decide)]; exact (bI_f (Int32.not_lt.mpr (by assumption))).symm) | (rw [if_pos (by decide)]; exact (bI_t (Int32.not_le.mp (by assumption))).symm)) rfl rfl

theorem cD_isKnownByCall {G : Gt} (hG : Gok G) {I : It} {h : Ht} {q : Nat}  (hq : q < hn h) (hdc : isDC (hs h q).1) : Con G 1 0 0 (vm_isKnownByCall (hs h q).1) [.ref q] I h (rI (kbC (hs h q).1) I h) := by
  rcases hdc with e | e | e | e | e | e | e <;> rw [e]
  · exact cv_isKnownByCall_1 hG hq e
  · exact cv_isKnownByCall_2 hG hq e
  · exact cv_isKnownByCall_4 hG hq e
  · exact cv_isKnownByCall_6 hG hq e
  · exact cv_isKnownByCall_8 hG hq e
  · exact cv_isKnownByCall_9 hG hq e
  · exact cv_isKnownByCall_10 hG hq e
theorem cD_isKnownByStop {G : Gt} (hG : Gok G) {I : It} {h : Ht} {q : Nat}  (hq : q < hn h) (hdc : isDC (hs h q).1) : Con G 1 0 0 (vm_isKnownByStop (hs h q).1) [.ref q] I h (rI (kbS (hs h q).1 (I q 1)) I h) := by
  rcases hdc with e | e | e | e | e | e | e <;> rw [e]
  · exact cv_isKnownByStop_1 hG hq e
  · exact cv_isKnownByStop_2 hG hq e
  · exact cv_isKnownByStop_4 hG hq e
  · exact cv_isKnownByStop_6 hG hq e
  · exact cv_isKnownByStop_8 hG hq e
  · exact cv_isKnownByStop_9 hG hq e
  · exact cv_isKnownByStop_10 hG hq e
set_option maxRecDepth 8000 in
set_option maxHeartbeats 4000000 in
theorem cv_saidOver_1 {G : Gt} (hG : Gok G) {I : It} {h : Ht}  {q : Nat} {bq hq2 : Nat} (hq : q < hn h) (hcl : (hs h q).1 = 1) (hb : bq < hn h) (hbs : hs h bq = (20, 4)) (hh : hq2 < hn h) (hhs : hs h hq2 = (20, 4)) : Con G (3) 0 0 mX1_saidOver [.ref q, .ref bq, .ref hq2] I h (rI (svC 1 (I q 1) (I bq) (I hq2)) I h) := by
  refine con_intro (own := RX1) (lo0 := [some (.ref q), some (.ref bq), some (.ref hq2), none, none]) hG rfl pl_X1 (Nat.le_of_ble_eq_true rfl) rfl (fun X hX => ?_)
  have loop5 : ∀ (k y : Nat) (z : Int32), y + k = 4 → svA (I bq) (I hq2) k y z = svA (I bq) (I hq2) 4 0 0 → GG G (3) 0 0 X (rI (svC 1 (I q 1) (I bq) (I hq2)) I h) 5 [some (.ref q), some (.ref bq), some (.ref hq2), some (.int z), some (.int (nI y))] [] (I) (h) 0 0 := by
    intro k
    induction k using Nat.strongRecOn with | _ k ih => ?_
    intro y z hk hv
    refine g_iload_4 hX (dk DX1_saidOver 4 rfl) ?_
    refine g_iconst (v := 4) hX (dk DX1_saidOver 5 rfl) (by decide) ?_
    refine g_icmp_ge (tgt := 29) hX (dk DX1_saidOver 6 rfl) (by decide) (fun hc1 => ?_) (fun hc1 => ?_)
    · refine g_iload_3 hX (dk DX1_saidOver 19 rfl) ?_
      refine g_ireturn hX (dk DX1_saidOver 20 rfl) rfl (rfl) (by decide) (by decide) ?_
      have hk0 := cl_end (e := 4) hk (by decide) hc1
      subst hk0
      exact rI_of hv rfl rfl
    · obtain ⟨k, rfl⟩ := cl_go (e := 4) hk (by decide) hc1
      refine g_iload_3 hX (dk DX1_saidOver 7 rfl) ?_
      refine g_aload_2 hX (dk DX1_saidOver 8 rfl) ?_
      refine g_iload_4 hX (dk DX1_saidOver 9 rfl) ?_
      refine i_iaload hX (dk DX1_saidOver 10 rfl) hh hhs (⟨rfl, by omega, by decide⟩) ?_
      refine g_aload_1 hX (dk DX1_saidOver 11 rfl) ?_
      refine g_iload_4 hX (dk DX1_saidOver 12 rfl) ?_
      refine i_iaload hX (dk DX1_saidOver 13 rfl) hb hbs (⟨rfl, by omega, by decide⟩) ?_
      refine g_imul hX (dk DX1_saidOver 14 rfl) ?_
      refine g_iadd hX (dk DX1_saidOver 15 rfl) ?_
      refine g_istore_3 hX (dk DX1_saidOver 16 rfl) (by decide) rfl ?_
      refine g_iinc_4 hX (dk DX1_saidOver 17 rfl) (nI_1 y) (by decide) rfl ?_
      refine g_goto (tgt := 5) hX (dk DX1_saidOver 18 rfl) (by decide) ?_
      exact ih k (by omega) (y + 1) _ (by omega) hv
  refine g_iconst (v := 0) hX (dk DX1_saidOver 0 rfl) (by decide) ?_
  refine g_istore_3 hX (dk DX1_saidOver 1 rfl) (by decide) rfl ?_
  refine g_iconst (v := 0) hX (dk DX1_saidOver 2 rfl) (by decide) ?_
  refine g_istore_4 hX (dk DX1_saidOver 3 rfl) (by decide) rfl ?_
  exact loop5 4 0 0 (Nat.zero_add _) rfl

set_option maxRecDepth 8000 in
set_option maxHeartbeats 4000000 in
theorem cv_saidOver_2 {G : Gt} (hG : Gok G) {I : It} {h : Ht}  {q : Nat} {bq hq2 : Nat} (hq : q < hn h) (hcl : (hs h q).1 = 2) (hb : bq < hn h) (hbs : hs h bq = (20, 4)) (hh : hq2 < hn h) (hhs : hs h hq2 = (20, 4)) : Con G (3) 0 0 mX2_saidOver [.ref q, .ref bq, .ref hq2] I h (rI (svC 2 (I q 1) (I bq) (I hq2)) I h) := by
  refine con_intro (own := RX2) (lo0 := [some (.ref q), some (.ref bq), some (.ref hq2)]) hG rfl pl_X2 (Nat.le_of_ble_eq_true rfl) rfl (fun X hX => ?_)
  refine g_aload_2 hX (dk DX2_saidOver 0 rfl) ?_
  refine g_iconst (v := 2) hX (dk DX2_saidOver 1 rfl) (by decide) ?_
  refine i_iaload (j := 2) hX (dk DX2_saidOver 2 rfl) hh hhs (⟨rfl, by decide, by decide⟩) ?_
  refine g_aload_1 hX (dk DX2_saidOver 3 rfl) ?_
  refine g_iconst (v := 2) hX (dk DX2_saidOver 4 rfl) (by decide) ?_
  refine i_iaload (j := 2) hX (dk DX2_saidOver 5 rfl) hb hbs (⟨rfl, by decide, by decide⟩) ?_
  refine g_imul hX (dk DX2_saidOver 6 rfl) ?_
  refine g_aload_2 hX (dk DX2_saidOver 7 rfl) ?_
  refine g_iconst (v := 3) hX (dk DX2_saidOver 8 rfl) (by decide) ?_
  refine i_iaload (j := 3) hX (dk DX2_saidOver 9 rfl) hh hhs (⟨rfl, by decide, by decide⟩) ?_
  refine g_aload_1 hX (dk DX2_saidOver 10 rfl) ?_
  refine g_iconst (v := 3) hX (dk DX2_saidOver 11 rfl) (by decide) ?_
  refine i_iaload (j := 3) hX (dk DX2_saidOver 12 rfl) hb hbs (⟨rfl, by decide, by decide⟩) ?_
  refine g_imul hX (dk DX2_saidOver 13 rfl) ?_
  refine g_iadd hX (dk DX2_saidOver 14 rfl) ?_
  refine g_ireturn hX (dk DX2_saidOver 15 rfl) rfl (rfl) (by decide) (by decide) ?_
  exact rI_of (by rw [svC_2];  first | done | rfl | rw [if_neg (Int32.not_lt.mpr (by assumption))] | rw [if_pos (Int32.not_le.mp (by assumption))]) rfl rfl

set_option maxRecDepth 8000 in
set_option maxHeartbeats 4000000 in
theorem cv1_saidOver_4 {G : Gt} (hG : Gok G) {I : It} {h : Ht}  {q : Nat} {bq hq2 : Nat} (hq : q < hn h) (hcl : (hs h q).1 = 4) (hb : bq < hn h) (hbs : hs h bq = (20, 4)) (hh : hq2 < hn h) (hhs : hs h hq2 = (20, 4)) : Con G (1) 0 0 mX1_saidOver [.ref q, .ref bq, .ref hq2] I h (rI (svA (I bq) (I hq2) 4 0 0) I h) := by
  refine con_intro (own := RX1) (lo0 := [some (.ref q), some (.ref bq), some (.ref hq2), none, none]) hG rfl pl_X1 (Nat.le_of_ble_eq_true rfl) rfl (fun X hX => ?_)
  have loop5 : ∀ (k y : Nat) (z : Int32), y + k = 4 → svA (I bq) (I hq2) k y z = svA (I bq) (I hq2) 4 0 0 → GG G (1) 0 0 X (rI (svA (I bq) (I hq2) 4 0 0) I h) 5 [some (.ref q), some (.ref bq), some (.ref hq2), some (.int z), some (.int (nI y))] [] (I) (h) 0 0 := by
    intro k
    induction k using Nat.strongRecOn with | _ k ih => ?_
    intro y z hk hv
    refine g_iload_4 hX (dk DX1_saidOver 4 rfl) ?_
    refine g_iconst (v := 4) hX (dk DX1_saidOver 5 rfl) (by decide) ?_
    refine g_icmp_ge (tgt := 29) hX (dk DX1_saidOver 6 rfl) (by decide) (fun hc1 => ?_) (fun hc1 => ?_)
    · refine g_iload_3 hX (dk DX1_saidOver 19 rfl) ?_
      refine g_ireturn hX (dk DX1_saidOver 20 rfl) rfl (rfl) (by decide) (by decide) ?_
      have hk0 := cl_end (e := 4) hk (by decide) hc1
      subst hk0
      exact rI_of hv rfl rfl
    · obtain ⟨k, rfl⟩ := cl_go (e := 4) hk (by decide) hc1
      refine g_iload_3 hX (dk DX1_saidOver 7 rfl) ?_
      refine g_aload_2 hX (dk DX1_saidOver 8 rfl) ?_
      refine g_iload_4 hX (dk DX1_saidOver 9 rfl) ?_
      refine i_iaload hX (dk DX1_saidOver 10 rfl) hh hhs (⟨rfl, by omega, by decide⟩) ?_
      refine g_aload_1 hX (dk DX1_saidOver 11 rfl) ?_
      refine g_iload_4 hX (dk DX1_saidOver 12 rfl) ?_
      refine i_iaload hX (dk DX1_saidOver 13 rfl) hb hbs (⟨rfl, by omega, by decide⟩) ?_
      refine g_imul hX (dk DX1_saidOver 14 rfl) ?_
      refine g_iadd hX (dk DX1_saidOver 15 rfl) ?_
      refine g_istore_3 hX (dk DX1_saidOver 16 rfl) (by decide) rfl ?_
      refine g_iinc_4 hX (dk DX1_saidOver 17 rfl) (nI_1 y) (by decide) rfl ?_
      refine g_goto (tgt := 5) hX (dk DX1_saidOver 18 rfl) (by decide) ?_
      exact ih k (by omega) (y + 1) _ (by omega) hv
  refine g_iconst (v := 0) hX (dk DX1_saidOver 0 rfl) (by decide) ?_
  refine g_istore_3 hX (dk DX1_saidOver 1 rfl) (by decide) rfl ?_
  refine g_iconst (v := 0) hX (dk DX1_saidOver 2 rfl) (by decide) ?_
  refine g_istore_4 hX (dk DX1_saidOver 3 rfl) (by decide) rfl ?_
  exact loop5 4 0 0 (Nat.zero_add _) rfl

set_option maxRecDepth 8000 in
set_option maxHeartbeats 4000000 in
theorem cv_saidOver_4 {G : Gt} (hG : Gok G) {I : It} {h : Ht}  {q : Nat} {bq hq2 : Nat} (hq : q < hn h) (hcl : (hs h q).1 = 4) (hb : bq < hn h) (hbs : hs h bq = (20, 4)) (hh : hq2 < hn h) (hhs : hs h hq2 = (20, 4)) : Con G (3) 0 0 mX4_saidOver [.ref q, .ref bq, .ref hq2] I h (rI (svC 4 (I q 1) (I bq) (I hq2)) I h) := by
  refine con_intro (own := RX4) (lo0 := [some (.ref q), some (.ref bq), some (.ref hq2)]) hG rfl pl_X4 (Nat.le_of_ble_eq_true rfl) rfl (fun X hX => ?_)
  refine g_aload_2 hX (dk DX4_saidOver 0 rfl) ?_
  refine g_iconst (v := 3) hX (dk DX4_saidOver 1 rfl) (by decide) ?_
  refine i_iaload (j := 3) hX (dk DX4_saidOver 2 rfl) hh hhs (⟨rfl, by decide, by decide⟩) ?_
  refine g_if_ne (tgt := 10) hX (dk DX4_saidOver 3 rfl) (by decide) (fun hc1 => ?_) (fun hc1 => ?_)
  · refine g_aload_0 hX (dk DX4_saidOver 6 rfl) ?_
    refine g_aload_1 hX (dk DX4_saidOver 7 rfl) ?_
    refine g_aload_2 hX (dk DX4_saidOver 8 rfl) ?_
    refine g_c3I hX sX4_saidOver_13_c4 (by decide) (Nat.le_of_ble_eq_true rfl) (rc0 rfl hq hcl) (by decide) (by decide) (cv1_saidOver_4 hG hq hcl hb hbs hh hhs) ?_
    refine g_ireturn hX (dk DX4_saidOver 10 rfl) rfl (rfl) (by decide) (by decide) ?_
    exact rI_of (by rw [svC_4]; (try first | rw [if_pos hc1] | rw [if_neg hc1] | rw [if_neg (not_not_intro hc1)]); first | done | rfl | rw [if_neg (Int32.not_lt.mpr (by assumption))] | rw [if_pos (Int32.not_le.mp (by assumption))]) rfl rfl
  · refine g_iconst (v := 0) hX (dk DX4_saidOver 4 rfl) (by decide) ?_
    refine g_goto (tgt := 16) hX (dk DX4_saidOver 5 rfl) (by decide) ?_
    refine g_ireturn hX (dk DX4_saidOver 10 rfl) rfl (rfl) (by decide) (by decide) ?_
    exact rI_of (by rw [svC_4]; (try first | rw [if_pos hc1] | rw [if_neg hc1] | rw [if_neg (not_not_intro hc1)]); first | done | rfl | rw [if_neg (Int32.not_lt.mpr (by assumption))] | rw [if_pos (Int32.not_le.mp (by assumption))]) rfl rfl

set_option maxRecDepth 8000 in
set_option maxHeartbeats 4000000 in
theorem cv2_saidOver_6 {G : Gt} (hG : Gok G) {I : It} {h : Ht}  {q : Nat} {bq hq2 : Nat} (hq : q < hn h) (hcl : (hs h q).1 = 6) (hb : bq < hn h) (hbs : hs h bq = (20, 4)) (hh : hq2 < hn h) (hhs : hs h hq2 = (20, 4)) : Con G (1) 0 0 mX2_saidOver [.ref q, .ref bq, .ref hq2] I h (rI (I hq2 2 * I bq 2 + I hq2 3 * I bq 3) I h) := by
  refine con_intro (own := RX2) (lo0 := [some (.ref q), some (.ref bq), some (.ref hq2)]) hG rfl pl_X2 (Nat.le_of_ble_eq_true rfl) rfl (fun X hX => ?_)
  refine g_aload_2 hX (dk DX2_saidOver 0 rfl) ?_
  refine g_iconst (v := 2) hX (dk DX2_saidOver 1 rfl) (by decide) ?_
  refine i_iaload (j := 2) hX (dk DX2_saidOver 2 rfl) hh hhs (⟨rfl, by decide, by decide⟩) ?_
  refine g_aload_1 hX (dk DX2_saidOver 3 rfl) ?_
  refine g_iconst (v := 2) hX (dk DX2_saidOver 4 rfl) (by decide) ?_
  refine i_iaload (j := 2) hX (dk DX2_saidOver 5 rfl) hb hbs (⟨rfl, by decide, by decide⟩) ?_
  refine g_imul hX (dk DX2_saidOver 6 rfl) ?_
  refine g_aload_2 hX (dk DX2_saidOver 7 rfl) ?_
  refine g_iconst (v := 3) hX (dk DX2_saidOver 8 rfl) (by decide) ?_
  refine i_iaload (j := 3) hX (dk DX2_saidOver 9 rfl) hh hhs (⟨rfl, by decide, by decide⟩) ?_
  refine g_aload_1 hX (dk DX2_saidOver 10 rfl) ?_
  refine g_iconst (v := 3) hX (dk DX2_saidOver 11 rfl) (by decide) ?_
  refine i_iaload (j := 3) hX (dk DX2_saidOver 12 rfl) hb hbs (⟨rfl, by decide, by decide⟩) ?_
  refine g_imul hX (dk DX2_saidOver 13 rfl) ?_
  refine g_iadd hX (dk DX2_saidOver 14 rfl) ?_
  refine g_ireturn hX (dk DX2_saidOver 15 rfl) rfl (rfl) (by decide) (by decide) ?_
  exact rI_of (by  first | done | rfl | rw [if_neg (Int32.not_lt.mpr (by assumption))] | rw [if_pos (Int32.not_le.mp (by assumption))]) rfl rfl

set_option maxRecDepth 8000 in
set_option maxHeartbeats 4000000 in
theorem cv_saidOver_6 {G : Gt} (hG : Gok G) {I : It} {h : Ht}  {q : Nat} {bq hq2 : Nat} (hq : q < hn h) (hcl : (hs h q).1 = 6) (hb : bq < hn h) (hbs : hs h bq = (20, 4)) (hh : hq2 < hn h) (hhs : hs h hq2 = (20, 4)) : Con G (3) 0 0 mX6_saidOver [.ref q, .ref bq, .ref hq2] I h (rI (svC 6 (I q 1) (I bq) (I hq2)) I h) := by
  refine con_intro (own := RX6) (lo0 := [some (.ref q), some (.ref bq), some (.ref hq2)]) hG rfl pl_X6 (Nat.le_of_ble_eq_true rfl) rfl (fun X hX => ?_)
  refine g_aload_0 hX (dk DX6_saidOver 0 rfl) ?_
  refine g_aload_1 hX (dk DX6_saidOver 1 rfl) ?_
  refine g_aload_2 hX (dk DX6_saidOver 2 rfl) ?_
  refine g_c3I hX sX6_saidOver_3_c6 (by decide) (Nat.le_of_ble_eq_true rfl) (rc0 rfl hq hcl) (by decide) (by decide) (cv2_saidOver_6 hG hq hcl hb hbs hh hhs) ?_
  refine g_iconst (v := 2) hX (dk DX6_saidOver 4 rfl) (by decide) ?_
  refine g_aload_0 hX (dk DX6_saidOver 5 rfl) ?_
  refine g_getI hX (dk DX6_saidOver 6 rfl) KX6 fX6_13 (by decide) rfl hq hcl ?_
  refine g_imul hX (dk DX6_saidOver 7 rfl) ?_
  refine g_aload_2 hX (dk DX6_saidOver 8 rfl) ?_
  refine g_iconst (v := 1) hX (dk DX6_saidOver 9 rfl) (by decide) ?_
  refine i_iaload (j := 1) hX (dk DX6_saidOver 10 rfl) hh hhs (⟨rfl, by decide, by decide⟩) ?_
  refine g_imul hX (dk DX6_saidOver 11 rfl) ?_
  refine g_iadd hX (dk DX6_saidOver 12 rfl) ?_
  refine g_ireturn hX (dk DX6_saidOver 13 rfl) rfl (rfl) (by decide) (by decide) ?_
  exact rI_of (by rw [svC_6];  first | done | rfl | rw [if_neg (Int32.not_lt.mpr (by assumption))] | rw [if_pos (Int32.not_le.mp (by assumption))]) rfl rfl

set_option maxRecDepth 8000 in
set_option maxHeartbeats 4000000 in
theorem cv1_saidOver_8 {G : Gt} (hG : Gok G) {I : It} {h : Ht}  {q : Nat} {bq hq2 : Nat} (hq : q < hn h) (hcl : (hs h q).1 = 8) (hb : bq < hn h) (hbs : hs h bq = (20, 4)) (hh : hq2 < hn h) (hhs : hs h hq2 = (20, 4)) : Con G (1) 0 0 mX1_saidOver [.ref q, .ref bq, .ref hq2] I h (rI (svA (I bq) (I hq2) 4 0 0) I h) := by
  refine con_intro (own := RX1) (lo0 := [some (.ref q), some (.ref bq), some (.ref hq2), none, none]) hG rfl pl_X1 (Nat.le_of_ble_eq_true rfl) rfl (fun X hX => ?_)
  have loop5 : ∀ (k y : Nat) (z : Int32), y + k = 4 → svA (I bq) (I hq2) k y z = svA (I bq) (I hq2) 4 0 0 → GG G (1) 0 0 X (rI (svA (I bq) (I hq2) 4 0 0) I h) 5 [some (.ref q), some (.ref bq), some (.ref hq2), some (.int z), some (.int (nI y))] [] (I) (h) 0 0 := by
    intro k
    induction k using Nat.strongRecOn with | _ k ih => ?_
    intro y z hk hv
    refine g_iload_4 hX (dk DX1_saidOver 4 rfl) ?_
    refine g_iconst (v := 4) hX (dk DX1_saidOver 5 rfl) (by decide) ?_
    refine g_icmp_ge (tgt := 29) hX (dk DX1_saidOver 6 rfl) (by decide) (fun hc1 => ?_) (fun hc1 => ?_)
    · refine g_iload_3 hX (dk DX1_saidOver 19 rfl) ?_
      refine g_ireturn hX (dk DX1_saidOver 20 rfl) rfl (rfl) (by decide) (by decide) ?_
      have hk0 := cl_end (e := 4) hk (by decide) hc1
      subst hk0
      exact rI_of hv rfl rfl
    · obtain ⟨k, rfl⟩ := cl_go (e := 4) hk (by decide) hc1
      refine g_iload_3 hX (dk DX1_saidOver 7 rfl) ?_
      refine g_aload_2 hX (dk DX1_saidOver 8 rfl) ?_
      refine g_iload_4 hX (dk DX1_saidOver 9 rfl) ?_
      refine i_iaload hX (dk DX1_saidOver 10 rfl) hh hhs (⟨rfl, by omega, by decide⟩) ?_
      refine g_aload_1 hX (dk DX1_saidOver 11 rfl) ?_
      refine g_iload_4 hX (dk DX1_saidOver 12 rfl) ?_
      refine i_iaload hX (dk DX1_saidOver 13 rfl) hb hbs (⟨rfl, by omega, by decide⟩) ?_
      refine g_imul hX (dk DX1_saidOver 14 rfl) ?_
      refine g_iadd hX (dk DX1_saidOver 15 rfl) ?_
      refine g_istore_3 hX (dk DX1_saidOver 16 rfl) (by decide) rfl ?_
      refine g_iinc_4 hX (dk DX1_saidOver 17 rfl) (nI_1 y) (by decide) rfl ?_
      refine g_goto (tgt := 5) hX (dk DX1_saidOver 18 rfl) (by decide) ?_
      exact ih k (by omega) (y + 1) _ (by omega) hv
  refine g_iconst (v := 0) hX (dk DX1_saidOver 0 rfl) (by decide) ?_
  refine g_istore_3 hX (dk DX1_saidOver 1 rfl) (by decide) rfl ?_
  refine g_iconst (v := 0) hX (dk DX1_saidOver 2 rfl) (by decide) ?_
  refine g_istore_4 hX (dk DX1_saidOver 3 rfl) (by decide) rfl ?_
  exact loop5 4 0 0 (Nat.zero_add _) rfl

set_option maxRecDepth 8000 in
set_option maxHeartbeats 4000000 in
theorem cv9_saidOver_8 {G : Gt} (hG : Gok G) {I : It} {h : Ht}  {q : Nat} {bq hq2 : Nat} (hq : q < hn h) (hcl : (hs h q).1 = 8) (hb : bq < hn h) (hbs : hs h bq = (20, 4)) (hh : hq2 < hn h) (hhs : hs h hq2 = (20, 4)) : Con G (2) 0 0 mX9_saidOver [.ref q, .ref bq, .ref hq2] I h (rI (svA (I bq) (I hq2) 4 0 0 + I q 1 * I hq2 0) I h) := by
  refine con_intro (own := RX9) (lo0 := [some (.ref q), some (.ref bq), some (.ref hq2)]) hG rfl pl_X9 (Nat.le_of_ble_eq_true rfl) rfl (fun X hX => ?_)
  refine g_aload_0 hX (dk DX9_saidOver 0 rfl) ?_
  refine g_aload_1 hX (dk DX9_saidOver 1 rfl) ?_
  refine g_aload_2 hX (dk DX9_saidOver 2 rfl) ?_
  refine g_c3I hX sX9_saidOver_3_c8 (by decide) (Nat.le_of_ble_eq_true rfl) (rc0 rfl hq hcl) (by decide) (by decide) (cv1_saidOver_8 hG hq hcl hb hbs hh hhs) ?_
  refine g_aload_0 hX (dk DX9_saidOver 4 rfl) ?_
  refine g_getI hX (dk DX9_saidOver 5 rfl) KX8 fX9_13 (by decide) rfl hq hcl ?_
  refine g_aload_2 hX (dk DX9_saidOver 6 rfl) ?_
  refine g_iconst (v := 0) hX (dk DX9_saidOver 7 rfl) (by decide) ?_
  refine i_iaload (j := 0) hX (dk DX9_saidOver 8 rfl) hh hhs (⟨rfl, by decide, by decide⟩) ?_
  refine g_imul hX (dk DX9_saidOver 9 rfl) ?_
  refine g_iadd hX (dk DX9_saidOver 10 rfl) ?_
  refine g_ireturn hX (dk DX9_saidOver 11 rfl) rfl (rfl) (by decide) (by decide) ?_
  exact rI_of (by  first | done | rfl | rw [if_neg (Int32.not_lt.mpr (by assumption))] | rw [if_pos (Int32.not_le.mp (by assumption))]) rfl rfl

set_option maxRecDepth 8000 in
set_option maxHeartbeats 4000000 in
theorem cv_saidOver_8 {G : Gt} (hG : Gok G) {I : It} {h : Ht}  {q : Nat} {bq hq2 : Nat} (hq : q < hn h) (hcl : (hs h q).1 = 8) (hb : bq < hn h) (hbs : hs h bq = (20, 4)) (hh : hq2 < hn h) (hhs : hs h hq2 = (20, 4)) : Con G (3) 0 0 mX8_saidOver [.ref q, .ref bq, .ref hq2] I h (rI (svC 8 (I q 1) (I bq) (I hq2)) I h) := by
  refine con_intro (own := RX8) (lo0 := [some (.ref q), some (.ref bq), some (.ref hq2)]) hG rfl pl_X8 (Nat.le_of_ble_eq_true rfl) rfl (fun X hX => ?_)
  refine g_aload_0 hX (dk DX8_saidOver 0 rfl) ?_
  refine g_aload_1 hX (dk DX8_saidOver 1 rfl) ?_
  refine g_aload_2 hX (dk DX8_saidOver 2 rfl) ?_
  refine g_c3I hX sX8_saidOver_3_c8 (by decide) (Nat.le_of_ble_eq_true rfl) (rc0 rfl hq hcl) (by decide) (by decide) (cv9_saidOver_8 hG hq hcl hb hbs hh hhs) ?_
  refine g_aload_2 hX (dk DX8_saidOver 4 rfl) ?_
  refine g_iconst (v := 2) hX (dk DX8_saidOver 5 rfl) (by decide) ?_
  refine i_iaload (j := 2) hX (dk DX8_saidOver 6 rfl) hh hhs (⟨rfl, by decide, by decide⟩) ?_
  refine g_if_le (tgt := 19) hX (dk DX8_saidOver 7 rfl) (by decide) (fun hc1 => ?_) (fun hc1 => ?_)
  · refine g_iconst (v := 0) hX (dk DX8_saidOver 11 rfl) (by decide) ?_
    refine g_iadd hX (dk DX8_saidOver 12 rfl) ?_
    refine g_ireturn hX (dk DX8_saidOver 13 rfl) rfl (rfl) (by decide) (by decide) ?_
    exact rI_of (by rw [svC_8]; (try first | rw [if_pos hc1] | rw [if_neg hc1] | rw [if_neg (not_not_intro hc1)]); first | done | rfl | rw [if_neg (Int32.not_lt.mpr (by assumption))] | rw [if_pos (Int32.not_le.mp (by assumption))]) rfl rfl
  · refine g_aload_0 hX (dk DX8_saidOver 8 rfl) ?_
    refine g_getI hX (dk DX8_saidOver 9 rfl) KX8 fX8_13 (by decide) rfl hq hcl ?_
    refine g_goto (tgt := 20) hX (dk DX8_saidOver 10 rfl) (by decide) ?_
    refine g_iadd hX (dk DX8_saidOver 12 rfl) ?_
    refine g_ireturn hX (dk DX8_saidOver 13 rfl) rfl (rfl) (by decide) (by decide) ?_
    exact rI_of (by rw [svC_8]; (try first | rw [if_pos hc1] | rw [if_neg hc1] | rw [if_neg (not_not_intro hc1)]); first | done | rfl | rw [if_neg (Int32.not_lt.mpr (by assumption))] | rw [if_pos (Int32.not_le.mp (by assumption))]) rfl rfl

set_option maxRecDepth 8000 in
set_option maxHeartbeats 4000000 in
theorem cv1_saidOver_9 {G : Gt} (hG : Gok G) {I : It} {h : Ht}  {q : Nat} {bq hq2 : Nat} (hq : q < hn h) (hcl : (hs h q).1 = 9) (hb : bq < hn h) (hbs : hs h bq = (20, 4)) (hh : hq2 < hn h) (hhs : hs h hq2 = (20, 4)) : Con G (1) 0 0 mX1_saidOver [.ref q, .ref bq, .ref hq2] I h (rI (svA (I bq) (I hq2) 4 0 0) I h) := by
  refine con_intro (own := RX1) (lo0 := [some (.ref q), some (.ref bq), some (.ref hq2), none, none]) hG rfl pl_X1 (Nat.le_of_ble_eq_true rfl) rfl (fun X hX => ?_)
  have loop5 : ∀ (k y : Nat) (z : Int32), y + k = 4 → svA (I bq) (I hq2) k y z = svA (I bq) (I hq2) 4 0 0 → GG G (1) 0 0 X (rI (svA (I bq) (I hq2) 4 0 0) I h) 5 [some (.ref q), some (.ref bq), some (.ref hq2), some (.int z), some (.int (nI y))] [] (I) (h) 0 0 := by
    intro k
    induction k using Nat.strongRecOn with | _ k ih => ?_
    intro y z hk hv
    refine g_iload_4 hX (dk DX1_saidOver 4 rfl) ?_
    refine g_iconst (v := 4) hX (dk DX1_saidOver 5 rfl) (by decide) ?_
    refine g_icmp_ge (tgt := 29) hX (dk DX1_saidOver 6 rfl) (by decide) (fun hc1 => ?_) (fun hc1 => ?_)
    · refine g_iload_3 hX (dk DX1_saidOver 19 rfl) ?_
      refine g_ireturn hX (dk DX1_saidOver 20 rfl) rfl (rfl) (by decide) (by decide) ?_
      have hk0 := cl_end (e := 4) hk (by decide) hc1
      subst hk0
      exact rI_of hv rfl rfl
    · obtain ⟨k, rfl⟩ := cl_go (e := 4) hk (by decide) hc1
      refine g_iload_3 hX (dk DX1_saidOver 7 rfl) ?_
      refine g_aload_2 hX (dk DX1_saidOver 8 rfl) ?_
      refine g_iload_4 hX (dk DX1_saidOver 9 rfl) ?_
      refine i_iaload hX (dk DX1_saidOver 10 rfl) hh hhs (⟨rfl, by omega, by decide⟩) ?_
      refine g_aload_1 hX (dk DX1_saidOver 11 rfl) ?_
      refine g_iload_4 hX (dk DX1_saidOver 12 rfl) ?_
      refine i_iaload hX (dk DX1_saidOver 13 rfl) hb hbs (⟨rfl, by omega, by decide⟩) ?_
      refine g_imul hX (dk DX1_saidOver 14 rfl) ?_
      refine g_iadd hX (dk DX1_saidOver 15 rfl) ?_
      refine g_istore_3 hX (dk DX1_saidOver 16 rfl) (by decide) rfl ?_
      refine g_iinc_4 hX (dk DX1_saidOver 17 rfl) (nI_1 y) (by decide) rfl ?_
      refine g_goto (tgt := 5) hX (dk DX1_saidOver 18 rfl) (by decide) ?_
      exact ih k (by omega) (y + 1) _ (by omega) hv
  refine g_iconst (v := 0) hX (dk DX1_saidOver 0 rfl) (by decide) ?_
  refine g_istore_3 hX (dk DX1_saidOver 1 rfl) (by decide) rfl ?_
  refine g_iconst (v := 0) hX (dk DX1_saidOver 2 rfl) (by decide) ?_
  refine g_istore_4 hX (dk DX1_saidOver 3 rfl) (by decide) rfl ?_
  exact loop5 4 0 0 (Nat.zero_add _) rfl

set_option maxRecDepth 8000 in
set_option maxHeartbeats 4000000 in
theorem cv_saidOver_9 {G : Gt} (hG : Gok G) {I : It} {h : Ht}  {q : Nat} {bq hq2 : Nat} (hq : q < hn h) (hcl : (hs h q).1 = 9) (hb : bq < hn h) (hbs : hs h bq = (20, 4)) (hh : hq2 < hn h) (hhs : hs h hq2 = (20, 4)) : Con G (3) 0 0 mX9_saidOver [.ref q, .ref bq, .ref hq2] I h (rI (svC 9 (I q 1) (I bq) (I hq2)) I h) := by
  refine con_intro (own := RX9) (lo0 := [some (.ref q), some (.ref bq), some (.ref hq2)]) hG rfl pl_X9 (Nat.le_of_ble_eq_true rfl) rfl (fun X hX => ?_)
  refine g_aload_0 hX (dk DX9_saidOver 0 rfl) ?_
  refine g_aload_1 hX (dk DX9_saidOver 1 rfl) ?_
  refine g_aload_2 hX (dk DX9_saidOver 2 rfl) ?_
  refine g_c3I hX sX9_saidOver_3_c9 (by decide) (Nat.le_of_ble_eq_true rfl) (rc0 rfl hq hcl) (by decide) (by decide) (cv1_saidOver_9 hG hq hcl hb hbs hh hhs) ?_
  refine g_aload_0 hX (dk DX9_saidOver 4 rfl) ?_
  refine g_getI hX (dk DX9_saidOver 5 rfl) KX9 fX9_13 (by decide) rfl hq hcl ?_
  refine g_aload_2 hX (dk DX9_saidOver 6 rfl) ?_
  refine g_iconst (v := 0) hX (dk DX9_saidOver 7 rfl) (by decide) ?_
  refine i_iaload (j := 0) hX (dk DX9_saidOver 8 rfl) hh hhs (⟨rfl, by decide, by decide⟩) ?_
  refine g_imul hX (dk DX9_saidOver 9 rfl) ?_
  refine g_iadd hX (dk DX9_saidOver 10 rfl) ?_
  refine g_ireturn hX (dk DX9_saidOver 11 rfl) rfl (rfl) (by decide) (by decide) ?_
  exact rI_of (by rw [svC_9];  first | done | rfl | rw [if_neg (Int32.not_lt.mpr (by assumption))] | rw [if_pos (Int32.not_le.mp (by assumption))]) rfl rfl

set_option maxRecDepth 8000 in
set_option maxHeartbeats 4000000 in
theorem cv1_saidOver_10 {G : Gt} (hG : Gok G) {I : It} {h : Ht}  {q : Nat} {bq hq2 : Nat} (hq : q < hn h) (hcl : (hs h q).1 = 10) (hb : bq < hn h) (hbs : hs h bq = (20, 4)) (hh : hq2 < hn h) (hhs : hs h hq2 = (20, 4)) : Con G (1) 0 0 mX1_saidOver [.ref q, .ref bq, .ref hq2] I h (rI (svA (I bq) (I hq2) 4 0 0) I h) := by
  refine con_intro (own := RX1) (lo0 := [some (.ref q), some (.ref bq), some (.ref hq2), none, none]) hG rfl pl_X1 (Nat.le_of_ble_eq_true rfl) rfl (fun X hX => ?_)
  have loop5 : ∀ (k y : Nat) (z : Int32), y + k = 4 → svA (I bq) (I hq2) k y z = svA (I bq) (I hq2) 4 0 0 → GG G (1) 0 0 X (rI (svA (I bq) (I hq2) 4 0 0) I h) 5 [some (.ref q), some (.ref bq), some (.ref hq2), some (.int z), some (.int (nI y))] [] (I) (h) 0 0 := by
    intro k
    induction k using Nat.strongRecOn with | _ k ih => ?_
    intro y z hk hv
    refine g_iload_4 hX (dk DX1_saidOver 4 rfl) ?_
    refine g_iconst (v := 4) hX (dk DX1_saidOver 5 rfl) (by decide) ?_
    refine g_icmp_ge (tgt := 29) hX (dk DX1_saidOver 6 rfl) (by decide) (fun hc1 => ?_) (fun hc1 => ?_)
    · refine g_iload_3 hX (dk DX1_saidOver 19 rfl) ?_
      refine g_ireturn hX (dk DX1_saidOver 20 rfl) rfl (rfl) (by decide) (by decide) ?_
      have hk0 := cl_end (e := 4) hk (by decide) hc1
      subst hk0
      exact rI_of hv rfl rfl
    · obtain ⟨k, rfl⟩ := cl_go (e := 4) hk (by decide) hc1
      refine g_iload_3 hX (dk DX1_saidOver 7 rfl) ?_
      refine g_aload_2 hX (dk DX1_saidOver 8 rfl) ?_
      refine g_iload_4 hX (dk DX1_saidOver 9 rfl) ?_
      refine i_iaload hX (dk DX1_saidOver 10 rfl) hh hhs (⟨rfl, by omega, by decide⟩) ?_
      refine g_aload_1 hX (dk DX1_saidOver 11 rfl) ?_
      refine g_iload_4 hX (dk DX1_saidOver 12 rfl) ?_
      refine i_iaload hX (dk DX1_saidOver 13 rfl) hb hbs (⟨rfl, by omega, by decide⟩) ?_
      refine g_imul hX (dk DX1_saidOver 14 rfl) ?_
      refine g_iadd hX (dk DX1_saidOver 15 rfl) ?_
      refine g_istore_3 hX (dk DX1_saidOver 16 rfl) (by decide) rfl ?_
      refine g_iinc_4 hX (dk DX1_saidOver 17 rfl) (nI_1 y) (by decide) rfl ?_
      refine g_goto (tgt := 5) hX (dk DX1_saidOver 18 rfl) (by decide) ?_
      exact ih k (by omega) (y + 1) _ (by omega) hv
  refine g_iconst (v := 0) hX (dk DX1_saidOver 0 rfl) (by decide) ?_
  refine g_istore_3 hX (dk DX1_saidOver 1 rfl) (by decide) rfl ?_
  refine g_iconst (v := 0) hX (dk DX1_saidOver 2 rfl) (by decide) ?_
  refine g_istore_4 hX (dk DX1_saidOver 3 rfl) (by decide) rfl ?_
  exact loop5 4 0 0 (Nat.zero_add _) rfl

set_option maxRecDepth 8000 in
set_option maxHeartbeats 4000000 in
theorem cv4_saidOver_10 {G : Gt} (hG : Gok G) {I : It} {h : Ht}  {q : Nat} {bq hq2 : Nat} (hq : q < hn h) (hcl : (hs h q).1 = 10) (hb : bq < hn h) (hbs : hs h bq = (20, 4)) (hh : hq2 < hn h) (hhs : hs h hq2 = (20, 4)) : Con G (2) 0 0 mX4_saidOver [.ref q, .ref bq, .ref hq2] I h (rI (if I hq2 3 = 0 then 0 else svA (I bq) (I hq2) 4 0 0) I h) := by
  refine con_intro (own := RX4) (lo0 := [some (.ref q), some (.ref bq), some (.ref hq2)]) hG rfl pl_X4 (Nat.le_of_ble_eq_true rfl) rfl (fun X hX => ?_)
  refine g_aload_2 hX (dk DX4_saidOver 0 rfl) ?_
  refine g_iconst (v := 3) hX (dk DX4_saidOver 1 rfl) (by decide) ?_
  refine i_iaload (j := 3) hX (dk DX4_saidOver 2 rfl) hh hhs (⟨rfl, by decide, by decide⟩) ?_
  refine g_if_ne (tgt := 10) hX (dk DX4_saidOver 3 rfl) (by decide) (fun hc1 => ?_) (fun hc1 => ?_)
  · refine g_aload_0 hX (dk DX4_saidOver 6 rfl) ?_
    refine g_aload_1 hX (dk DX4_saidOver 7 rfl) ?_
    refine g_aload_2 hX (dk DX4_saidOver 8 rfl) ?_
    refine g_c3I hX sX4_saidOver_13_c10 (by decide) (Nat.le_of_ble_eq_true rfl) (rc0 rfl hq hcl) (by decide) (by decide) (cv1_saidOver_10 hG hq hcl hb hbs hh hhs) ?_
    refine g_ireturn hX (dk DX4_saidOver 10 rfl) rfl (rfl) (by decide) (by decide) ?_
    exact rI_of (by (try first | rw [if_pos hc1] | rw [if_neg hc1] | rw [if_neg (not_not_intro hc1)]); first | done | rfl | rw [if_neg (Int32.not_lt.mpr (by assumption))] | rw [if_pos (Int32.not_le.mp (by assumption))]) rfl rfl
  · refine g_iconst (v := 0) hX (dk DX4_saidOver 4 rfl) (by decide) ?_
    refine g_goto (tgt := 16) hX (dk DX4_saidOver 5 rfl) (by decide) ?_
    refine g_ireturn hX (dk DX4_saidOver 10 rfl) rfl (rfl) (by decide) (by decide) ?_
    exact rI_of (by (try first | rw [if_pos hc1] | rw [if_neg hc1] | rw [if_neg (not_not_intro hc1)]); first | done | rfl | rw [if_neg (Int32.not_lt.mpr (by assumption))] | rw [if_pos (Int32.not_le.mp (by assumption))]) rfl rfl

set_option maxRecDepth 8000 in
set_option maxHeartbeats 4000000 in
theorem cv_saidOver_10 {G : Gt} (hG : Gok G) {I : It} {h : Ht}  {q : Nat} {bq hq2 : Nat} (hq : q < hn h) (hcl : (hs h q).1 = 10) (hb : bq < hn h) (hbs : hs h bq = (20, 4)) (hh : hq2 < hn h) (hhs : hs h hq2 = (20, 4)) : Con G (3) 0 0 mX10_saidOver [.ref q, .ref bq, .ref hq2] I h (rI (svC 10 (I q 1) (I bq) (I hq2)) I h) := by
  refine con_intro (own := RX10) (lo0 := [some (.ref q), some (.ref bq), some (.ref hq2)]) hG rfl pl_X10 (Nat.le_of_ble_eq_true rfl) rfl (fun X hX => ?_)
  refine g_aload_0 hX (dk DX10_saidOver 0 rfl) ?_
  refine g_aload_1 hX (dk DX10_saidOver 1 rfl) ?_
  refine g_aload_2 hX (dk DX10_saidOver 2 rfl) ?_
  refine g_c3I hX sX10_saidOver_3_c10 (by decide) (Nat.le_of_ble_eq_true rfl) (rc0 rfl hq hcl) (by decide) (by decide) (cv4_saidOver_10 hG hq hcl hb hbs hh hhs) ?_
  refine g_aload_0 hX (dk DX10_saidOver 4 rfl) ?_
  refine g_getI hX (dk DX10_saidOver 5 rfl) KX10 fX10_11 (by decide) rfl hq hcl ?_
  refine g_isub hX (dk DX10_saidOver 6 rfl) ?_
  refine g_ireturn hX (dk DX10_saidOver 7 rfl) rfl (rfl) (by decide) (by decide) ?_
  exact rI_of (by rw [svC_10];  first | done | rfl | rw [if_neg (Int32.not_lt.mpr (by assumption))] | rw [if_pos (Int32.not_le.mp (by assumption))]) rfl rfl

theorem cD_saidOver {G : Gt} (hG : Gok G) {I : It} {h : Ht} {q : Nat} {bq hq2 : Nat} (hq : q < hn h) (hdc : isDC (hs h q).1) (hb : bq < hn h) (hbs : hs h bq = (20, 4)) (hh : hq2 < hn h) (hhs : hs h hq2 = (20, 4)) : Con G 3 0 0 (vm_saidOver (hs h q).1) [.ref q, .ref bq, .ref hq2] I h (rI (svC (hs h q).1 (I q 1) (I bq) (I hq2)) I h) := by
  rcases hdc with e | e | e | e | e | e | e <;> rw [e]
  · exact cv_saidOver_1 hG hq e hb hbs hh hhs
  · exact cv_saidOver_2 hG hq e hb hbs hh hhs
  · exact cv_saidOver_4 hG hq e hb hbs hh hhs
  · exact cv_saidOver_6 hG hq e hb hbs hh hhs
  · exact cv_saidOver_8 hG hq e hb hbs hh hhs
  · exact cv_saidOver_9 hG hq e hb hbs hh hhs
  · exact cv_saidOver_10 hG hq e hb hbs hh hhs
end
section
set_option maxRecDepth 8000 in
set_option maxHeartbeats 4000000 in
theorem c_X7_begins {G : Gt} (hG : Gok G) {I : It} {h : Ht}  (hH : HX h) {b : Int32} {r : Nat} (hr : I 32 1 = nI r) (hr2 : r ≤ 90) : Con G (1) 0 0 mX7_begins [.ref 32, .int b] I h (rV (tb1 I b) h) := by
  refine con_intro (own := RX7) (lo0 := [some (.ref 32), some (.int b)]) hG rfl pl_X7 (Nat.le_of_ble_eq_true rfl) rfl (fun X hX => ?_)
  refine g_aload_0 hX (dk DX7_begins 0 rfl) ?_
  refine g_getIv hX (dk DX7_begins 1 rfl) KX7 fX7_13 (by decide) rfl (CLt hH (q := 32) (by decide)) (CC hH 32 (by decide) rfl) (hr) ?_
  refine g_aload_0 hX (dk DX7_begins 2 rfl) ?_
  refine g_getRs (r := 33) hX (dk DX7_begins 3 rfl) KX7 fX7_7 (by decide) rfl (CLt hH (q := 32) (by decide)) (CC hH 32 (by decide) rfl) (CR hH 32 0 33 (by decide)) ?_
  refine g_alen (v := 20) hX (dk DX7_begins 4 rfl) (CLt hH (q := 33) (by decide)) (CS hH 33 (by decide) rfl) (by decide) (i0 := 0) rfl (by decide) ?_
  refine g_icmp_ge (tgt := 22) hX (dk DX7_begins 5 rfl) (by decide) (fun hc1 => ?_) (fun hc1 => ?_)
  · refine g_aload_0 hX (dk DX7_begins 12 rfl) ?_
    refine g_dup hX (dk DX7_begins 13 rfl) rfl ?_
    refine g_getI hX (dk DX7_begins 14 rfl) KX7 fX7_13 (by decide) rfl (CLt hH (q := 32) (by decide)) (CC hH 32 (by decide) rfl) ?_
    refine g_iconst (v := 1) hX (dk DX7_begins 15 rfl) (by decide) ?_
    refine g_iadd hX (dk DX7_begins 16 rfl) ?_
    refine g_putI hX (dk DX7_begins 17 rfl) KX7 fX7_13 (by decide) rfl (CLt hH (q := 32) (by decide)) (CC hH 32 (by decide) rfl) (Or.inl rfl) (rfl) (rfl) ?_
    refine g_return hX (dk DX7_begins 18 rfl) rfl (by decide) (by decide) ?_
    first
    | exact rV_of (by unfold tb1; rw [if_pos hlt, show (upI I 33 r b) 32 1 = I 32 1 from rfl, hr, tN_nI (by omega)]) rfl
    | exact rV_of (by unfold tb1; rw [if_neg (by rw [hr]; exact Int32.not_lt.mpr hc1)]) rfl
    | exact rV_of (by unfold tb1; rw [if_neg (by rw [hr]; exact Int32.not_lt.mpr (Decidable.not_not.mp hc1))]) rfl
  · have hb20 : r < 20 := by
      rcases Nat.lt_or_ge r 20 with z | z
      · exact z
      · exact absurd (nI_le (a := 20) z (by omega)) hc1
    have hlt : I 32 1 < 20 := by rw [hr]; exact Int32.not_le.mp hc1
    refine g_aload_0 hX (dk DX7_begins 6 rfl) ?_
    refine g_getRs (r := 33) hX (dk DX7_begins 7 rfl) KX7 fX7_7 (by decide) rfl (CLt hH (q := 32) (by decide)) (CC hH 32 (by decide) rfl) (CR hH 32 0 33 (by decide)) ?_
    refine g_aload_0 hX (dk DX7_begins 8 rfl) ?_
    refine g_getIv hX (dk DX7_begins 9 rfl) KX7 fX7_13 (by decide) rfl (CLt hH (q := 32) (by decide)) (CC hH 32 (by decide) rfl) (hr) ?_
    refine g_iload_1 hX (dk DX7_begins 10 rfl) ?_
    refine i_iastore hX (dk DX7_begins 11 rfl) (CLt hH (q := 33) (by decide)) (CS hH 33 (by decide) rfl) (⟨rfl, hb20, by decide⟩) ?_
    refine g_aload_0 hX (dk DX7_begins 12 rfl) ?_
    refine g_dup hX (dk DX7_begins 13 rfl) rfl ?_
    refine g_getI hX (dk DX7_begins 14 rfl) KX7 fX7_13 (by decide) rfl (CLt hH (q := 32) (by decide)) (CC hH 32 (by decide) rfl) ?_
    refine g_iconst (v := 1) hX (dk DX7_begins 15 rfl) (by decide) ?_
    refine g_iadd hX (dk DX7_begins 16 rfl) ?_
    refine g_putI hX (dk DX7_begins 17 rfl) KX7 fX7_13 (by decide) rfl (CLt hH (q := 32) (by decide)) (CC hH 32 (by decide) rfl) (Or.inl rfl) (rfl) (rfl) ?_
    refine g_return hX (dk DX7_begins 18 rfl) rfl (by decide) (by decide) ?_
    first
    | exact rV_of (by unfold tb1; rw [if_pos hlt, show (upI I 33 r b) 32 1 = I 32 1 from rfl, hr, tN_nI (by omega)]) rfl
    | exact rV_of (by unfold tb1; rw [if_neg (by rw [hr]; exact Int32.not_lt.mpr hc1)]) rfl
    | exact rV_of (by unfold tb1; rw [if_neg (by rw [hr]; exact Int32.not_lt.mpr (Decidable.not_not.mp hc1))]) rfl

set_option maxRecDepth 8000 in
set_option maxHeartbeats 4000000 in
theorem cv_says_1 {G : Gt} (hG : Gok G) {I : It} {h : Ht}  {q : Nat} {x : Int32} (hq : q < hn h) (hcl : (hs h q).1 = 1) (hH : HX h) {r : Nat} (hr : I 32 1 = nI r) (hr2 : r ≤ 80) (h32 : q ≠ 32) (h33 : q ≠ 33) : Con G (3) 0 0 mX1_says [.ref q, .int x, .ref 32] I h (rI (dsV 1 (I q 0) (I q 1) x) (tbL I (dsB 1)) h) := by
  refine con_intro (own := RX1) (lo0 := [some (.ref q), some (.int x), some (.ref 32)]) hG rfl pl_X1 (Nat.le_of_ble_eq_true rfl) rfl (fun X hX => ?_)
  refine g_aload_2 hX (dk DX1_says 0 rfl) ?_
  refine g_bipush (v := 10) hX (dk DX1_says 1 rfl) (by decide) ?_
  refine g_c2V hX sX1_says_3 (by decide) (Nat.le_of_ble_eq_true rfl) (rc0 rfl (CLt hH (by decide)) (CC hH 32 (by decide) rfl)) (by decide) (by decide) (c_X7_begins hG hH (by exact hr) (by omega)) ?_
  have hr := tb1_ran _ 10 hr
  refine g_iload_1 hX (dk DX1_says 3 rfl) ?_
  refine g_aload_0 hX (dk DX1_says 4 rfl) ?_
  refine g_getIv hX (dk DX1_says 5 rfl) KX1 fX1_9 (by decide) rfl hq hcl ((show _ = I q 0 from by first | (simp only [tbL_off _ _ h32 h33, tb1_off _ _ h32 h33]; done) | rfl)) ?_
  refine g_iadd hX (dk DX1_says 6 rfl) ?_
  refine g_ireturn hX (dk DX1_says 7 rfl) rfl (rfl) (by decide) (by decide) ?_
  exact rI_of rfl ((tbL_1 I 10).symm) rfl

set_option maxRecDepth 8000 in
set_option maxHeartbeats 4000000 in
theorem cv_holds_1 {G : Gt} (hG : Gok G) {I : It} {h : Ht}  {q : Nat} {x : Int32} (hq : q < hn h) (hcl : (hs h q).1 = 1) (hH : HX h) {r : Nat} (hr : I 32 1 = nI r) (hr2 : r ≤ 75) (h32 : q ≠ 32) (h33 : q ≠ 33) : Con G (6) 0 0 mX1_holds [.ref q, .int x, .ref 32] I h (rI (dhV 1 (I q 0) (I q 1) x) (tbL I (dhB 1)) h) := by
  refine con_intro (own := RX1) (lo0 := [some (.ref q), some (.int x), some (.ref 32)]) hG rfl pl_X1 (Nat.le_of_ble_eq_true rfl) rfl (fun X hX => ?_)
  refine g_aload_2 hX (dk DX1_holds 0 rfl) ?_
  refine g_bipush (v := 11) hX (dk DX1_holds 1 rfl) (by decide) ?_
  refine g_c2V hX sX1_holds_3 (by decide) (Nat.le_of_ble_eq_true rfl) (rc0 rfl (CLt hH (by decide)) (CC hH 32 (by decide) rfl)) (by decide) (by decide) (c_X7_begins hG hH (by exact hr) (by omega)) ?_
  have hr := tb1_ran _ 11 hr
  refine g_aload_0 hX (dk DX1_holds 3 rfl) ?_
  refine g_iload_1 hX (dk DX1_holds 4 rfl) ?_
  refine g_aload_2 hX (dk DX1_holds 5 rfl) ?_
  refine g_c3I hX sX1_holds_9_c1 (by decide) (Nat.le_of_ble_eq_true rfl) (rc0 rfl hq hcl) (by decide) (by decide) (cv_says_1 hG hq hcl hH (by exact hr) (by omega) h32 h33) ?_
  refine g_nmI (dsV 1 (I q 0) (I q 1) x) (by rw [tb1_off _ _ h32 h33]) ?_
  have hr := tbL_ran (dsB 1) _ hr
  have hlen := dsB_len 1
  refine g_aload_0 hX (dk DX1_holds 7 rfl) ?_
  refine g_getIv hX (dk DX1_holds 8 rfl) KX1 fX1_15 (by decide) rfl hq hcl ((show _ = I q 1 from by first | (simp only [tbL_off _ _ h32 h33, tb1_off _ _ h32 h33]; done) | rfl)) ?_
  refine g_isub hX (dk DX1_holds 9 rfl) ?_
  refine g_ireturn hX (dk DX1_holds 10 rfl) rfl (rfl) (by decide) (by decide) ?_
  exact rI_of rfl ((tbL_c I 11 (dsB 1)).symm) rfl

set_option maxRecDepth 8000 in
set_option maxHeartbeats 4000000 in
theorem cv_tells_1 {G : Gt} (hG : Gok G) {I : It} {h : Ht}  {q : Nat} {x : Int32} (hq : q < hn h) (hcl : (hs h q).1 = 1) (hH : HX h) {r : Nat} (hr : I 32 1 = nI r) (hr2 : r ≤ 60) (h32 : q ≠ 32) (h33 : q ≠ 33) : Con G (8) 0 0 mX1_tells [.ref q, .int x, .ref 32] I h (rI (dtlV 1 (I q 0) (I q 1) x) (tbL I (dtlB 1)) h) := by
  refine con_intro (own := RX1) (lo0 := [some (.ref q), some (.int x), some (.ref 32)]) hG rfl pl_X1 (Nat.le_of_ble_eq_true rfl) rfl (fun X hX => ?_)
  refine g_aload_2 hX (dk DX1_tells 0 rfl) ?_
  refine g_bipush (v := 12) hX (dk DX1_tells 1 rfl) (by decide) ?_
  refine g_c2V hX sX1_tells_3 (by decide) (Nat.le_of_ble_eq_true rfl) (rc0 rfl (CLt hH (by decide)) (CC hH 32 (by decide) rfl)) (by decide) (by decide) (c_X7_begins hG hH (by exact hr) (by omega)) ?_
  have hr := tb1_ran _ 12 hr
  refine g_aload_0 hX (dk DX1_tells 3 rfl) ?_
  refine g_iload_1 hX (dk DX1_tells 4 rfl) ?_
  refine g_aload_2 hX (dk DX1_tells 5 rfl) ?_
  refine g_c3I hX sX1_tells_9_c1 (by decide) (Nat.le_of_ble_eq_true rfl) (rc0 rfl hq hcl) (by decide) (by decide) (cv_holds_1 hG hq hcl hH (by exact hr) (by omega) h32 h33) ?_
  refine g_nmI (dhV 1 (I q 0) (I q 1) x) (by rw [tb1_off _ _ h32 h33]) ?_
  have hr := tbL_ran (dhB 1) _ hr
  have hlen := dhB_len 1
  refine g_iconst (v := 2) hX (dk DX1_tells 7 rfl) (by decide) ?_
  refine g_imul hX (dk DX1_tells 8 rfl) ?_
  refine g_ireturn hX (dk DX1_tells 9 rfl) rfl (rfl) (by decide) (by decide) ?_
  exact rI_of rfl ((tbL_c I 12 (dhB 1)).symm) rfl

set_option maxRecDepth 8000 in
set_option maxHeartbeats 4000000 in
theorem cv1_says_2 {G : Gt} (hG : Gok G) {I : It} {h : Ht}  {q : Nat} {x : Int32} (hq : q < hn h) (hcl : (hs h q).1 = 2) (hH : HX h) {r : Nat} (hr : I 32 1 = nI r) (hr2 : r ≤ 80) (h32 : q ≠ 32) (h33 : q ≠ 33) : Con G (2) 0 0 mX1_says [.ref q, .int x, .ref 32] I h (rI (x + I q 0) (tb1 I 10) h) := by
  refine con_intro (own := RX1) (lo0 := [some (.ref q), some (.int x), some (.ref 32)]) hG rfl pl_X1 (Nat.le_of_ble_eq_true rfl) rfl (fun X hX => ?_)
  refine g_aload_2 hX (dk DX1_says 0 rfl) ?_
  refine g_bipush (v := 10) hX (dk DX1_says 1 rfl) (by decide) ?_
  refine g_c2V hX sX1_says_3 (by decide) (Nat.le_of_ble_eq_true rfl) (rc0 rfl (CLt hH (by decide)) (CC hH 32 (by decide) rfl)) (by decide) (by decide) (c_X7_begins hG hH (by exact hr) (by omega)) ?_
  have hr := tb1_ran _ 10 hr
  refine g_iload_1 hX (dk DX1_says 3 rfl) ?_
  refine g_aload_0 hX (dk DX1_says 4 rfl) ?_
  refine g_getIv hX (dk DX1_says 5 rfl) KX2 fX1_9 (by decide) rfl hq hcl ((show _ = I q 0 from by first | (simp only [tbL_off _ _ h32 h33, tb1_off _ _ h32 h33]; done) | rfl)) ?_
  refine g_iadd hX (dk DX1_says 6 rfl) ?_
  refine g_ireturn hX (dk DX1_says 7 rfl) rfl (rfl) (by decide) (by decide) ?_
  exact rI_of rfl (rfl) rfl

set_option maxRecDepth 8000 in
set_option maxHeartbeats 4000000 in
theorem cv_says_2 {G : Gt} (hG : Gok G) {I : It} {h : Ht}  {q : Nat} {x : Int32} (hq : q < hn h) (hcl : (hs h q).1 = 2) (hH : HX h) {r : Nat} (hr : I 32 1 = nI r) (hr2 : r ≤ 79) (h32 : q ≠ 32) (h33 : q ≠ 33) : Con G (3) 0 0 mX2_says [.ref q, .int x, .ref 32] I h (rI (dsV 2 (I q 0) (I q 1) x) (tbL I (dsB 2)) h) := by
  refine con_intro (own := RX2) (lo0 := [some (.ref q), some (.int x), some (.ref 32)]) hG rfl pl_X2 (Nat.le_of_ble_eq_true rfl) rfl (fun X hX => ?_)
  refine g_aload_2 hX (dk DX2_says 0 rfl) ?_
  refine g_bipush (v := 30) hX (dk DX2_says 1 rfl) (by decide) ?_
  refine g_c2V hX sX2_says_3 (by decide) (Nat.le_of_ble_eq_true rfl) (rc0 rfl (CLt hH (by decide)) (CC hH 32 (by decide) rfl)) (by decide) (by decide) (c_X7_begins hG hH (by exact hr) (by omega)) ?_
  have hr := tb1_ran _ 30 hr
  refine g_aload_0 hX (dk DX2_says 3 rfl) ?_
  refine g_iload_1 hX (dk DX2_says 4 rfl) ?_
  refine g_iconst (v := 3) hX (dk DX2_says 5 rfl) (by decide) ?_
  refine g_imul hX (dk DX2_says 6 rfl) ?_
  refine g_aload_2 hX (dk DX2_says 7 rfl) ?_
  refine g_c3I hX sX2_says_11_c2 (by decide) (Nat.le_of_ble_eq_true rfl) (rc0 rfl hq hcl) (by decide) (by decide) (cv1_says_2 hG hq hcl hH (by exact hr) (by omega) h32 h33) ?_
  refine g_nmI (x * 3 + I q 0) (by rw [tb1_off _ _ h32 h33]) ?_
  refine g_ireturn hX (dk DX2_says 9 rfl) rfl (rfl) (by decide) (by decide) ?_
  exact rI_of rfl ((tbL_2 I 30 10).symm) rfl

set_option maxRecDepth 8000 in
set_option maxHeartbeats 4000000 in
theorem cv_holds_2 {G : Gt} (hG : Gok G) {I : It} {h : Ht}  {q : Nat} {x : Int32} (hq : q < hn h) (hcl : (hs h q).1 = 2) (hH : HX h) {r : Nat} (hr : I 32 1 = nI r) (hr2 : r ≤ 75) (h32 : q ≠ 32) (h33 : q ≠ 33) : Con G (6) 0 0 mX1_holds [.ref q, .int x, .ref 32] I h (rI (dhV 2 (I q 0) (I q 1) x) (tbL I (dhB 2)) h) := by
  refine con_intro (own := RX1) (lo0 := [some (.ref q), some (.int x), some (.ref 32)]) hG rfl pl_X1 (Nat.le_of_ble_eq_true rfl) rfl (fun X hX => ?_)
  refine g_aload_2 hX (dk DX1_holds 0 rfl) ?_
  refine g_bipush (v := 11) hX (dk DX1_holds 1 rfl) (by decide) ?_
  refine g_c2V hX sX1_holds_3 (by decide) (Nat.le_of_ble_eq_true rfl) (rc0 rfl (CLt hH (by decide)) (CC hH 32 (by decide) rfl)) (by decide) (by decide) (c_X7_begins hG hH (by exact hr) (by omega)) ?_
  have hr := tb1_ran _ 11 hr
  refine g_aload_0 hX (dk DX1_holds 3 rfl) ?_
  refine g_iload_1 hX (dk DX1_holds 4 rfl) ?_
  refine g_aload_2 hX (dk DX1_holds 5 rfl) ?_
  refine g_c3I hX sX1_holds_9_c2 (by decide) (Nat.le_of_ble_eq_true rfl) (rc0 rfl hq hcl) (by decide) (by decide) (cv_says_2 hG hq hcl hH (by exact hr) (by omega) h32 h33) ?_
  refine g_nmI (dsV 2 (I q 0) (I q 1) x) (by rw [tb1_off _ _ h32 h33]) ?_
  have hr := tbL_ran (dsB 2) _ hr
  have hlen := dsB_len 2
  refine g_aload_0 hX (dk DX1_holds 7 rfl) ?_
  refine g_getIv hX (dk DX1_holds 8 rfl) KX2 fX1_15 (by decide) rfl hq hcl ((show _ = I q 1 from by first | (simp only [tbL_off _ _ h32 h33, tb1_off _ _ h32 h33]; done) | rfl)) ?_
  refine g_isub hX (dk DX1_holds 9 rfl) ?_
  refine g_ireturn hX (dk DX1_holds 10 rfl) rfl (rfl) (by decide) (by decide) ?_
  exact rI_of rfl ((tbL_c I 11 (dsB 2)).symm) rfl

set_option maxRecDepth 8000 in
set_option maxHeartbeats 4000000 in
theorem cv_tells_2 {G : Gt} (hG : Gok G) {I : It} {h : Ht}  {q : Nat} {x : Int32} (hq : q < hn h) (hcl : (hs h q).1 = 2) (hH : HX h) {r : Nat} (hr : I 32 1 = nI r) (hr2 : r ≤ 60) (h32 : q ≠ 32) (h33 : q ≠ 33) : Con G (8) 0 0 mX1_tells [.ref q, .int x, .ref 32] I h (rI (dtlV 2 (I q 0) (I q 1) x) (tbL I (dtlB 2)) h) := by
  refine con_intro (own := RX1) (lo0 := [some (.ref q), some (.int x), some (.ref 32)]) hG rfl pl_X1 (Nat.le_of_ble_eq_true rfl) rfl (fun X hX => ?_)
  refine g_aload_2 hX (dk DX1_tells 0 rfl) ?_
  refine g_bipush (v := 12) hX (dk DX1_tells 1 rfl) (by decide) ?_
  refine g_c2V hX sX1_tells_3 (by decide) (Nat.le_of_ble_eq_true rfl) (rc0 rfl (CLt hH (by decide)) (CC hH 32 (by decide) rfl)) (by decide) (by decide) (c_X7_begins hG hH (by exact hr) (by omega)) ?_
  have hr := tb1_ran _ 12 hr
  refine g_aload_0 hX (dk DX1_tells 3 rfl) ?_
  refine g_iload_1 hX (dk DX1_tells 4 rfl) ?_
  refine g_aload_2 hX (dk DX1_tells 5 rfl) ?_
  refine g_c3I hX sX1_tells_9_c2 (by decide) (Nat.le_of_ble_eq_true rfl) (rc0 rfl hq hcl) (by decide) (by decide) (cv_holds_2 hG hq hcl hH (by exact hr) (by omega) h32 h33) ?_
  refine g_nmI (dhV 2 (I q 0) (I q 1) x) (by rw [tb1_off _ _ h32 h33]) ?_
  have hr := tbL_ran (dhB 2) _ hr
  have hlen := dhB_len 2
  refine g_iconst (v := 2) hX (dk DX1_tells 7 rfl) (by decide) ?_
  refine g_imul hX (dk DX1_tells 8 rfl) ?_
  refine g_ireturn hX (dk DX1_tells 9 rfl) rfl (rfl) (by decide) (by decide) ?_
  exact rI_of rfl ((tbL_c I 12 (dhB 2)).symm) rfl

set_option maxRecDepth 8000 in
set_option maxHeartbeats 4000000 in
theorem cv_says_4 {G : Gt} (hG : Gok G) {I : It} {h : Ht}  {q : Nat} {x : Int32} (hq : q < hn h) (hcl : (hs h q).1 = 4) (hH : HX h) {r : Nat} (hr : I 32 1 = nI r) (hr2 : r ≤ 80) (h32 : q ≠ 32) (h33 : q ≠ 33) : Con G (3) 0 0 mX1_says [.ref q, .int x, .ref 32] I h (rI (dsV 4 (I q 0) (I q 1) x) (tbL I (dsB 4)) h) := by
  refine con_intro (own := RX1) (lo0 := [some (.ref q), some (.int x), some (.ref 32)]) hG rfl pl_X1 (Nat.le_of_ble_eq_true rfl) rfl (fun X hX => ?_)
  refine g_aload_2 hX (dk DX1_says 0 rfl) ?_
  refine g_bipush (v := 10) hX (dk DX1_says 1 rfl) (by decide) ?_
  refine g_c2V hX sX1_says_3 (by decide) (Nat.le_of_ble_eq_true rfl) (rc0 rfl (CLt hH (by decide)) (CC hH 32 (by decide) rfl)) (by decide) (by decide) (c_X7_begins hG hH (by exact hr) (by omega)) ?_
  have hr := tb1_ran _ 10 hr
  refine g_iload_1 hX (dk DX1_says 3 rfl) ?_
  refine g_aload_0 hX (dk DX1_says 4 rfl) ?_
  refine g_getIv hX (dk DX1_says 5 rfl) KX4 fX1_9 (by decide) rfl hq hcl ((show _ = I q 0 from by first | (simp only [tbL_off _ _ h32 h33, tb1_off _ _ h32 h33]; done) | rfl)) ?_
  refine g_iadd hX (dk DX1_says 6 rfl) ?_
  refine g_ireturn hX (dk DX1_says 7 rfl) rfl (rfl) (by decide) (by decide) ?_
  exact rI_of rfl ((tbL_1 I 10).symm) rfl

set_option maxRecDepth 8000 in
set_option maxHeartbeats 4000000 in
theorem cv_holds_4 {G : Gt} (hG : Gok G) {I : It} {h : Ht}  {q : Nat} {x : Int32} (hq : q < hn h) (hcl : (hs h q).1 = 4) (hH : HX h) {r : Nat} (hr : I 32 1 = nI r) (hr2 : r ≤ 75) (h32 : q ≠ 32) (h33 : q ≠ 33) : Con G (6) 0 0 mX1_holds [.ref q, .int x, .ref 32] I h (rI (dhV 4 (I q 0) (I q 1) x) (tbL I (dhB 4)) h) := by
  refine con_intro (own := RX1) (lo0 := [some (.ref q), some (.int x), some (.ref 32)]) hG rfl pl_X1 (Nat.le_of_ble_eq_true rfl) rfl (fun X hX => ?_)
  refine g_aload_2 hX (dk DX1_holds 0 rfl) ?_
  refine g_bipush (v := 11) hX (dk DX1_holds 1 rfl) (by decide) ?_
  refine g_c2V hX sX1_holds_3 (by decide) (Nat.le_of_ble_eq_true rfl) (rc0 rfl (CLt hH (by decide)) (CC hH 32 (by decide) rfl)) (by decide) (by decide) (c_X7_begins hG hH (by exact hr) (by omega)) ?_
  have hr := tb1_ran _ 11 hr
  refine g_aload_0 hX (dk DX1_holds 3 rfl) ?_
  refine g_iload_1 hX (dk DX1_holds 4 rfl) ?_
  refine g_aload_2 hX (dk DX1_holds 5 rfl) ?_
  refine g_c3I hX sX1_holds_9_c4 (by decide) (Nat.le_of_ble_eq_true rfl) (rc0 rfl hq hcl) (by decide) (by decide) (cv_says_4 hG hq hcl hH (by exact hr) (by omega) h32 h33) ?_
  refine g_nmI (dsV 4 (I q 0) (I q 1) x) (by rw [tb1_off _ _ h32 h33]) ?_
  have hr := tbL_ran (dsB 4) _ hr
  have hlen := dsB_len 4
  refine g_aload_0 hX (dk DX1_holds 7 rfl) ?_
  refine g_getIv hX (dk DX1_holds 8 rfl) KX4 fX1_15 (by decide) rfl hq hcl ((show _ = I q 1 from by first | (simp only [tbL_off _ _ h32 h33, tb1_off _ _ h32 h33]; done) | rfl)) ?_
  refine g_isub hX (dk DX1_holds 9 rfl) ?_
  refine g_ireturn hX (dk DX1_holds 10 rfl) rfl (rfl) (by decide) (by decide) ?_
  exact rI_of rfl ((tbL_c I 11 (dsB 4)).symm) rfl

set_option maxRecDepth 8000 in
set_option maxHeartbeats 4000000 in
theorem cv1_tells_4 {G : Gt} (hG : Gok G) {I : It} {h : Ht}  {q : Nat} {x : Int32} (hq : q < hn h) (hcl : (hs h q).1 = 4) (hH : HX h) {r : Nat} (hr : I 32 1 = nI r) (hr2 : r ≤ 60) (h32 : q ≠ 32) (h33 : q ≠ 33) : Con G (7) 0 0 mX1_tells [.ref q, .int x, .ref 32] I h (rI (dtV 4 (I q 0) (I q 1) x) (tbL I (12 :: dhB 4)) h) := by
  refine con_intro (own := RX1) (lo0 := [some (.ref q), some (.int x), some (.ref 32)]) hG rfl pl_X1 (Nat.le_of_ble_eq_true rfl) rfl (fun X hX => ?_)
  refine g_aload_2 hX (dk DX1_tells 0 rfl) ?_
  refine g_bipush (v := 12) hX (dk DX1_tells 1 rfl) (by decide) ?_
  refine g_c2V hX sX1_tells_3 (by decide) (Nat.le_of_ble_eq_true rfl) (rc0 rfl (CLt hH (by decide)) (CC hH 32 (by decide) rfl)) (by decide) (by decide) (c_X7_begins hG hH (by exact hr) (by omega)) ?_
  have hr := tb1_ran _ 12 hr
  refine g_aload_0 hX (dk DX1_tells 3 rfl) ?_
  refine g_iload_1 hX (dk DX1_tells 4 rfl) ?_
  refine g_aload_2 hX (dk DX1_tells 5 rfl) ?_
  refine g_c3I hX sX1_tells_9_c4 (by decide) (Nat.le_of_ble_eq_true rfl) (rc0 rfl hq hcl) (by decide) (by decide) (cv_holds_4 hG hq hcl hH (by exact hr) (by omega) h32 h33) ?_
  refine g_nmI (dhV 4 (I q 0) (I q 1) x) (by rw [tb1_off _ _ h32 h33]) ?_
  have hr := tbL_ran (dhB 4) _ hr
  have hlen := dhB_len 4
  refine g_iconst (v := 2) hX (dk DX1_tells 7 rfl) (by decide) ?_
  refine g_imul hX (dk DX1_tells 8 rfl) ?_
  refine g_ireturn hX (dk DX1_tells 9 rfl) rfl (rfl) (by decide) (by decide) ?_
  exact rI_of rfl ((tbL_c I 12 (dhB 4)).symm) rfl

set_option maxRecDepth 8000 in
set_option maxHeartbeats 4000000 in
theorem cv_tells_4 {G : Gt} (hG : Gok G) {I : It} {h : Ht}  {q : Nat} {x : Int32} (hq : q < hn h) (hcl : (hs h q).1 = 4) (hH : HX h) {r : Nat} (hr : I 32 1 = nI r) (hr2 : r ≤ 50) (h32 : q ≠ 32) (h33 : q ≠ 33) : Con G (8) 0 0 mX4_tells [.ref q, .int x, .ref 32] I h (rI (dtlV 4 (I q 0) (I q 1) x) (tbL I (dtlB 4)) h) := by
  refine con_intro (own := RX4) (lo0 := [some (.ref q), some (.int x), some (.ref 32)]) hG rfl pl_X4 (Nat.le_of_ble_eq_true rfl) rfl (fun X hX => ?_)
  refine g_aload_2 hX (dk DX4_tells 0 rfl) ?_
  refine g_bipush (v := 40) hX (dk DX4_tells 1 rfl) (by decide) ?_
  refine g_c2V hX sX4_tells_3 (by decide) (Nat.le_of_ble_eq_true rfl) (rc0 rfl (CLt hH (by decide)) (CC hH 32 (by decide) rfl)) (by decide) (by decide) (c_X7_begins hG hH (by exact hr) (by omega)) ?_
  have hr := tb1_ran _ 40 hr
  refine g_aload_0 hX (dk DX4_tells 3 rfl) ?_
  refine g_iload_1 hX (dk DX4_tells 4 rfl) ?_
  refine g_aload_2 hX (dk DX4_tells 5 rfl) ?_
  refine g_c3I hX sX4_tells_9_c4 (by decide) (Nat.le_of_ble_eq_true rfl) (rc0 rfl hq hcl) (by decide) (by decide) (cv1_tells_4 hG hq hcl hH (by exact hr) (by omega) h32 h33) ?_
  refine g_nmI (dtV 4 (I q 0) (I q 1) x) (by rw [tb1_off _ _ h32 h33]) ?_
  have hr := tbL_ran (12 :: dhB 4) _ hr
  have hlen := dhB_len 4
  rw [List.length_cons] at hr
  refine g_aload_0 hX (dk DX4_tells 7 rfl) ?_
  refine g_iconst (v := 1) hX (dk DX4_tells 8 rfl) (by decide) ?_
  refine g_aload_2 hX (dk DX4_tells 9 rfl) ?_
  refine g_c3I hX sX4_tells_15_c4 (by decide) (Nat.le_of_ble_eq_true rfl) (rc0 rfl hq hcl) (by decide) (by decide) (cv_holds_4 hG hq hcl hH (by exact hr) (by omega) h32 h33) ?_
  refine g_nmI (dhV 4 (I q 0) (I q 1) 1) (by rw [tbL_off _ _ h32 h33, tb1_off _ _ h32 h33]) ?_
  refine g_iadd hX (dk DX4_tells 11 rfl) ?_
  refine g_ireturn hX (dk DX4_tells 12 rfl) rfl (rfl) (by decide) (by decide) ?_
  exact rI_of rfl ((tbL_app _ _ _).trans (tbL_c I 40 _).symm) rfl

set_option maxRecDepth 8000 in
set_option maxHeartbeats 4000000 in
theorem cv1_says_6 {G : Gt} (hG : Gok G) {I : It} {h : Ht}  {q : Nat} {x : Int32} (hq : q < hn h) (hcl : (hs h q).1 = 6) (hH : HX h) {r : Nat} (hr : I 32 1 = nI r) (hr2 : r ≤ 80) (h32 : q ≠ 32) (h33 : q ≠ 33) : Con G (2) 0 0 mX1_says [.ref q, .int x, .ref 32] I h (rI (x + I q 0) (tb1 I 10) h) := by
  refine con_intro (own := RX1) (lo0 := [some (.ref q), some (.int x), some (.ref 32)]) hG rfl pl_X1 (Nat.le_of_ble_eq_true rfl) rfl (fun X hX => ?_)
  refine g_aload_2 hX (dk DX1_says 0 rfl) ?_
  refine g_bipush (v := 10) hX (dk DX1_says 1 rfl) (by decide) ?_
  refine g_c2V hX sX1_says_3 (by decide) (Nat.le_of_ble_eq_true rfl) (rc0 rfl (CLt hH (by decide)) (CC hH 32 (by decide) rfl)) (by decide) (by decide) (c_X7_begins hG hH (by exact hr) (by omega)) ?_
  have hr := tb1_ran _ 10 hr
  refine g_iload_1 hX (dk DX1_says 3 rfl) ?_
  refine g_aload_0 hX (dk DX1_says 4 rfl) ?_
  refine g_getIv hX (dk DX1_says 5 rfl) KX6 fX1_9 (by decide) rfl hq hcl ((show _ = I q 0 from by first | (simp only [tbL_off _ _ h32 h33, tb1_off _ _ h32 h33]; done) | rfl)) ?_
  refine g_iadd hX (dk DX1_says 6 rfl) ?_
  refine g_ireturn hX (dk DX1_says 7 rfl) rfl (rfl) (by decide) (by decide) ?_
  exact rI_of rfl (rfl) rfl

set_option maxRecDepth 8000 in
set_option maxHeartbeats 4000000 in
theorem cv_says_6 {G : Gt} (hG : Gok G) {I : It} {h : Ht}  {q : Nat} {x : Int32} (hq : q < hn h) (hcl : (hs h q).1 = 6) (hH : HX h) {r : Nat} (hr : I 32 1 = nI r) (hr2 : r ≤ 79) (h32 : q ≠ 32) (h33 : q ≠ 33) : Con G (3) 0 0 mX2_says [.ref q, .int x, .ref 32] I h (rI (dsV 6 (I q 0) (I q 1) x) (tbL I (dsB 6)) h) := by
  refine con_intro (own := RX2) (lo0 := [some (.ref q), some (.int x), some (.ref 32)]) hG rfl pl_X2 (Nat.le_of_ble_eq_true rfl) rfl (fun X hX => ?_)
  refine g_aload_2 hX (dk DX2_says 0 rfl) ?_
  refine g_bipush (v := 30) hX (dk DX2_says 1 rfl) (by decide) ?_
  refine g_c2V hX sX2_says_3 (by decide) (Nat.le_of_ble_eq_true rfl) (rc0 rfl (CLt hH (by decide)) (CC hH 32 (by decide) rfl)) (by decide) (by decide) (c_X7_begins hG hH (by exact hr) (by omega)) ?_
  have hr := tb1_ran _ 30 hr
  refine g_aload_0 hX (dk DX2_says 3 rfl) ?_
  refine g_iload_1 hX (dk DX2_says 4 rfl) ?_
  refine g_iconst (v := 3) hX (dk DX2_says 5 rfl) (by decide) ?_
  refine g_imul hX (dk DX2_says 6 rfl) ?_
  refine g_aload_2 hX (dk DX2_says 7 rfl) ?_
  refine g_c3I hX sX2_says_11_c6 (by decide) (Nat.le_of_ble_eq_true rfl) (rc0 rfl hq hcl) (by decide) (by decide) (cv1_says_6 hG hq hcl hH (by exact hr) (by omega) h32 h33) ?_
  refine g_nmI (x * 3 + I q 0) (by rw [tb1_off _ _ h32 h33]) ?_
  refine g_ireturn hX (dk DX2_says 9 rfl) rfl (rfl) (by decide) (by decide) ?_
  exact rI_of rfl ((tbL_2 I 30 10).symm) rfl

set_option maxRecDepth 8000 in
set_option maxHeartbeats 4000000 in
theorem cv_holds_6 {G : Gt} (hG : Gok G) {I : It} {h : Ht}  {q : Nat} {x : Int32} (hq : q < hn h) (hcl : (hs h q).1 = 6) (hH : HX h) {r : Nat} (hr : I 32 1 = nI r) (hr2 : r ≤ 75) (h32 : q ≠ 32) (h33 : q ≠ 33) : Con G (6) 0 0 mX1_holds [.ref q, .int x, .ref 32] I h (rI (dhV 6 (I q 0) (I q 1) x) (tbL I (dhB 6)) h) := by
  refine con_intro (own := RX1) (lo0 := [some (.ref q), some (.int x), some (.ref 32)]) hG rfl pl_X1 (Nat.le_of_ble_eq_true rfl) rfl (fun X hX => ?_)
  refine g_aload_2 hX (dk DX1_holds 0 rfl) ?_
  refine g_bipush (v := 11) hX (dk DX1_holds 1 rfl) (by decide) ?_
  refine g_c2V hX sX1_holds_3 (by decide) (Nat.le_of_ble_eq_true rfl) (rc0 rfl (CLt hH (by decide)) (CC hH 32 (by decide) rfl)) (by decide) (by decide) (c_X7_begins hG hH (by exact hr) (by omega)) ?_
  have hr := tb1_ran _ 11 hr
  refine g_aload_0 hX (dk DX1_holds 3 rfl) ?_
  refine g_iload_1 hX (dk DX1_holds 4 rfl) ?_
  refine g_aload_2 hX (dk DX1_holds 5 rfl) ?_
  refine g_c3I hX sX1_holds_9_c6 (by decide) (Nat.le_of_ble_eq_true rfl) (rc0 rfl hq hcl) (by decide) (by decide) (cv_says_6 hG hq hcl hH (by exact hr) (by omega) h32 h33) ?_
  refine g_nmI (dsV 6 (I q 0) (I q 1) x) (by rw [tb1_off _ _ h32 h33]) ?_
  have hr := tbL_ran (dsB 6) _ hr
  have hlen := dsB_len 6
  refine g_aload_0 hX (dk DX1_holds 7 rfl) ?_
  refine g_getIv hX (dk DX1_holds 8 rfl) KX6 fX1_15 (by decide) rfl hq hcl ((show _ = I q 1 from by first | (simp only [tbL_off _ _ h32 h33, tb1_off _ _ h32 h33]; done) | rfl)) ?_
  refine g_isub hX (dk DX1_holds 9 rfl) ?_
  refine g_ireturn hX (dk DX1_holds 10 rfl) rfl (rfl) (by decide) (by decide) ?_
  exact rI_of rfl ((tbL_c I 11 (dsB 6)).symm) rfl

set_option maxRecDepth 8000 in
set_option maxHeartbeats 4000000 in
theorem cv1_tells_6 {G : Gt} (hG : Gok G) {I : It} {h : Ht}  {q : Nat} {x : Int32} (hq : q < hn h) (hcl : (hs h q).1 = 6) (hH : HX h) {r : Nat} (hr : I 32 1 = nI r) (hr2 : r ≤ 60) (h32 : q ≠ 32) (h33 : q ≠ 33) : Con G (7) 0 0 mX1_tells [.ref q, .int x, .ref 32] I h (rI (dtV 6 (I q 0) (I q 1) x) (tbL I (12 :: dhB 6)) h) := by
  refine con_intro (own := RX1) (lo0 := [some (.ref q), some (.int x), some (.ref 32)]) hG rfl pl_X1 (Nat.le_of_ble_eq_true rfl) rfl (fun X hX => ?_)
  refine g_aload_2 hX (dk DX1_tells 0 rfl) ?_
  refine g_bipush (v := 12) hX (dk DX1_tells 1 rfl) (by decide) ?_
  refine g_c2V hX sX1_tells_3 (by decide) (Nat.le_of_ble_eq_true rfl) (rc0 rfl (CLt hH (by decide)) (CC hH 32 (by decide) rfl)) (by decide) (by decide) (c_X7_begins hG hH (by exact hr) (by omega)) ?_
  have hr := tb1_ran _ 12 hr
  refine g_aload_0 hX (dk DX1_tells 3 rfl) ?_
  refine g_iload_1 hX (dk DX1_tells 4 rfl) ?_
  refine g_aload_2 hX (dk DX1_tells 5 rfl) ?_
  refine g_c3I hX sX1_tells_9_c6 (by decide) (Nat.le_of_ble_eq_true rfl) (rc0 rfl hq hcl) (by decide) (by decide) (cv_holds_6 hG hq hcl hH (by exact hr) (by omega) h32 h33) ?_
  refine g_nmI (dhV 6 (I q 0) (I q 1) x) (by rw [tb1_off _ _ h32 h33]) ?_
  have hr := tbL_ran (dhB 6) _ hr
  have hlen := dhB_len 6
  refine g_iconst (v := 2) hX (dk DX1_tells 7 rfl) (by decide) ?_
  refine g_imul hX (dk DX1_tells 8 rfl) ?_
  refine g_ireturn hX (dk DX1_tells 9 rfl) rfl (rfl) (by decide) (by decide) ?_
  exact rI_of rfl ((tbL_c I 12 (dhB 6)).symm) rfl

set_option maxRecDepth 8000 in
set_option maxHeartbeats 4000000 in
theorem cv_tells_6 {G : Gt} (hG : Gok G) {I : It} {h : Ht}  {q : Nat} {x : Int32} (hq : q < hn h) (hcl : (hs h q).1 = 6) (hH : HX h) {r : Nat} (hr : I 32 1 = nI r) (hr2 : r ≤ 50) (h32 : q ≠ 32) (h33 : q ≠ 33) : Con G (8) 0 0 mX6_tells [.ref q, .int x, .ref 32] I h (rI (dtlV 6 (I q 0) (I q 1) x) (tbL I (dtlB 6)) h) := by
  refine con_intro (own := RX6) (lo0 := [some (.ref q), some (.int x), some (.ref 32)]) hG rfl pl_X6 (Nat.le_of_ble_eq_true rfl) rfl (fun X hX => ?_)
  refine g_aload_2 hX (dk DX6_tells 0 rfl) ?_
  refine g_bipush (v := 60) hX (dk DX6_tells 1 rfl) (by decide) ?_
  refine g_c2V hX sX6_tells_3 (by decide) (Nat.le_of_ble_eq_true rfl) (rc0 rfl (CLt hH (by decide)) (CC hH 32 (by decide) rfl)) (by decide) (by decide) (c_X7_begins hG hH (by exact hr) (by omega)) ?_
  have hr := tb1_ran _ 60 hr
  refine g_aload_0 hX (dk DX6_tells 3 rfl) ?_
  refine g_iload_1 hX (dk DX6_tells 4 rfl) ?_
  refine g_aload_0 hX (dk DX6_tells 5 rfl) ?_
  refine g_getIv hX (dk DX6_tells 6 rfl) KX6 fX6_25 (by decide) rfl hq hcl ((show _ = I q 0 from by first | (simp only [tbL_off _ _ h32 h33, tb1_off _ _ h32 h33]; done) | rfl)) ?_
  refine g_isub hX (dk DX6_tells 7 rfl) ?_
  refine g_aload_2 hX (dk DX6_tells 8 rfl) ?_
  refine g_c3I hX sX6_tells_14_c6 (by decide) (Nat.le_of_ble_eq_true rfl) (rc0 rfl hq hcl) (by decide) (by decide) (cv1_tells_6 hG hq hcl hH (by exact hr) (by omega) h32 h33) ?_
  refine g_nmI (dtV 6 (I q 0) (I q 1) (x - I q 0)) (by rw [tb1_off _ _ h32 h33]) ?_
  refine g_ireturn hX (dk DX6_tells 10 rfl) rfl (rfl) (by decide) (by decide) ?_
  exact rI_of rfl ((tbL_c I 60 (12 :: dhB 6)).symm) rfl

set_option maxRecDepth 8000 in
set_option maxHeartbeats 4000000 in
theorem cv1_says_8 {G : Gt} (hG : Gok G) {I : It} {h : Ht}  {q : Nat} {x : Int32} (hq : q < hn h) (hcl : (hs h q).1 = 8) (hH : HX h) {r : Nat} (hr : I 32 1 = nI r) (hr2 : r ≤ 80) (h32 : q ≠ 32) (h33 : q ≠ 33) : Con G (2) 0 0 mX1_says [.ref q, .int x, .ref 32] I h (rI (x + I q 0) (tb1 I 10) h) := by
  refine con_intro (own := RX1) (lo0 := [some (.ref q), some (.int x), some (.ref 32)]) hG rfl pl_X1 (Nat.le_of_ble_eq_true rfl) rfl (fun X hX => ?_)
  refine g_aload_2 hX (dk DX1_says 0 rfl) ?_
  refine g_bipush (v := 10) hX (dk DX1_says 1 rfl) (by decide) ?_
  refine g_c2V hX sX1_says_3 (by decide) (Nat.le_of_ble_eq_true rfl) (rc0 rfl (CLt hH (by decide)) (CC hH 32 (by decide) rfl)) (by decide) (by decide) (c_X7_begins hG hH (by exact hr) (by omega)) ?_
  have hr := tb1_ran _ 10 hr
  refine g_iload_1 hX (dk DX1_says 3 rfl) ?_
  refine g_aload_0 hX (dk DX1_says 4 rfl) ?_
  refine g_getIv hX (dk DX1_says 5 rfl) KX8 fX1_9 (by decide) rfl hq hcl ((show _ = I q 0 from by first | (simp only [tbL_off _ _ h32 h33, tb1_off _ _ h32 h33]; done) | rfl)) ?_
  refine g_iadd hX (dk DX1_says 6 rfl) ?_
  refine g_ireturn hX (dk DX1_says 7 rfl) rfl (rfl) (by decide) (by decide) ?_
  exact rI_of rfl (rfl) rfl

set_option maxRecDepth 8000 in
set_option maxHeartbeats 4000000 in
theorem cv_says_8 {G : Gt} (hG : Gok G) {I : It} {h : Ht}  {q : Nat} {x : Int32} (hq : q < hn h) (hcl : (hs h q).1 = 8) (hH : HX h) {r : Nat} (hr : I 32 1 = nI r) (hr2 : r ≤ 79) (h32 : q ≠ 32) (h33 : q ≠ 33) : Con G (3) 0 0 mX8_says [.ref q, .int x, .ref 32] I h (rI (dsV 8 (I q 0) (I q 1) x) (tbL I (dsB 8)) h) := by
  refine con_intro (own := RX8) (lo0 := [some (.ref q), some (.int x), some (.ref 32)]) hG rfl pl_X8 (Nat.le_of_ble_eq_true rfl) rfl (fun X hX => ?_)
  refine g_aload_2 hX (dk DX8_says 0 rfl) ?_
  refine g_bipush (v := 50) hX (dk DX8_says 1 rfl) (by decide) ?_
  refine g_c2V hX sX8_says_3 (by decide) (Nat.le_of_ble_eq_true rfl) (rc0 rfl (CLt hH (by decide)) (CC hH 32 (by decide) rfl)) (by decide) (by decide) (c_X7_begins hG hH (by exact hr) (by omega)) ?_
  have hr := tb1_ran _ 50 hr
  refine g_aload_0 hX (dk DX8_says 3 rfl) ?_
  refine g_iload_1 hX (dk DX8_says 4 rfl) ?_
  refine g_aload_2 hX (dk DX8_says 5 rfl) ?_
  refine g_c3I hX sX8_says_9_c8 (by decide) (Nat.le_of_ble_eq_true rfl) (rc0 rfl hq hcl) (by decide) (by decide) (cv1_says_8 hG hq hcl hH (by exact hr) (by omega) h32 h33) ?_
  refine g_nmI (x + I q 0) (by rw [tb1_off _ _ h32 h33]) ?_
  refine g_ineg hX (dk DX8_says 7 rfl) ?_
  refine g_ireturn hX (dk DX8_says 8 rfl) rfl (rfl) (by decide) (by decide) ?_
  exact rI_of rfl ((tbL_2 I 50 10).symm) rfl

set_option maxRecDepth 8000 in
set_option maxHeartbeats 4000000 in
theorem cv1_holds_8 {G : Gt} (hG : Gok G) {I : It} {h : Ht}  {q : Nat} {x : Int32} (hq : q < hn h) (hcl : (hs h q).1 = 8) (hH : HX h) {r : Nat} (hr : I 32 1 = nI r) (hr2 : r ≤ 75) (h32 : q ≠ 32) (h33 : q ≠ 33) : Con G (4) 0 0 mX1_holds [.ref q, .int x, .ref 32] I h (rI (dkV 8 (I q 0) (I q 1) x) (tbL I (11 :: dsB 8)) h) := by
  refine con_intro (own := RX1) (lo0 := [some (.ref q), some (.int x), some (.ref 32)]) hG rfl pl_X1 (Nat.le_of_ble_eq_true rfl) rfl (fun X hX => ?_)
  refine g_aload_2 hX (dk DX1_holds 0 rfl) ?_
  refine g_bipush (v := 11) hX (dk DX1_holds 1 rfl) (by decide) ?_
  refine g_c2V hX sX1_holds_3 (by decide) (Nat.le_of_ble_eq_true rfl) (rc0 rfl (CLt hH (by decide)) (CC hH 32 (by decide) rfl)) (by decide) (by decide) (c_X7_begins hG hH (by exact hr) (by omega)) ?_
  have hr := tb1_ran _ 11 hr
  refine g_aload_0 hX (dk DX1_holds 3 rfl) ?_
  refine g_iload_1 hX (dk DX1_holds 4 rfl) ?_
  refine g_aload_2 hX (dk DX1_holds 5 rfl) ?_
  refine g_c3I hX sX1_holds_9_c8 (by decide) (Nat.le_of_ble_eq_true rfl) (rc0 rfl hq hcl) (by decide) (by decide) (cv_says_8 hG hq hcl hH (by exact hr) (by omega) h32 h33) ?_
  refine g_nmI (dsV 8 (I q 0) (I q 1) x) (by rw [tb1_off _ _ h32 h33]) ?_
  have hr := tbL_ran (dsB 8) _ hr
  have hlen := dsB_len 8
  refine g_aload_0 hX (dk DX1_holds 7 rfl) ?_
  refine g_getIv hX (dk DX1_holds 8 rfl) KX8 fX1_15 (by decide) rfl hq hcl ((show _ = I q 1 from by first | (simp only [tbL_off _ _ h32 h33, tb1_off _ _ h32 h33]; done) | rfl)) ?_
  refine g_isub hX (dk DX1_holds 9 rfl) ?_
  refine g_ireturn hX (dk DX1_holds 10 rfl) rfl (rfl) (by decide) (by decide) ?_
  exact rI_of rfl ((tbL_c I 11 (dsB 8)).symm) rfl

set_option maxRecDepth 8000 in
set_option maxHeartbeats 4000000 in
theorem cv9_holds_8 {G : Gt} (hG : Gok G) {I : It} {h : Ht}  {q : Nat} {x : Int32} (hq : q < hn h) (hcl : (hs h q).1 = 8) (hH : HX h) {r : Nat} (hr : I 32 1 = nI r) (hr2 : r ≤ 74) (h32 : q ≠ 32) (h33 : q ≠ 33) : Con G (5) 0 0 mX9_holds [.ref q, .int x, .ref 32] I h (rI (dkV 8 (I q 0) (I q 1) x ^^^ 6) (tbL I (20 :: 11 :: dsB 8)) h) := by
  refine con_intro (own := RX9) (lo0 := [some (.ref q), some (.int x), some (.ref 32)]) hG rfl pl_X9 (Nat.le_of_ble_eq_true rfl) rfl (fun X hX => ?_)
  refine g_aload_2 hX (dk DX9_holds 0 rfl) ?_
  refine g_bipush (v := 20) hX (dk DX9_holds 1 rfl) (by decide) ?_
  refine g_c2V hX sX9_holds_3 (by decide) (Nat.le_of_ble_eq_true rfl) (rc0 rfl (CLt hH (by decide)) (CC hH 32 (by decide) rfl)) (by decide) (by decide) (c_X7_begins hG hH (by exact hr) (by omega)) ?_
  have hr := tb1_ran _ 20 hr
  refine g_aload_0 hX (dk DX9_holds 3 rfl) ?_
  refine g_iload_1 hX (dk DX9_holds 4 rfl) ?_
  refine g_aload_2 hX (dk DX9_holds 5 rfl) ?_
  refine g_c3I hX sX9_holds_9_c8 (by decide) (Nat.le_of_ble_eq_true rfl) (rc0 rfl hq hcl) (by decide) (by decide) (cv1_holds_8 hG hq hcl hH (by exact hr) (by omega) h32 h33) ?_
  refine g_nmI (dkV 8 (I q 0) (I q 1) x) (by rw [tb1_off _ _ h32 h33]) ?_
  refine g_bipush (v := 6) hX (dk DX9_holds 7 rfl) (by decide) ?_
  refine g_ixor hX (dk DX9_holds 8 rfl) ?_
  refine g_ireturn hX (dk DX9_holds 9 rfl) rfl (rfl) (by decide) (by decide) ?_
  exact rI_of rfl ((tbL_c I 20 (11 :: dsB 8)).symm) rfl

set_option maxRecDepth 8000 in
set_option maxHeartbeats 4000000 in
theorem cv_holds_8 {G : Gt} (hG : Gok G) {I : It} {h : Ht}  {q : Nat} {x : Int32} (hq : q < hn h) (hcl : (hs h q).1 = 8) (hH : HX h) {r : Nat} (hr : I 32 1 = nI r) (hr2 : r ≤ 73) (h32 : q ≠ 32) (h33 : q ≠ 33) : Con G (6) 0 0 mX8_holds [.ref q, .int x, .ref 32] I h (rI (dhV 8 (I q 0) (I q 1) x) (tbL I (dhB 8)) h) := by
  refine con_intro (own := RX8) (lo0 := [some (.ref q), some (.int x), some (.ref 32)]) hG rfl pl_X8 (Nat.le_of_ble_eq_true rfl) rfl (fun X hX => ?_)
  refine g_aload_2 hX (dk DX8_holds 0 rfl) ?_
  refine g_bipush (v := 51) hX (dk DX8_holds 1 rfl) (by decide) ?_
  refine g_c2V hX sX8_holds_3 (by decide) (Nat.le_of_ble_eq_true rfl) (rc0 rfl (CLt hH (by decide)) (CC hH 32 (by decide) rfl)) (by decide) (by decide) (c_X7_begins hG hH (by exact hr) (by omega)) ?_
  have hr := tb1_ran _ 51 hr
  refine g_aload_0 hX (dk DX8_holds 3 rfl) ?_
  refine g_iload_1 hX (dk DX8_holds 4 rfl) ?_
  refine g_iconst (v := 1) hX (dk DX8_holds 5 rfl) (by decide) ?_
  refine g_iadd hX (dk DX8_holds 6 rfl) ?_
  refine g_aload_2 hX (dk DX8_holds 7 rfl) ?_
  refine g_c3I hX sX8_holds_11_c8 (by decide) (Nat.le_of_ble_eq_true rfl) (rc0 rfl hq hcl) (by decide) (by decide) (cv9_holds_8 hG hq hcl hH (by exact hr) (by omega) h32 h33) ?_
  refine g_nmI (dkV 8 (I q 0) (I q 1) (x + 1) ^^^ 6) (by rw [tb1_off _ _ h32 h33]) ?_
  refine g_ireturn hX (dk DX8_holds 9 rfl) rfl (rfl) (by decide) (by decide) ?_
  exact rI_of rfl ((tbL_c I 51 (20 :: 11 :: dsB 8)).symm) rfl

set_option maxRecDepth 8000 in
set_option maxHeartbeats 4000000 in
theorem cv_tells_8 {G : Gt} (hG : Gok G) {I : It} {h : Ht}  {q : Nat} {x : Int32} (hq : q < hn h) (hcl : (hs h q).1 = 8) (hH : HX h) {r : Nat} (hr : I 32 1 = nI r) (hr2 : r ≤ 60) (h32 : q ≠ 32) (h33 : q ≠ 33) : Con G (8) 0 0 mX1_tells [.ref q, .int x, .ref 32] I h (rI (dtlV 8 (I q 0) (I q 1) x) (tbL I (dtlB 8)) h) := by
  refine con_intro (own := RX1) (lo0 := [some (.ref q), some (.int x), some (.ref 32)]) hG rfl pl_X1 (Nat.le_of_ble_eq_true rfl) rfl (fun X hX => ?_)
  refine g_aload_2 hX (dk DX1_tells 0 rfl) ?_
  refine g_bipush (v := 12) hX (dk DX1_tells 1 rfl) (by decide) ?_
  refine g_c2V hX sX1_tells_3 (by decide) (Nat.le_of_ble_eq_true rfl) (rc0 rfl (CLt hH (by decide)) (CC hH 32 (by decide) rfl)) (by decide) (by decide) (c_X7_begins hG hH (by exact hr) (by omega)) ?_
  have hr := tb1_ran _ 12 hr
  refine g_aload_0 hX (dk DX1_tells 3 rfl) ?_
  refine g_iload_1 hX (dk DX1_tells 4 rfl) ?_
  refine g_aload_2 hX (dk DX1_tells 5 rfl) ?_
  refine g_c3I hX sX1_tells_9_c8 (by decide) (Nat.le_of_ble_eq_true rfl) (rc0 rfl hq hcl) (by decide) (by decide) (cv_holds_8 hG hq hcl hH (by exact hr) (by omega) h32 h33) ?_
  refine g_nmI (dhV 8 (I q 0) (I q 1) x) (by rw [tb1_off _ _ h32 h33]) ?_
  have hr := tbL_ran (dhB 8) _ hr
  have hlen := dhB_len 8
  refine g_iconst (v := 2) hX (dk DX1_tells 7 rfl) (by decide) ?_
  refine g_imul hX (dk DX1_tells 8 rfl) ?_
  refine g_ireturn hX (dk DX1_tells 9 rfl) rfl (rfl) (by decide) (by decide) ?_
  exact rI_of rfl ((tbL_c I 12 (dhB 8)).symm) rfl

set_option maxRecDepth 8000 in
set_option maxHeartbeats 4000000 in
theorem cv_says_9 {G : Gt} (hG : Gok G) {I : It} {h : Ht}  {q : Nat} {x : Int32} (hq : q < hn h) (hcl : (hs h q).1 = 9) (hH : HX h) {r : Nat} (hr : I 32 1 = nI r) (hr2 : r ≤ 80) (h32 : q ≠ 32) (h33 : q ≠ 33) : Con G (3) 0 0 mX1_says [.ref q, .int x, .ref 32] I h (rI (dsV 9 (I q 0) (I q 1) x) (tbL I (dsB 9)) h) := by
  refine con_intro (own := RX1) (lo0 := [some (.ref q), some (.int x), some (.ref 32)]) hG rfl pl_X1 (Nat.le_of_ble_eq_true rfl) rfl (fun X hX => ?_)
  refine g_aload_2 hX (dk DX1_says 0 rfl) ?_
  refine g_bipush (v := 10) hX (dk DX1_says 1 rfl) (by decide) ?_
  refine g_c2V hX sX1_says_3 (by decide) (Nat.le_of_ble_eq_true rfl) (rc0 rfl (CLt hH (by decide)) (CC hH 32 (by decide) rfl)) (by decide) (by decide) (c_X7_begins hG hH (by exact hr) (by omega)) ?_
  have hr := tb1_ran _ 10 hr
  refine g_iload_1 hX (dk DX1_says 3 rfl) ?_
  refine g_aload_0 hX (dk DX1_says 4 rfl) ?_
  refine g_getIv hX (dk DX1_says 5 rfl) KX9 fX1_9 (by decide) rfl hq hcl ((show _ = I q 0 from by first | (simp only [tbL_off _ _ h32 h33, tb1_off _ _ h32 h33]; done) | rfl)) ?_
  refine g_iadd hX (dk DX1_says 6 rfl) ?_
  refine g_ireturn hX (dk DX1_says 7 rfl) rfl (rfl) (by decide) (by decide) ?_
  exact rI_of rfl ((tbL_1 I 10).symm) rfl

set_option maxRecDepth 8000 in
set_option maxHeartbeats 4000000 in
theorem cv1_holds_9 {G : Gt} (hG : Gok G) {I : It} {h : Ht}  {q : Nat} {x : Int32} (hq : q < hn h) (hcl : (hs h q).1 = 9) (hH : HX h) {r : Nat} (hr : I 32 1 = nI r) (hr2 : r ≤ 75) (h32 : q ≠ 32) (h33 : q ≠ 33) : Con G (4) 0 0 mX1_holds [.ref q, .int x, .ref 32] I h (rI (dkV 9 (I q 0) (I q 1) x) (tbL I (11 :: dsB 9)) h) := by
  refine con_intro (own := RX1) (lo0 := [some (.ref q), some (.int x), some (.ref 32)]) hG rfl pl_X1 (Nat.le_of_ble_eq_true rfl) rfl (fun X hX => ?_)
  refine g_aload_2 hX (dk DX1_holds 0 rfl) ?_
  refine g_bipush (v := 11) hX (dk DX1_holds 1 rfl) (by decide) ?_
  refine g_c2V hX sX1_holds_3 (by decide) (Nat.le_of_ble_eq_true rfl) (rc0 rfl (CLt hH (by decide)) (CC hH 32 (by decide) rfl)) (by decide) (by decide) (c_X7_begins hG hH (by exact hr) (by omega)) ?_
  have hr := tb1_ran _ 11 hr
  refine g_aload_0 hX (dk DX1_holds 3 rfl) ?_
  refine g_iload_1 hX (dk DX1_holds 4 rfl) ?_
  refine g_aload_2 hX (dk DX1_holds 5 rfl) ?_
  refine g_c3I hX sX1_holds_9_c9 (by decide) (Nat.le_of_ble_eq_true rfl) (rc0 rfl hq hcl) (by decide) (by decide) (cv_says_9 hG hq hcl hH (by exact hr) (by omega) h32 h33) ?_
  refine g_nmI (dsV 9 (I q 0) (I q 1) x) (by rw [tb1_off _ _ h32 h33]) ?_
  have hr := tbL_ran (dsB 9) _ hr
  have hlen := dsB_len 9
  refine g_aload_0 hX (dk DX1_holds 7 rfl) ?_
  refine g_getIv hX (dk DX1_holds 8 rfl) KX9 fX1_15 (by decide) rfl hq hcl ((show _ = I q 1 from by first | (simp only [tbL_off _ _ h32 h33, tb1_off _ _ h32 h33]; done) | rfl)) ?_
  refine g_isub hX (dk DX1_holds 9 rfl) ?_
  refine g_ireturn hX (dk DX1_holds 10 rfl) rfl (rfl) (by decide) (by decide) ?_
  exact rI_of rfl ((tbL_c I 11 (dsB 9)).symm) rfl

set_option maxRecDepth 8000 in
set_option maxHeartbeats 4000000 in
theorem cv_holds_9 {G : Gt} (hG : Gok G) {I : It} {h : Ht}  {q : Nat} {x : Int32} (hq : q < hn h) (hcl : (hs h q).1 = 9) (hH : HX h) {r : Nat} (hr : I 32 1 = nI r) (hr2 : r ≤ 74) (h32 : q ≠ 32) (h33 : q ≠ 33) : Con G (6) 0 0 mX9_holds [.ref q, .int x, .ref 32] I h (rI (dhV 9 (I q 0) (I q 1) x) (tbL I (dhB 9)) h) := by
  refine con_intro (own := RX9) (lo0 := [some (.ref q), some (.int x), some (.ref 32)]) hG rfl pl_X9 (Nat.le_of_ble_eq_true rfl) rfl (fun X hX => ?_)
  refine g_aload_2 hX (dk DX9_holds 0 rfl) ?_
  refine g_bipush (v := 20) hX (dk DX9_holds 1 rfl) (by decide) ?_
  refine g_c2V hX sX9_holds_3 (by decide) (Nat.le_of_ble_eq_true rfl) (rc0 rfl (CLt hH (by decide)) (CC hH 32 (by decide) rfl)) (by decide) (by decide) (c_X7_begins hG hH (by exact hr) (by omega)) ?_
  have hr := tb1_ran _ 20 hr
  refine g_aload_0 hX (dk DX9_holds 3 rfl) ?_
  refine g_iload_1 hX (dk DX9_holds 4 rfl) ?_
  refine g_aload_2 hX (dk DX9_holds 5 rfl) ?_
  refine g_c3I hX sX9_holds_9_c9 (by decide) (Nat.le_of_ble_eq_true rfl) (rc0 rfl hq hcl) (by decide) (by decide) (cv1_holds_9 hG hq hcl hH (by exact hr) (by omega) h32 h33) ?_
  refine g_nmI (dkV 9 (I q 0) (I q 1) x) (by rw [tb1_off _ _ h32 h33]) ?_
  refine g_bipush (v := 6) hX (dk DX9_holds 7 rfl) (by decide) ?_
  refine g_ixor hX (dk DX9_holds 8 rfl) ?_
  refine g_ireturn hX (dk DX9_holds 9 rfl) rfl (rfl) (by decide) (by decide) ?_
  exact rI_of rfl ((tbL_c I 20 (11 :: dsB 9)).symm) rfl

set_option maxRecDepth 8000 in
set_option maxHeartbeats 4000000 in
theorem cv_tells_9 {G : Gt} (hG : Gok G) {I : It} {h : Ht}  {q : Nat} {x : Int32} (hq : q < hn h) (hcl : (hs h q).1 = 9) (hH : HX h) {r : Nat} (hr : I 32 1 = nI r) (hr2 : r ≤ 60) (h32 : q ≠ 32) (h33 : q ≠ 33) : Con G (8) 0 0 mX1_tells [.ref q, .int x, .ref 32] I h (rI (dtlV 9 (I q 0) (I q 1) x) (tbL I (dtlB 9)) h) := by
  refine con_intro (own := RX1) (lo0 := [some (.ref q), some (.int x), some (.ref 32)]) hG rfl pl_X1 (Nat.le_of_ble_eq_true rfl) rfl (fun X hX => ?_)
  refine g_aload_2 hX (dk DX1_tells 0 rfl) ?_
  refine g_bipush (v := 12) hX (dk DX1_tells 1 rfl) (by decide) ?_
  refine g_c2V hX sX1_tells_3 (by decide) (Nat.le_of_ble_eq_true rfl) (rc0 rfl (CLt hH (by decide)) (CC hH 32 (by decide) rfl)) (by decide) (by decide) (c_X7_begins hG hH (by exact hr) (by omega)) ?_
  have hr := tb1_ran _ 12 hr
  refine g_aload_0 hX (dk DX1_tells 3 rfl) ?_
  refine g_iload_1 hX (dk DX1_tells 4 rfl) ?_
  refine g_aload_2 hX (dk DX1_tells 5 rfl) ?_
  refine g_c3I hX sX1_tells_9_c9 (by decide) (Nat.le_of_ble_eq_true rfl) (rc0 rfl hq hcl) (by decide) (by decide) (cv_holds_9 hG hq hcl hH (by exact hr) (by omega) h32 h33) ?_
  refine g_nmI (dhV 9 (I q 0) (I q 1) x) (by rw [tb1_off _ _ h32 h33]) ?_
  have hr := tbL_ran (dhB 9) _ hr
  have hlen := dhB_len 9
  refine g_iconst (v := 2) hX (dk DX1_tells 7 rfl) (by decide) ?_
  refine g_imul hX (dk DX1_tells 8 rfl) ?_
  refine g_ireturn hX (dk DX1_tells 9 rfl) rfl (rfl) (by decide) (by decide) ?_
  exact rI_of rfl ((tbL_c I 12 (dhB 9)).symm) rfl

set_option maxRecDepth 8000 in
set_option maxHeartbeats 4000000 in
theorem cv1_says_10 {G : Gt} (hG : Gok G) {I : It} {h : Ht}  {q : Nat} {x : Int32} (hq : q < hn h) (hcl : (hs h q).1 = 10) (hH : HX h) {r : Nat} (hr : I 32 1 = nI r) (hr2 : r ≤ 80) (h32 : q ≠ 32) (h33 : q ≠ 33) : Con G (2) 0 0 mX1_says [.ref q, .int x, .ref 32] I h (rI (x + I q 0) (tb1 I 10) h) := by
  refine con_intro (own := RX1) (lo0 := [some (.ref q), some (.int x), some (.ref 32)]) hG rfl pl_X1 (Nat.le_of_ble_eq_true rfl) rfl (fun X hX => ?_)
  refine g_aload_2 hX (dk DX1_says 0 rfl) ?_
  refine g_bipush (v := 10) hX (dk DX1_says 1 rfl) (by decide) ?_
  refine g_c2V hX sX1_says_3 (by decide) (Nat.le_of_ble_eq_true rfl) (rc0 rfl (CLt hH (by decide)) (CC hH 32 (by decide) rfl)) (by decide) (by decide) (c_X7_begins hG hH (by exact hr) (by omega)) ?_
  have hr := tb1_ran _ 10 hr
  refine g_iload_1 hX (dk DX1_says 3 rfl) ?_
  refine g_aload_0 hX (dk DX1_says 4 rfl) ?_
  refine g_getIv hX (dk DX1_says 5 rfl) KX10 fX1_9 (by decide) rfl hq hcl ((show _ = I q 0 from by first | (simp only [tbL_off _ _ h32 h33, tb1_off _ _ h32 h33]; done) | rfl)) ?_
  refine g_iadd hX (dk DX1_says 6 rfl) ?_
  refine g_ireturn hX (dk DX1_says 7 rfl) rfl (rfl) (by decide) (by decide) ?_
  exact rI_of rfl (rfl) rfl

set_option maxRecDepth 8000 in
set_option maxHeartbeats 4000000 in
theorem cv_says_10 {G : Gt} (hG : Gok G) {I : It} {h : Ht}  {q : Nat} {x : Int32} (hq : q < hn h) (hcl : (hs h q).1 = 10) (hH : HX h) {r : Nat} (hr : I 32 1 = nI r) (hr2 : r ≤ 79) (h32 : q ≠ 32) (h33 : q ≠ 33) : Con G (3) 0 0 mX10_says [.ref q, .int x, .ref 32] I h (rI (dsV 10 (I q 0) (I q 1) x) (tbL I (dsB 10)) h) := by
  refine con_intro (own := RX10) (lo0 := [some (.ref q), some (.int x), some (.ref 32)]) hG rfl pl_X10 (Nat.le_of_ble_eq_true rfl) rfl (fun X hX => ?_)
  refine g_aload_2 hX (dk DX10_says 0 rfl) ?_
  refine g_bipush (v := 71) hX (dk DX10_says 1 rfl) (by decide) ?_
  refine g_c2V hX sX10_says_3 (by decide) (Nat.le_of_ble_eq_true rfl) (rc0 rfl (CLt hH (by decide)) (CC hH 32 (by decide) rfl)) (by decide) (by decide) (c_X7_begins hG hH (by exact hr) (by omega)) ?_
  have hr := tb1_ran _ 71 hr
  refine g_aload_0 hX (dk DX10_says 3 rfl) ?_
  refine g_iload_1 hX (dk DX10_says 4 rfl) ?_
  refine g_aload_2 hX (dk DX10_says 5 rfl) ?_
  refine g_c3I hX sX10_says_9_c10 (by decide) (Nat.le_of_ble_eq_true rfl) (rc0 rfl hq hcl) (by decide) (by decide) (cv1_says_10 hG hq hcl hH (by exact hr) (by omega) h32 h33) ?_
  refine g_nmI (x + I q 0) (by rw [tb1_off _ _ h32 h33]) ?_
  refine g_aload_0 hX (dk DX10_says 7 rfl) ?_
  refine g_getIv hX (dk DX10_says 8 rfl) KX10 fX10_11 (by decide) rfl hq hcl ((show _ = I q 1 from by first | (simp only [tbL_off _ _ h32 h33, tb1_off _ _ h32 h33]; done) | rfl)) ?_
  refine g_ixor hX (dk DX10_says 9 rfl) ?_
  refine g_ireturn hX (dk DX10_says 10 rfl) rfl (rfl) (by decide) (by decide) ?_
  exact rI_of rfl ((tbL_2 I 71 10).symm) rfl

set_option maxRecDepth 8000 in
set_option maxHeartbeats 4000000 in
theorem cv1_holds_10 {G : Gt} (hG : Gok G) {I : It} {h : Ht}  {q : Nat} {x : Int32} (hq : q < hn h) (hcl : (hs h q).1 = 10) (hH : HX h) {r : Nat} (hr : I 32 1 = nI r) (hr2 : r ≤ 75) (h32 : q ≠ 32) (h33 : q ≠ 33) : Con G (4) 0 0 mX1_holds [.ref q, .int x, .ref 32] I h (rI (dkV 10 (I q 0) (I q 1) x) (tbL I (11 :: dsB 10)) h) := by
  refine con_intro (own := RX1) (lo0 := [some (.ref q), some (.int x), some (.ref 32)]) hG rfl pl_X1 (Nat.le_of_ble_eq_true rfl) rfl (fun X hX => ?_)
  refine g_aload_2 hX (dk DX1_holds 0 rfl) ?_
  refine g_bipush (v := 11) hX (dk DX1_holds 1 rfl) (by decide) ?_
  refine g_c2V hX sX1_holds_3 (by decide) (Nat.le_of_ble_eq_true rfl) (rc0 rfl (CLt hH (by decide)) (CC hH 32 (by decide) rfl)) (by decide) (by decide) (c_X7_begins hG hH (by exact hr) (by omega)) ?_
  have hr := tb1_ran _ 11 hr
  refine g_aload_0 hX (dk DX1_holds 3 rfl) ?_
  refine g_iload_1 hX (dk DX1_holds 4 rfl) ?_
  refine g_aload_2 hX (dk DX1_holds 5 rfl) ?_
  refine g_c3I hX sX1_holds_9_c10 (by decide) (Nat.le_of_ble_eq_true rfl) (rc0 rfl hq hcl) (by decide) (by decide) (cv_says_10 hG hq hcl hH (by exact hr) (by omega) h32 h33) ?_
  refine g_nmI (dsV 10 (I q 0) (I q 1) x) (by rw [tb1_off _ _ h32 h33]) ?_
  have hr := tbL_ran (dsB 10) _ hr
  have hlen := dsB_len 10
  refine g_aload_0 hX (dk DX1_holds 7 rfl) ?_
  refine g_getIv hX (dk DX1_holds 8 rfl) KX10 fX1_15 (by decide) rfl hq hcl ((show _ = I q 1 from by first | (simp only [tbL_off _ _ h32 h33, tb1_off _ _ h32 h33]; done) | rfl)) ?_
  refine g_isub hX (dk DX1_holds 9 rfl) ?_
  refine g_ireturn hX (dk DX1_holds 10 rfl) rfl (rfl) (by decide) (by decide) ?_
  exact rI_of rfl ((tbL_c I 11 (dsB 10)).symm) rfl

set_option maxRecDepth 8000 in
set_option maxHeartbeats 4000000 in
theorem cv_holds_10 {G : Gt} (hG : Gok G) {I : It} {h : Ht}  {q : Nat} {x : Int32} (hq : q < hn h) (hcl : (hs h q).1 = 10) (hH : HX h) {r : Nat} (hr : I 32 1 = nI r) (hr2 : r ≤ 70) (h32 : q ≠ 32) (h33 : q ≠ 33) : Con G (6) 0 0 mX10_holds [.ref q, .int x, .ref 32] I h (rI (dhV 10 (I q 0) (I q 1) x) (tbL I (dhB 10)) h) := by
  refine con_intro (own := RX10) (lo0 := [some (.ref q), some (.int x), some (.ref 32)]) hG rfl pl_X10 (Nat.le_of_ble_eq_true rfl) rfl (fun X hX => ?_)
  refine g_aload_2 hX (dk DX10_holds 0 rfl) ?_
  refine g_bipush (v := 70) hX (dk DX10_holds 1 rfl) (by decide) ?_
  refine g_c2V hX sX10_holds_3 (by decide) (Nat.le_of_ble_eq_true rfl) (rc0 rfl (CLt hH (by decide)) (CC hH 32 (by decide) rfl)) (by decide) (by decide) (c_X7_begins hG hH (by exact hr) (by omega)) ?_
  have hr := tb1_ran _ 70 hr
  refine g_aload_0 hX (dk DX10_holds 3 rfl) ?_
  refine g_iload_1 hX (dk DX10_holds 4 rfl) ?_
  refine g_aload_2 hX (dk DX10_holds 5 rfl) ?_
  refine g_c3I hX sX10_holds_9_c10 (by decide) (Nat.le_of_ble_eq_true rfl) (rc0 rfl hq hcl) (by decide) (by decide) (cv1_holds_10 hG hq hcl hH (by exact hr) (by omega) h32 h33) ?_
  refine g_nmI (dkV 10 (I q 0) (I q 1) x) (by rw [tb1_off _ _ h32 h33]) ?_
  have hr := tbL_ran (11 :: dsB 10) _ hr
  have hlen := dsB_len 10
  rw [List.length_cons] at hr
  refine g_aload_0 hX (dk DX10_holds 7 rfl) ?_
  refine g_iconst (v := 2) hX (dk DX10_holds 8 rfl) (by decide) ?_
  refine g_aload_2 hX (dk DX10_holds 9 rfl) ?_
  refine g_c3I hX sX10_holds_15_c10 (by decide) (Nat.le_of_ble_eq_true rfl) (rc0 rfl hq hcl) (by decide) (by decide) (cv1_says_10 hG hq hcl hH (by exact hr) (by omega) h32 h33) ?_
  refine g_nmI (2 + I q 0) (by rw [tbL_off _ _ h32 h33, tb1_off _ _ h32 h33]) ?_
  refine g_iadd hX (dk DX10_holds 11 rfl) ?_
  refine g_ireturn hX (dk DX10_holds 12 rfl) rfl (rfl) (by decide) (by decide) ?_
  exact rI_of rfl (((tbL_1 _ 10).symm.trans (tbL_app _ _ _)).trans (tbL_c I 70 _).symm) rfl

set_option maxRecDepth 8000 in
set_option maxHeartbeats 4000000 in
theorem cv1_tells_10 {G : Gt} (hG : Gok G) {I : It} {h : Ht}  {q : Nat} {x : Int32} (hq : q < hn h) (hcl : (hs h q).1 = 10) (hH : HX h) {r : Nat} (hr : I 32 1 = nI r) (hr2 : r ≤ 60) (h32 : q ≠ 32) (h33 : q ≠ 33) : Con G (7) 0 0 mX1_tells [.ref q, .int x, .ref 32] I h (rI (dtV 10 (I q 0) (I q 1) x) (tbL I (12 :: dhB 10)) h) := by
  refine con_intro (own := RX1) (lo0 := [some (.ref q), some (.int x), some (.ref 32)]) hG rfl pl_X1 (Nat.le_of_ble_eq_true rfl) rfl (fun X hX => ?_)
  refine g_aload_2 hX (dk DX1_tells 0 rfl) ?_
  refine g_bipush (v := 12) hX (dk DX1_tells 1 rfl) (by decide) ?_
  refine g_c2V hX sX1_tells_3 (by decide) (Nat.le_of_ble_eq_true rfl) (rc0 rfl (CLt hH (by decide)) (CC hH 32 (by decide) rfl)) (by decide) (by decide) (c_X7_begins hG hH (by exact hr) (by omega)) ?_
  have hr := tb1_ran _ 12 hr
  refine g_aload_0 hX (dk DX1_tells 3 rfl) ?_
  refine g_iload_1 hX (dk DX1_tells 4 rfl) ?_
  refine g_aload_2 hX (dk DX1_tells 5 rfl) ?_
  refine g_c3I hX sX1_tells_9_c10 (by decide) (Nat.le_of_ble_eq_true rfl) (rc0 rfl hq hcl) (by decide) (by decide) (cv_holds_10 hG hq hcl hH (by exact hr) (by omega) h32 h33) ?_
  refine g_nmI (dhV 10 (I q 0) (I q 1) x) (by rw [tb1_off _ _ h32 h33]) ?_
  have hr := tbL_ran (dhB 10) _ hr
  have hlen := dhB_len 10
  refine g_iconst (v := 2) hX (dk DX1_tells 7 rfl) (by decide) ?_
  refine g_imul hX (dk DX1_tells 8 rfl) ?_
  refine g_ireturn hX (dk DX1_tells 9 rfl) rfl (rfl) (by decide) (by decide) ?_
  exact rI_of rfl ((tbL_c I 12 (dhB 10)).symm) rfl

set_option maxRecDepth 8000 in
set_option maxHeartbeats 4000000 in
theorem cv_tells_10 {G : Gt} (hG : Gok G) {I : It} {h : Ht}  {q : Nat} {x : Int32} (hq : q < hn h) (hcl : (hs h q).1 = 10) (hH : HX h) {r : Nat} (hr : I 32 1 = nI r) (hr2 : r ≤ 50) (h32 : q ≠ 32) (h33 : q ≠ 33) : Con G (8) 0 0 mX4_tells [.ref q, .int x, .ref 32] I h (rI (dtlV 10 (I q 0) (I q 1) x) (tbL I (dtlB 10)) h) := by
  refine con_intro (own := RX4) (lo0 := [some (.ref q), some (.int x), some (.ref 32)]) hG rfl pl_X4 (Nat.le_of_ble_eq_true rfl) rfl (fun X hX => ?_)
  refine g_aload_2 hX (dk DX4_tells 0 rfl) ?_
  refine g_bipush (v := 40) hX (dk DX4_tells 1 rfl) (by decide) ?_
  refine g_c2V hX sX4_tells_3 (by decide) (Nat.le_of_ble_eq_true rfl) (rc0 rfl (CLt hH (by decide)) (CC hH 32 (by decide) rfl)) (by decide) (by decide) (c_X7_begins hG hH (by exact hr) (by omega)) ?_
  have hr := tb1_ran _ 40 hr
  refine g_aload_0 hX (dk DX4_tells 3 rfl) ?_
  refine g_iload_1 hX (dk DX4_tells 4 rfl) ?_
  refine g_aload_2 hX (dk DX4_tells 5 rfl) ?_
  refine g_c3I hX sX4_tells_9_c10 (by decide) (Nat.le_of_ble_eq_true rfl) (rc0 rfl hq hcl) (by decide) (by decide) (cv1_tells_10 hG hq hcl hH (by exact hr) (by omega) h32 h33) ?_
  refine g_nmI (dtV 10 (I q 0) (I q 1) x) (by rw [tb1_off _ _ h32 h33]) ?_
  have hr := tbL_ran (12 :: dhB 10) _ hr
  have hlen := dhB_len 10
  rw [List.length_cons] at hr
  refine g_aload_0 hX (dk DX4_tells 7 rfl) ?_
  refine g_iconst (v := 1) hX (dk DX4_tells 8 rfl) (by decide) ?_
  refine g_aload_2 hX (dk DX4_tells 9 rfl) ?_
  refine g_c3I hX sX4_tells_15_c10 (by decide) (Nat.le_of_ble_eq_true rfl) (rc0 rfl hq hcl) (by decide) (by decide) (cv_holds_10 hG hq hcl hH (by exact hr) (by omega) h32 h33) ?_
  refine g_nmI (dhV 10 (I q 0) (I q 1) 1) (by rw [tbL_off _ _ h32 h33, tb1_off _ _ h32 h33]) ?_
  refine g_iadd hX (dk DX4_tells 11 rfl) ?_
  refine g_ireturn hX (dk DX4_tells 12 rfl) rfl (rfl) (by decide) (by decide) ?_
  exact rI_of rfl ((tbL_app _ _ _).trans (tbL_c I 40 _).symm) rfl

theorem cD_says {G : Gt} (hG : Gok G) {I : It} {h : Ht} {q : Nat} {x : Int32} (hq : q < hn h) (hdc : isDC (hs h q).1) (hH : HX h) {r : Nat} (hr : I 32 1 = nI r) (hr2 : r ≤ 50) (h32 : q ≠ 32) (h33 : q ≠ 33) : Con G 3 0 0 (vm_says (hs h q).1) [.ref q, .int x, .ref 32] I h (rI (dsV (hs h q).1 (I q 0) (I q 1) x) (tbL I (dsB (hs h q).1)) h) := by
  rcases hdc with e | e | e | e | e | e | e <;> rw [e]
  · exact cv_says_1 hG hq e hH hr (by omega) h32 h33
  · exact cv_says_2 hG hq e hH hr (by omega) h32 h33
  · exact cv_says_4 hG hq e hH hr (by omega) h32 h33
  · exact cv_says_6 hG hq e hH hr (by omega) h32 h33
  · exact cv_says_8 hG hq e hH hr (by omega) h32 h33
  · exact cv_says_9 hG hq e hH hr (by omega) h32 h33
  · exact cv_says_10 hG hq e hH hr (by omega) h32 h33
theorem cD_holds {G : Gt} (hG : Gok G) {I : It} {h : Ht} {q : Nat} {x : Int32} (hq : q < hn h) (hdc : isDC (hs h q).1) (hH : HX h) {r : Nat} (hr : I 32 1 = nI r) (hr2 : r ≤ 50) (h32 : q ≠ 32) (h33 : q ≠ 33) : Con G 6 0 0 (vm_holds (hs h q).1) [.ref q, .int x, .ref 32] I h (rI (dhV (hs h q).1 (I q 0) (I q 1) x) (tbL I (dhB (hs h q).1)) h) := by
  rcases hdc with e | e | e | e | e | e | e <;> rw [e]
  · exact cv_holds_1 hG hq e hH hr (by omega) h32 h33
  · exact cv_holds_2 hG hq e hH hr (by omega) h32 h33
  · exact cv_holds_4 hG hq e hH hr (by omega) h32 h33
  · exact cv_holds_6 hG hq e hH hr (by omega) h32 h33
  · exact cv_holds_8 hG hq e hH hr (by omega) h32 h33
  · exact cv_holds_9 hG hq e hH hr (by omega) h32 h33
  · exact cv_holds_10 hG hq e hH hr (by omega) h32 h33
theorem cD_tells {G : Gt} (hG : Gok G) {I : It} {h : Ht} {q : Nat} {x : Int32} (hq : q < hn h) (hdc : isDC (hs h q).1) (hH : HX h) {r : Nat} (hr : I 32 1 = nI r) (hr2 : r ≤ 50) (h32 : q ≠ 32) (h33 : q ≠ 33) : Con G 8 0 0 (vm_tells (hs h q).1) [.ref q, .int x, .ref 32] I h (rI (dtlV (hs h q).1 (I q 0) (I q 1) x) (tbL I (dtlB (hs h q).1)) h) := by
  rcases hdc with e | e | e | e | e | e | e <;> rw [e]
  · exact cv_tells_1 hG hq e hH hr (by omega) h32 h33
  · exact cv_tells_2 hG hq e hH hr (by omega) h32 h33
  · exact cv_tells_4 hG hq e hH hr (by omega) h32 h33
  · exact cv_tells_6 hG hq e hH hr (by omega) h32 h33
  · exact cv_tells_8 hG hq e hH hr (by omega) h32 h33
  · exact cv_tells_9 hG hq e hH hr (by omega) h32 h33
  · exact cv_tells_10 hG hq e hH hr (by omega) h32 h33
end
section
/-! the class's memory, well enough made that nothing throws -/
def dn (h : Ht) (d : Nat) : Nat := (hR h 2 d).getD 0
def cN (I : It) : Nat := tN (I 1 2)
/-- DOING d -/
def OD (I : It) (h : Ht) (d : Nat) : Prop := hR h 2 d = some (dn h d) ∧ 73 ≤ dn h d ∧ dn h d < hn h ∧ isDC (hs h (dn h d)).1 ∧ I (dn h d) 0 = nI d ∧ I (dn h d) 2 ≠ 0
def PO (I : It) (h : Ht) : Prop := (∀ r, hR h 1 13 = some r → ∃ p, p < 6 ∧ r = 43 + 5 * p) ∧ ∀ p, p < 6 → (∃ c, c ≤ 10 ∧ I (43 + 5 * p) 2 = nI c) ∧ ∀ k, k < 10 → ∃ x, x ≤ 100 ∧ I (46 + 5 * p) k = nI x
def weN (I : It) : Nat := tN (I 1 6)
def WX (I : It) (h : Ht) : Prop := HX h ∧ (I 1 2 = nI (cN I) ∧ cN I ≤ 10) ∧ (∀ d, d < cN I → OD I h d) ∧ PO I h ∧ (I 1 6 = nI (weN I) ∧ weN I ≤ 9999) ∧ ∃ r, r ≤ 12 ∧ I 1 12 = nI r
/-- scratch: what looks ahead writes there alone -/
def Sc (I J : It) : Prop := ∀ a, (a < 13 ∨ 29 < a) → J a = I a
theorem Sc.rf {I : It} : Sc I I := fun _ _ => rfl
theorem Sc.trans {I J K : It} (h1 : Sc I J) (h2 : Sc J K) : Sc I K := fun a ha => (h2 a ha).trans (h1 a ha)
theorem Sc.up {I J : It} {q j : Nat} {x : Int32} (h1 : Sc I J) (hq : 13 ≤ q ∧ q ≤ 29) : Sc I (upI J q j x) := fun a ha => (upI_off (by omega)).trans (h1 a ha)
theorem Sc.of1 {I J : It} {q : Nat} (h : ∀ a, a ≠ q → J a = I a) (hq : 13 ≤ q ∧ q ≤ 29) : Sc I J := fun a ha => h a (by omega)
theorem WX.sc {I J : It} {h : Ht} (hW : WX I h) (hS : Sc I J) : WX J h := by
  obtain ⟨h1, ⟨h2, h3⟩, h4, ⟨h5, h6⟩, ⟨h7, h8⟩, h9⟩ := hW
  have e1 : J 1 = I 1 := hS 1 (by omega)
  have ec : cN J = cN I := by unfold cN; rw [e1]
  have ew : weN J = weN I := by unfold weN; rw [e1]
  refine ⟨h1, ⟨by rw [e1, ec]; exact h2, by rw [ec]; exact h3⟩, fun d hd => ?_, ⟨h5, fun p hp => ⟨?_, fun k hk => ?_⟩⟩, ⟨by rw [e1, ew]; exact h7, by rw [ew]; exact h8⟩, by rw [e1]; exact h9⟩
  · obtain ⟨g1, g2, g3, g4, g5, g6⟩ := h4 d (by rw [← ec]; exact hd)
    refine ⟨g1, g2, g3, g4, ?_, ?_⟩
    · rw [hS _ (by omega)]; exact g5
    · rw [hS _ (by omega)]; exact g6
  · rw [hS _ (by omega)]; exact (h6 p hp).1
  · rw [hS _ (by omega)]; exact (h6 p hp).2 k hk
theorem PLt {h : Ht} (hH : HX h) {p j : Nat} (hp : p < 6) (hj : j < 5) : 43 + j + 5 * p < hn h := CLt hH (by omega)
theorem PSh {h : Ht} (hH : HX h) {p : Nat} (hp : p < 6) : (hs h (43 + 5 * p)).1 = 3 := by
  rcases (by omega : p = 0 ∨ p = 1 ∨ p = 2 ∨ p = 3 ∨ p = 4 ∨ p = 5) with rfl | rfl | rfl | rfl | rfl | rfl <;> exact CC hH _ (by decide) rfl
theorem PL0 {h : Ht} (hH : HX h) {p : Nat} (hp : p < 6) : 43 + 5 * p < hn h := CLt hH (by omega)
theorem PR3 {h : Ht} (hH : HX h) {p : Nat} (hp : p < 6) : hR h (43 + 5 * p) 3 = some (44 + 5 * p) := by
  rcases (by omega : p = 0 ∨ p = 1 ∨ p = 2 ∨ p = 3 ∨ p = 4 ∨ p = 5) with rfl | rfl | rfl | rfl | rfl | rfl <;> exact CR hH _ _ _ (by decide)
theorem PR4 {h : Ht} (hH : HX h) {p : Nat} (hp : p < 6) : hR h (43 + 5 * p) 4 = some (45 + 5 * p) := by
  rcases (by omega : p = 0 ∨ p = 1 ∨ p = 2 ∨ p = 3 ∨ p = 4 ∨ p = 5) with rfl | rfl | rfl | rfl | rfl | rfl <;> exact CR hH _ _ _ (by decide)
theorem PR5 {h : Ht} (hH : HX h) {p : Nat} (hp : p < 6) : hR h (43 + 5 * p) 5 = some (46 + 5 * p) := by
  rcases (by omega : p = 0 ∨ p = 1 ∨ p = 2 ∨ p = 3 ∨ p = 4 ∨ p = 5) with rfl | rfl | rfl | rfl | rfl | rfl <;> exact CR hH _ _ _ (by decide)
theorem PR6 {h : Ht} (hH : HX h) {p : Nat} (hp : p < 6) : hR h (43 + 5 * p) 6 = some (47 + 5 * p) := by
  rcases (by omega : p = 0 ∨ p = 1 ∨ p = 2 ∨ p = 3 ∨ p = 4 ∨ p = 5) with rfl | rfl | rfl | rfl | rfl | rfl <;> exact CR hH _ _ _ (by decide)
theorem PR8 {h : Ht} (hH : HX h) {p : Nat} (hp : p < 6) : hR h (43 + 5 * p) 8 = some 31 := by
  rcases (by omega : p = 0 ∨ p = 1 ∨ p = 2 ∨ p = 3 ∨ p = 4 ∨ p = 5) with rfl | rfl | rfl | rfl | rfl | rfl <;> exact CR hH _ _ _ (by decide)
theorem PA4 {h : Ht} (hH : HX h) {p : Nat} (hp : p < 6) : hs h (44 + 5 * p) = (20, 10) := by
  rcases (by omega : p = 0 ∨ p = 1 ∨ p = 2 ∨ p = 3 ∨ p = 4 ∨ p = 5) with rfl | rfl | rfl | rfl | rfl | rfl <;> exact CS hH _ (by decide) rfl
theorem PA5 {h : Ht} (hH : HX h) {p : Nat} (hp : p < 6) : hs h (45 + 5 * p) = (20, 10) := by
  rcases (by omega : p = 0 ∨ p = 1 ∨ p = 2 ∨ p = 3 ∨ p = 4 ∨ p = 5) with rfl | rfl | rfl | rfl | rfl | rfl <;> exact CS hH _ (by decide) rfl
theorem PA6 {h : Ht} (hH : HX h) {p : Nat} (hp : p < 6) : hs h (46 + 5 * p) = (20, 10) := by
  rcases (by omega : p = 0 ∨ p = 1 ∨ p = 2 ∨ p = 3 ∨ p = 4 ∨ p = 5) with rfl | rfl | rfl | rfl | rfl | rfl <;> exact CS hH _ (by decide) rfl
theorem PA7 {h : Ht} (hH : HX h) {p : Nat} (hp : p < 6) : hs h (47 + 5 * p) = (20, 100) := by
  rcases (by omega : p = 0 ∨ p = 1 ∨ p = 2 ∨ p = 3 ∨ p = 4 ∨ p = 5) with rfl | rfl | rfl | rfl | rfl | rfl <;> exact CS hH _ (by decide) rfl
/-! what the class works out, in its own terms -/
def wuF (I : It) (a : Nat) (w : Int32) : Int32 := fmI (I a 3 - w) (I a 2)
def cmR (I : It) (h : Ht) (w : Int32) : Nat → Nat → Int32 → Int32 := fun k => match k with
  | 0 => fun _ b => b
  | k + 1 => fun d b => cmR I h w k (d + 1) (if wuF I (dn h d) w = 0 then b ||| bitI (nI d) else b)
theorem cmR_s (I : It) (h : Ht) (w : Int32) (k d : Nat) (b : Int32) : cmR I h w (k + 1) d b = cmR I h w k (d + 1) (if wuF I (dn h d) w = 0 then b ||| bitI (nI d) else b) := rfl
def cmF (I : It) (h : Ht) (w : Int32) : Int32 := cmR I h w (cN I) 0 0
def lwR (I : It) (h : Ht) (s w : Int32) : Nat → Nat → Int32 → Int32 := fun k => match k with
  | 0 => fun _ z => z
  | k + 1 => fun d z => lwR I h s w k (d + 1) (if hasI s (nI d) = 0 then z else if z < wuF I (dn h d) w then wuF I (dn h d) w else z)
theorem lwR_s (I : It) (h : Ht) (s w : Int32) (k d : Nat) (z : Int32) : lwR I h s w (k + 1) d z = lwR I h s w k (d + 1) (if hasI s (nI d) = 0 then z else if z < wuF I (dn h d) w then wuF I (dn h d) w else z) := rfl
def factC (I : It) (h : Ht) (q : Nat) (t y w : Int32) : Int32 :=
  if t &&& 255 = 99 then I q 4 / 10 else if t &&& 255 = 105 then I q 0 else if t &&& 255 = 107 then knd (hs h q).1 else if t &&& 255 = 114 then I q 2 else if t &&& 255 = 118 then I q 1 else if t &&& 255 = 121 then y else w
def psC (I : It) (h : Ht) (q : Nat) (t y w : Int32) : Int32 :=
  if (t >>> (8 &&& 31)) &&& 255 = 60 then bI (factC I h q t y w < t >>> (16 &&& 31)) else if (t >>> (8 &&& 31)) &&& 255 = 61 then bI (factC I h q t y w = t >>> (16 &&& 31)) else bI (t >>> (16 &&& 31) < factC I h q t y w)
def stC (I : It) (h : Ht) (q : Nat) (y w t b : Int32) : Int32 :=
  if t = 33 then b ^^^ 1 else if t = 38 then b >>> (1 &&& 31) &&& (b ||| -2) else if t = 124 then b >>> (1 &&& 31) ||| b &&& 1 else b <<< (1 &&& 31) ||| psC I h q t y w
def hbR (I : It) (h : Ht) (p q : Nat) (y w : Int32) : Nat → Nat → Int32 → Int32 := fun k => match k with
  | 0 => fun _ b => b
  | k + 1 => fun c b => hbR I h p q y w k (c + 1) (stC I h q y w (I (47 + 5 * p) c) b)
theorem hbR_s (I : It) (h : Ht) (p q : Nat) (y w : Int32) (k c : Nat) (b : Int32) : hbR I h p q y w (k + 1) c b = hbR I h p q y w k (c + 1) (stC I h q y w (I (47 + 5 * p) c) b) := rfl
def eB (I : It) (p k : Nat) : Nat := if k = 0 then 0 else tN (I (46 + 5 * p) (k - 1))
def eE (I : It) (p k : Nat) : Nat := tN (I (46 + 5 * p) k)
/-- whether a clause's E holds -/
abbrev hoC (I : It) (h : Ht) (p k q : Nat) (y w : Int32) : Prop := hbR I h p q y w (eE I p k - eB I p k) (eB I p k) 0 &&& 1 ≠ 0
def tgR (I : It) (h : Ht) (p : Nat) (wd : Int32) (q : Nat) (y w : Int32) : Nat → Nat → Int32 → Int32 := fun k => match k with
  | 0 => fun _ z => z
  | k + 1 => fun c z => tgR I h p wd q y w k (c + 1) (if I (44 + 5 * p) c = wd ∧ hoC I h p c q y w then z + I (45 + 5 * p) c else z)
theorem tgR_s (I : It) (h : Ht) (p : Nat) (wd : Int32) (q : Nat) (y w : Int32) (k c : Nat) (z : Int32) : tgR I h p wd q y w (k + 1) c z = tgR I h p wd q y w k (c + 1) (if I (44 + 5 * p) c = wd ∧ hoC I h p c q y w then z + I (45 + 5 * p) c else z) := rfl
def pN (P : Nat) : Nat := (P - 43) / 5
theorem pN_eq (p : Nat) : pN (43 + 5 * p) = p := by unfold pN; omega
/-- what the post that holds says, together -/
def tgF (I : It) (h : Ht) (wd : Int32) (q : Nat) (y w : Int32) : Int32 := match hR h 1 13 with
  | none => 0
  | some P => tgR I h (pN P) wd q y w (tN (I P 2)) 0 0
def caF (I : It) (h : Ht) : Int32 := match hR h 1 13 with
  | none => 7
  | some P => I P 0
def faF (I : It) (h : Ht) : Int32 := match hR h 1 13 with
  | none => 1
  | some P => I P 1
theorem psC_01 (I : It) (h : Ht) (q : Nat) (t y w : Int32) : psC I h q t y w = 0 ∨ psC I h q t y w = 1 := by
  unfold psC
  split
  · exact bI_01 _
  · split
    · exact bI_01 _
    · exact bI_01 _
theorem psC_1 {I : It} {h : Ht} {q : Nat} {t y w : Int32} (hne : ¬ psC I h q t y w = 0) : psC I h q t y w = 1 := by
  rcases psC_01 I h q t y w with z | z
  · exact absurd z hne
  · exact z
theorem eE_eq {I : It} {h : Ht} (hP : PO I h) {p k : Nat} (hp : p < 6) (hk : k < 10) : I (46 + 5 * p) k = nI (eE I p k) ∧ eE I p k ≤ 100 := by
  obtain ⟨x, hx, e⟩ := (hP.2 p hp).2 k hk
  unfold eE
  rw [e, tN_nI (by omega)]
  exact ⟨rfl, hx⟩
theorem eB_z {I : It} {p k : Nat} (hk : k < 10) (h : nI k = 0) : (0 : Int32) = nI (eB I p k) := by
  have : k = 0 := (nI_eq (b := 0) (by omega) (by decide)).mp h
  subst this
  rfl
theorem eB_n {I : It} {h : Ht} (hP : PO I h) {p k : Nat} (hp : p < 6) (hk : k < 10) (h : ¬ nI k = 0) : I (46 + 5 * p) (k - 1) = nI (eB I p k) := by
  have h0 : k ≠ 0 := fun z => h (by rw [z]; rfl)
  unfold eB
  rw [if_neg h0]
  exact (eE_eq hP hp (by omega)).1
theorem eB_le {I : It} {h : Ht} (hP : PO I h) {p k : Nat} (hp : p < 6) (hk : k < 10) : eB I p k ≤ 100 := by
  unfold eB
  split
  · omega
  · exact (eE_eq hP hp (by omega)).2
theorem k_1 {k : Nat} (hk : k < 10) (h : ¬ nI k = 0) : idx (nI k - 1) (k - 1) 10 := by
  have h0 : k ≠ 0 := fun z => h (by rw [z]; rfl)
  exact ⟨by rw [show (1 : Int32) = nI 1 from rfl, pk_sub (by omega)], by omega, by decide⟩
end
