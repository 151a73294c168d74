theorem IT_r {h : Ht} (hH : HX h) {t : Nat} (ht : t < 6) : hR h 36 t = some (37 + t) := by
  rcases (by omega : t = 0 ∨ t = 1 ∨ t = 2 ∨ t = 3 ∨ t = 4 ∨ t = 5) with rfl | rfl | rfl | rfl | rfl | rfl <;> exact CR hH 36 _ _ (by decide)
theorem IT_lt {h : Ht} (hH : HX h) {t : Nat} (ht : t < 6) : 37 + t < hn h := CLt hH (by omega)
theorem IT_sh {h : Ht} (hH : HX h) {t : Nat} (ht : t < 6) : hs h (37 + t) = (21, 60) := by
  rcases (by omega : t = 0 ∨ t = 1 ∨ t = 2 ∨ t = 3 ∨ t = 4 ∨ t = 5) with rfl | rfl | rfl | rfl | rfl | rfl <;> exact CS hH _ (by decide) rfl
theorem no_m1 {b : Int32} (h : ¬ ¬ (0 ≤ b ∧ b ≤ 0 - 1)) : False := by
  have h2 := Decidable.not_not.mp h
  exact absurd (Int32.le_trans h2.1 h2.2) (by decide)
theorem okD.mv {h h2 : Ht} {r : Option Nat} (e1 : hn h2 = hn h) (e2 : hs h2 = hs h) (hr : okD h r) : okD h2 r := fun v e => by
  rw [e1, e2]; exact hr v e
theorem HX.wr {h : Ht} {q j : Nat} {r : Option Nat} (hH : HX h) (e : (RXL.all fun x => !(x.1.1 == q && x.1.2 == j)) = true) : HX (wR h q j r) := ⟨hH.1, hH.2.1, fun x hx => by
  have h1 := List.all_eq_true.mp e x hx
  rw [← hH.2.2 x hx]
  show (if x.1.1 = q ∧ x.1.2 = j then r else hR h x.1.1 x.1.2) = _
  rw [if_neg]
  rintro ⟨e1, e2⟩
  simp [e1, e2] at h1⟩
theorem HX.wq {h : Ht} {q j : Nat} {r : Option Nat} (hH : HX h) (e : (RXL.all fun x => !(x.1.1 == q)) = true) : HX (wR h q j r) := ⟨hH.1, hH.2.1, fun x hx => by
  have h1 := List.all_eq_true.mp e x hx
  rw [← hH.2.2 x hx]
  show (if x.1.1 = q ∧ x.1.2 = j then r else hR h x.1.1 x.1.2) = _
  rw [if_neg]
  rintro ⟨e1, e2⟩
  simp [e1] at h1⟩
theorem HX.zA {h : Ht} {c a1 : Nat} (hH : HX h) : HX (zA h (hn h) (hn h + 1) (c, a1)) := ⟨Nat.le_trans hH.1 (Nat.le_succ _), fun q hq => by
  rw [← hH.2.1 q hq]
  show (if q = hn h then _ else hs h q) = _
  rw [if_neg (by have := hH.1; omega)], fun x hx => by
  rw [← hH.2.2 x hx]
  have h1 : x.1.1 < 73 := by
    have := List.all_eq_true.mp (show (RXL.all fun x => decide (x.1.1 < 73)) = true by decide) x hx
    simpa using this
  show (if x.1.1 = hn h then none else hR h x.1.1 x.1.2) = _
  rw [if_neg (by have := hH.1; omega)]⟩
/-- State d becomes as State s is -/
def TF (d s : Nat) (I : It) (h : Ht) (I2 : It) (h2 : Ht) : Prop :=
  (∀ f, f ∈ [2, 3, 4, 6, 7, 8, 9, 12] → I2 d f = I s f) ∧ (∀ j, j < 10 → I2 (d + 2) j = I (s + 2) j) ∧ (∀ j, j < 4 → I2 (d + 3) j = I (s + 3) j) ∧ (∀ j, j < 12 → I2 (d + 4) j = I (s + 4) j) ∧ (∀ j, j < 12 → I2 (d + 5) j = I (s + 5) j) ∧ (∀ a, a ∉ [d, d + 2, d + 3, d + 4, d + 5] → I2 a = I a) ∧
  (∀ j, j < 10 → hR h2 (d + 1) j = hR h (s + 1) j) ∧ hR h2 d 13 = hR h s 13 ∧ (∀ a, a ≠ d → a ≠ d + 1 → hR h2 a = hR h a) ∧ (∀ j, j ≠ 13 → hR h2 d j = hR h d j) ∧ hs h2 = hs h ∧ hn h2 = hn h ∧ hL h2 = hL h ∧ HX h2
set_option maxRecDepth 8000 in
set_option maxHeartbeats 4000000 in
theorem c_take7 {G : Gt} (hG : Gok G) {I : It} {h : Ht}  (hH : HX h) (hO : ∀ j, j < 10 → okD h (hR h 2 j)) : Con G (2) 0 0 mX5_takeFrom [.ref 7, .ref 1] I h (qV (TF 7 1 I h)) := by
  refine con_intro (own := RX5) (lo0 := [some (.ref 7), some (.ref 1), none]) hG rfl pl_X5 (Nat.le_of_ble_eq_true rfl) rfl (fun X hX => ?_)
  have loop2 : ∀ (k i : Nat) (h2 : Ht), i + k = 10 → HX h2 → hn h2 = hn h → hs h2 = hs h → hL h2 = hL h → (∀ a, a ≠ 8 → hR h2 a = hR h a) → (∀ j, hR h2 8 j = if j < i then hR h 2 j else hR h 8 j) → GG G (2) 0 0 X (qV (TF 7 1 I h)) 2 [some (.ref 7), some (.ref 1), some (.int (nI i))] [] (I) (h2) 0 0 := by
    intro k
    induction k using Nat.strongRecOn with | _ k ih => ?_
    intro i h2 hk hH e1 e2 e3 e4 e5
    refine g_iload_2 hX (dk DX5_takeFrom_0 2 rfl) ?_
    refine g_bipush (v := 10) hX (dk DX5_takeFrom_0 3 rfl) (by decide) ?_
    refine g_icmp_ge (tgt := 26) hX (dk DX5_takeFrom_0 4 rfl) (by decide) (fun hc1 => ?_) (fun hc1 => ?_)
    · have hk0 := cl_end (e := 10) hk (by decide) hc1
      subst hk0
      refine g_aload_1 hX (dk DX5_takeFrom_0 15 rfl) ?_
      refine g_getRs (r := 3) hX (dk DX5_takeFrom_0 16 rfl) KX5 fX5_17 (by decide) rfl (CLt hH (q := 1) (by decide)) (CC hH 1 (by decide) rfl) (CR hH 1 1 3 (by decide)) ?_
      refine g_iconst (v := 0) hX (dk DX5_takeFrom_0 17 rfl) (by decide) ?_
      refine g_aload_0 hX (dk DX5_takeFrom_0 18 rfl) ?_
      refine g_getRs (r := 9) hX (dk DX5_takeFrom_0 19 rfl) KX5 fX5_17 (by decide) rfl (CLt hH (q := 7) (by decide)) (CC hH 7 (by decide) rfl) (CR hH 7 1 9 (by decide)) ?_
      refine g_iconst (v := 0) hX (dk DX5_takeFrom_0 20 rfl) (by decide) ?_
      refine g_bipush (v := 10) hX (dk DX5_takeFrom_0 21 rfl) (by decide) ?_
      refine g_copyI (sp := 0) (dp := 0) (m := 10) hX (dk DX5_takeFrom_0 22 rfl) (tg_4 99 rfl rfl) (tg_4 4 rfl rfl) (tg_4 3 rfl rfl) (tg_1 17 rfl rfl) (CLt hH (q := 3) (by decide)) (CS hH 3 (by decide) rfl) (CLt hH (q := 9) (by decide)) (CS hH 9 (by decide) rfl) (⟨rfl, rfl, rfl⟩) (⟨by decide, by decide⟩) (⟨by decide, by decide⟩) (by decide) (by decide) ?_
      refine g_aload_1 hX (dk DX5_takeFrom_0 23 rfl) ?_
      refine g_getRs (r := 4) hX (dk DX5_takeFrom_0 24 rfl) KX5 fX5_21 (by decide) rfl (CLt hH (q := 1) (by decide)) (CC hH 1 (by decide) rfl) (CR hH 1 5 4 (by decide)) ?_
      refine g_iconst (v := 0) hX (dk DX5_takeFrom_0 25 rfl) (by decide) ?_
      refine g_aload_0 hX (dk DX5_takeFrom_0 26 rfl) ?_
      refine g_getRs (r := 10) hX (dk DX5_takeFrom_0 27 rfl) KX5 fX5_21 (by decide) rfl (CLt hH (q := 7) (by decide)) (CC hH 7 (by decide) rfl) (CR hH 7 5 10 (by decide)) ?_
      refine g_iconst (v := 0) hX (dk DX5_takeFrom_0 28 rfl) (by decide) ?_
      refine g_iconst (v := 4) hX (dk DX5_takeFrom_0 29 rfl) (by decide) ?_
      refine g_copyI (sp := 0) (dp := 0) (m := 4) hX (dk DX5_takeFrom_0 30 rfl) (tg_4 99 rfl rfl) (tg_4 4 rfl rfl) (tg_4 3 rfl rfl) (tg_1 17 rfl rfl) (CLt hH (q := 4) (by decide)) (CS hH 4 (by decide) rfl) (CLt hH (q := 10) (by decide)) (CS hH 10 (by decide) rfl) (⟨rfl, rfl, rfl⟩) (⟨by decide, by decide⟩) (⟨by decide, by decide⟩) (by decide) (by decide) ?_
      refine g_aload_1 hX (dk DX5_takeFrom_0 31 rfl) ?_
      refine g_getRs (r := 5) hX (dk DX5_takeFrom_0 32 rfl) KX5 fX5_24 (by decide) rfl (CLt hH (q := 1) (by decide)) (CC hH 1 (by decide) rfl) (CR hH 1 10 5 (by decide)) ?_
      refine g_iconst (v := 0) hX (dk DX5_takeFrom_0 33 rfl) (by decide) ?_
      refine g_aload_0 hX (dk DX5_takeFrom_0 34 rfl) ?_
      refine g_getRs (r := 11) hX (dk DX5_takeFrom_0 35 rfl) KX5 fX5_24 (by decide) rfl (CLt hH (q := 7) (by decide)) (CC hH 7 (by decide) rfl) (CR hH 7 10 11 (by decide)) ?_
      refine g_iconst (v := 0) hX (dk DX5_takeFrom_0 36 rfl) (by decide) ?_
      refine g_bipush (v := 12) hX (dk DX5_takeFrom_0 37 rfl) (by decide) ?_
      refine g_copyI (sp := 0) (dp := 0) (m := 12) hX (dk DX5_takeFrom_0 38 rfl) (tg_4 99 rfl rfl) (tg_4 4 rfl rfl) (tg_4 3 rfl rfl) (tg_1 17 rfl rfl) (CLt hH (q := 5) (by decide)) (CS hH 5 (by decide) rfl) (CLt hH (q := 11) (by decide)) (CS hH 11 (by decide) rfl) (⟨rfl, rfl, rfl⟩) (⟨by decide, by decide⟩) (⟨by decide, by decide⟩) (by decide) (by decide) ?_
      refine g_aload_1 hX (dk DX5_takeFrom_0 39 rfl) ?_
      refine g_getRs (r := 6) hX (dk DX5_takeFrom_0 40 rfl) KX5 fX5_27 (by decide) rfl (CLt hH (q := 1) (by decide)) (CC hH 1 (by decide) rfl) (CR hH 1 11 6 (by decide)) ?_
      refine g_iconst (v := 0) hX (dk DX5_takeFrom_0 41 rfl) (by decide) ?_
      refine g_aload_0 hX (dk DX5_takeFrom_0 42 rfl) ?_
      refine g_getRs (r := 12) hX (dk DX5_takeFrom_0 43 rfl) KX5 fX5_27 (by decide) rfl (CLt hH (q := 7) (by decide)) (CC hH 7 (by decide) rfl) (CR hH 7 11 12 (by decide)) ?_
      refine g_iconst (v := 0) hX (dk DX5_takeFrom_0 44 rfl) (by decide) ?_
      refine g_bipush (v := 12) hX (dk DX5_takeFrom_0 45 rfl) (by decide) ?_
      refine g_copyI (sp := 0) (dp := 0) (m := 12) hX (dk DX5_takeFrom_0 46 rfl) (tg_4 99 rfl rfl) (tg_4 4 rfl rfl) (tg_4 3 rfl rfl) (tg_1 17 rfl rfl) (CLt hH (q := 6) (by decide)) (CS hH 6 (by decide) rfl) (CLt hH (q := 12) (by decide)) (CS hH 12 (by decide) rfl) (⟨rfl, rfl, rfl⟩) (⟨by decide, by decide⟩) (⟨by decide, by decide⟩) (by decide) (by decide) ?_
      refine g_aload_0 hX (dk DX5_takeFrom_0 47 rfl) ?_
      refine g_aload_1 hX (dk DX5_takeFrom_0 48 rfl) ?_
      refine g_getI hX (dk DX5_takeFrom_0 49 rfl) KX5 fX5_36 (by decide) rfl (CLt hH (q := 1) (by decide)) (CC hH 1 (by decide) rfl) ?_
      refine g_putI hX (dk DX5_takeFrom_0 50 rfl) KX5 fX5_36 (by decide) rfl (CLt hH (q := 7) (by decide)) (CC hH 7 (by decide) rfl) (Or.inl rfl) (rfl) (rfl) ?_
      refine g_aload_0 hX (dk DX5_takeFrom_0 51 rfl) ?_
      refine g_aload_1 hX (dk DX5_takeFrom_0 52 rfl) ?_
      refine g_getI hX (dk DX5_takeFrom_0 53 rfl) KX5 fX5_40 (by decide) rfl (CLt hH (q := 1) (by decide)) (CC hH 1 (by decide) rfl) ?_
      refine g_putI hX (dk DX5_takeFrom_0 54 rfl) KX5 fX5_40 (by decide) rfl (CLt hH (q := 7) (by decide)) (CC hH 7 (by decide) rfl) (Or.inl rfl) (rfl) (rfl) ?_
      refine g_aload_0 hX (dk DX5_takeFrom_0 55 rfl) ?_
      refine g_aload_1 hX (dk DX5_takeFrom_0 56 rfl) ?_
      refine g_getI hX (dk DX5_takeFrom_0 57 rfl) KX5 fX5_43 (by decide) rfl (CLt hH (q := 1) (by decide)) (CC hH 1 (by decide) rfl) ?_
      refine g_putI hX (dk DX5_takeFrom_0 58 rfl) KX5 fX5_43 (by decide) rfl (CLt hH (q := 7) (by decide)) (CC hH 7 (by decide) rfl) (Or.inl rfl) (rfl) (rfl) ?_
      refine g_aload_0 hX (dk DX5_takeFrom_0 59 rfl) ?_
      refine g_aload_1 hX (dk DX5_takeFrom_1 0 rfl) ?_
      refine g_getI hX (dk DX5_takeFrom_1 1 rfl) KX5 fX5_46 (by decide) rfl (CLt hH (q := 1) (by decide)) (CC hH 1 (by decide) rfl) ?_
      refine g_putI hX (dk DX5_takeFrom_1 2 rfl) KX5 fX5_46 (by decide) rfl (CLt hH (q := 7) (by decide)) (CC hH 7 (by decide) rfl) (Or.inl rfl) (rfl) (rfl) ?_
      refine g_aload_0 hX (dk DX5_takeFrom_1 3 rfl) ?_
      refine g_aload_1 hX (dk DX5_takeFrom_1 4 rfl) ?_
      refine g_getI hX (dk DX5_takeFrom_1 5 rfl) KX5 fX5_49 (by decide) rfl (CLt hH (q := 1) (by decide)) (CC hH 1 (by decide) rfl) ?_
      refine g_putI hX (dk DX5_takeFrom_1 6 rfl) KX5 fX5_49 (by decide) rfl (CLt hH (q := 7) (by decide)) (CC hH 7 (by decide) rfl) (Or.inl rfl) (rfl) (rfl) ?_
      refine g_aload_0 hX (dk DX5_takeFrom_1 7 rfl) ?_
      refine g_aload_1 hX (dk DX5_takeFrom_1 8 rfl) ?_
      refine g_getI hX (dk DX5_takeFrom_1 9 rfl) KX5 fX5_52 (by decide) rfl (CLt hH (q := 1) (by decide)) (CC hH 1 (by decide) rfl) ?_
      refine g_putI hX (dk DX5_takeFrom_1 10 rfl) KX5 fX5_52 (by decide) rfl (CLt hH (q := 7) (by decide)) (CC hH 7 (by decide) rfl) (Or.inl rfl) (rfl) (rfl) ?_
      refine g_aload_0 hX (dk DX5_takeFrom_1 11 rfl) ?_
      refine g_aload_1 hX (dk DX5_takeFrom_1 12 rfl) ?_
      refine g_getI hX (dk DX5_takeFrom_1 13 rfl) KX5 fX5_55 (by decide) rfl (CLt hH (q := 1) (by decide)) (CC hH 1 (by decide) rfl) ?_
      refine g_putI hX (dk DX5_takeFrom_1 14 rfl) KX5 fX5_55 (by decide) rfl (CLt hH (q := 7) (by decide)) (CC hH 7 (by decide) rfl) (Or.inl rfl) (rfl) (rfl) ?_
      refine g_aload_0 hX (dk DX5_takeFrom_1 15 rfl) ?_
      refine g_aload_1 hX (dk DX5_takeFrom_1 16 rfl) ?_
      refine g_getI hX (dk DX5_takeFrom_1 17 rfl) KX5 fX5_58 (by decide) rfl (CLt hH (q := 1) (by decide)) (CC hH 1 (by decide) rfl) ?_
      refine g_putI hX (dk DX5_takeFrom_1 18 rfl) KX5 fX5_58 (by decide) rfl (CLt hH (q := 7) (by decide)) (CC hH 7 (by decide) rfl) (Or.inl rfl) (rfl) (rfl) ?_
      refine g_aload_0 hX (dk DX5_takeFrom_1 19 rfl) ?_
      refine g_aload_1 hX (dk DX5_takeFrom_1 20 rfl) ?_
      refine g_getR hX (dk DX5_takeFrom_1 21 rfl) KX5 fX5_61 (by decide) rfl (CLt hH (q := 1) (by decide)) (CC hH 1 (by decide) rfl) (rfl) ?_
      refine g_putR (r := hR h2 1 13) hX (dk DX5_takeFrom_1 22 rfl) KX5 fX5_61 (by decide) rfl (CLt hH (q := 7) (by decide)) (CC hH 7 (by decide) rfl) (Or.inl rfl) rfl (by cases (hR h2 1 13) <;> rfl) (by cases (hR h2 1 13) <;> rfl) ?_
      refine g_return hX (dk DX5_takeFrom_1 23 rfl) rfl (by decide) (by decide) ?_
      refine qV_of ⟨?_, fun j hj => cpy_in hj, fun j hj => cpy_in hj, fun j hj => cpy_in hj, fun j hj => cpy_in hj, fun a ha => ?_, fun j hj => ?_, ?_, fun a h0 h1 => ?_, fun j hj => ?_, e2, e1, e3, HX.wr hH (by decide)⟩
      · exact am_s rfl (am_s rfl (am_s rfl (am_s rfl (am_s rfl (am_s rfl (am_s rfl (am_s rfl am_0)))))))
      · simp only [List.mem_cons, List.not_mem_nil, or_false, not_or] at ha
        obtain ⟨a0, a2, a3, a4, a5⟩ := ha
        simp only [upI_off a0, cpI_off a2, cpI_off a3, cpI_off a4, cpI_off a5]
      · exact (show hR h2 8 j = hR h 2 j by rw [e5 j, if_pos (by omega)])
      · exact (show (if 7 = 7 ∧ 13 = 13 then hR h2 1 13 else hR h2 7 13) = _ from if_pos ⟨rfl, rfl⟩).trans (congrFun (e4 1 (by decide)) 13)
      · exact (upR_off (I := hR h2) h0).trans (e4 a h1)
      · exact (show (if 7 = 7 ∧ j = 13 then hR h2 1 13 else hR h2 7 j) = _ from if_neg (fun z => hj z.2)).trans (congrFun (e4 7 (by decide)) j)
    · obtain ⟨k, rfl⟩ := cl_go (e := 10) hk (by decide) hc1
      refine g_aload_0 hX (dk DX5_takeFrom_0 5 rfl) ?_
      refine g_getRs (r := 8) hX (dk DX5_takeFrom_0 6 rfl) KX5 fX5_11 (by decide) rfl (CLt hH (q := 7) (by decide)) (CC hH 7 (by decide) rfl) (CR hH 7 0 8 (by decide)) ?_
      refine g_iload_2 hX (dk DX5_takeFrom_0 7 rfl) ?_
      refine g_aload_1 hX (dk DX5_takeFrom_0 8 rfl) ?_
      refine g_getRs (r := 2) hX (dk DX5_takeFrom_0 9 rfl) KX5 fX5_11 (by decide) rfl (CLt hH (q := 1) (by decide)) (CC hH 1 (by decide) rfl) (CR hH 1 0 2 (by decide)) ?_
      refine g_iload_2 hX (dk DX5_takeFrom_0 10 rfl) ?_
      refine i_aaload (i0 := 4) hX (dk DX5_takeFrom_0 11 rfl) (CLt hH (q := 2) (by decide)) (CS hH 2 (by decide) rfl) (by decide) rfl rfl (⟨rfl, by omega, by decide⟩) (rfl) ?_
      refine g_aastoreD (r := hR h2 2 i) (j := i) hX (dk DX5_takeFrom_0 12 rfl) (CLt hH (q := 8) (by decide)) (CS hH 8 (by decide) rfl) (⟨rfl, by omega, by decide⟩) (by rw [show hR h2 2 i = hR h 2 i from congrFun (e4 2 (by decide)) i]; exact okD.mv e1 e2 (hO i (by omega))) ?_
      refine g_iinc_2 hX (dk DX5_takeFrom_0 13 rfl) (nI_1 i) (by decide) rfl ?_
      refine g_goto (tgt := 2) hX (dk DX5_takeFrom_0 14 rfl) (by decide) ?_
      exact ih k (by omega) (i + 1) _ (by omega) (HX.wq hH (by decide)) e1 e2 e3 (fun a ha => (upR_off (I := hR h2) ha).trans (e4 a ha)) (fun j => by
        show (if 8 = 8 ∧ j = i then hR h2 2 i else hR h2 8 j) = _
        by_cases e : j = i
        · rw [if_pos ⟨rfl, e⟩, if_pos (by omega), e]; exact congrFun (e4 2 (by decide)) i
        · rw [if_neg (fun z => e z.2), e5 j]
          by_cases z : j < i
          · rw [if_pos z, if_pos (by omega)]
          · rw [if_neg z, if_neg (by omega)])
  refine g_iconst (v := 0) hX (dk DX5_takeFrom_0 0 rfl) (by decide) ?_
  refine g_istore_2 hX (dk DX5_takeFrom_0 1 rfl) (by decide) rfl ?_
  exact loop2 10 0 h (Nat.zero_add _) hH rfl rfl rfl (fun _ _ => rfl) (fun j => by rw [if_neg (Nat.not_lt_zero j)])

set_option maxRecDepth 8000 in
set_option maxHeartbeats 4000000 in
theorem c_take1 {G : Gt} (hG : Gok G) {I : It} {h : Ht}  (hH : HX h) (hO : ∀ j, j < 10 → okD h (hR h 8 j)) : Con G (2) 0 0 mX5_takeFrom [.ref 1, .ref 7] I h (qV (TF 1 7 I h)) := by
  refine con_intro (own := RX5) (lo0 := [some (.ref 1), some (.ref 7), none]) hG rfl pl_X5 (Nat.le_of_ble_eq_true rfl) rfl (fun X hX => ?_)
  have loop2 : ∀ (k i : Nat) (h2 : Ht), i + k = 10 → HX h2 → hn h2 = hn h → hs h2 = hs h → hL h2 = hL h → (∀ a, a ≠ 2 → hR h2 a = hR h a) → (∀ j, hR h2 2 j = if j < i then hR h 8 j else hR h 2 j) → GG G (2) 0 0 X (qV (TF 1 7 I h)) 2 [some (.ref 1), some (.ref 7), some (.int (nI i))] [] (I) (h2) 0 0 := by
    intro k
    induction k using Nat.strongRecOn with | _ k ih => ?_
    intro i h2 hk hH e1 e2 e3 e4 e5
    refine g_iload_2 hX (dk DX5_takeFrom_0 2 rfl) ?_
    refine g_bipush (v := 10) hX (dk DX5_takeFrom_0 3 rfl) (by decide) ?_
    refine g_icmp_ge (tgt := 26) hX (dk DX5_takeFrom_0 4 rfl) (by decide) (fun hc1 => ?_) (fun hc1 => ?_)
    · have hk0 := cl_end (e := 10) hk (by decide) hc1
      subst hk0
      refine g_aload_1 hX (dk DX5_takeFrom_0 15 rfl) ?_
      refine g_getRs (r := 9) hX (dk DX5_takeFrom_0 16 rfl) KX5 fX5_17 (by decide) rfl (CLt hH (q := 7) (by decide)) (CC hH 7 (by decide) rfl) (CR hH 7 1 9 (by decide)) ?_
      refine g_iconst (v := 0) hX (dk DX5_takeFrom_0 17 rfl) (by decide) ?_
      refine g_aload_0 hX (dk DX5_takeFrom_0 18 rfl) ?_
      refine g_getRs (r := 3) hX (dk DX5_takeFrom_0 19 rfl) KX5 fX5_17 (by decide) rfl (CLt hH (q := 1) (by decide)) (CC hH 1 (by decide) rfl) (CR hH 1 1 3 (by decide)) ?_
      refine g_iconst (v := 0) hX (dk DX5_takeFrom_0 20 rfl) (by decide) ?_
      refine g_bipush (v := 10) hX (dk DX5_takeFrom_0 21 rfl) (by decide) ?_
      refine g_copyI (sp := 0) (dp := 0) (m := 10) hX (dk DX5_takeFrom_0 22 rfl) (tg_4 99 rfl rfl) (tg_4 4 rfl rfl) (tg_4 3 rfl rfl) (tg_1 17 rfl rfl) (CLt hH (q := 9) (by decide)) (CS hH 9 (by decide) rfl) (CLt hH (q := 3) (by decide)) (CS hH 3 (by decide) rfl) (⟨rfl, rfl, rfl⟩) (⟨by decide, by decide⟩) (⟨by decide, by decide⟩) (by decide) (by decide) ?_
      refine g_aload_1 hX (dk DX5_takeFrom_0 23 rfl) ?_
      refine g_getRs (r := 10) hX (dk DX5_takeFrom_0 24 rfl) KX5 fX5_21 (by decide) rfl (CLt hH (q := 7) (by decide)) (CC hH 7 (by decide) rfl) (CR hH 7 5 10 (by decide)) ?_
      refine g_iconst (v := 0) hX (dk DX5_takeFrom_0 25 rfl) (by decide) ?_
      refine g_aload_0 hX (dk DX5_takeFrom_0 26 rfl) ?_
      refine g_getRs (r := 4) hX (dk DX5_takeFrom_0 27 rfl) KX5 fX5_21 (by decide) rfl (CLt hH (q := 1) (by decide)) (CC hH 1 (by decide) rfl) (CR hH 1 5 4 (by decide)) ?_
      refine g_iconst (v := 0) hX (dk DX5_takeFrom_0 28 rfl) (by decide) ?_
      refine g_iconst (v := 4) hX (dk DX5_takeFrom_0 29 rfl) (by decide) ?_
      refine g_copyI (sp := 0) (dp := 0) (m := 4) hX (dk DX5_takeFrom_0 30 rfl) (tg_4 99 rfl rfl) (tg_4 4 rfl rfl) (tg_4 3 rfl rfl) (tg_1 17 rfl rfl) (CLt hH (q := 10) (by decide)) (CS hH 10 (by decide) rfl) (CLt hH (q := 4) (by decide)) (CS hH 4 (by decide) rfl) (⟨rfl, rfl, rfl⟩) (⟨by decide, by decide⟩) (⟨by decide, by decide⟩) (by decide) (by decide) ?_
      refine g_aload_1 hX (dk DX5_takeFrom_0 31 rfl) ?_
      refine g_getRs (r := 11) hX (dk DX5_takeFrom_0 32 rfl) KX5 fX5_24 (by decide) rfl (CLt hH (q := 7) (by decide)) (CC hH 7 (by decide) rfl) (CR hH 7 10 11 (by decide)) ?_
      refine g_iconst (v := 0) hX (dk DX5_takeFrom_0 33 rfl) (by decide) ?_
      refine g_aload_0 hX (dk DX5_takeFrom_0 34 rfl) ?_
      refine g_getRs (r := 5) hX (dk DX5_takeFrom_0 35 rfl) KX5 fX5_24 (by decide) rfl (CLt hH (q := 1) (by decide)) (CC hH 1 (by decide) rfl) (CR hH 1 10 5 (by decide)) ?_
      refine g_iconst (v := 0) hX (dk DX5_takeFrom_0 36 rfl) (by decide) ?_
      refine g_bipush (v := 12) hX (dk DX5_takeFrom_0 37 rfl) (by decide) ?_
      refine g_copyI (sp := 0) (dp := 0) (m := 12) hX (dk DX5_takeFrom_0 38 rfl) (tg_4 99 rfl rfl) (tg_4 4 rfl rfl) (tg_4 3 rfl rfl) (tg_1 17 rfl rfl) (CLt hH (q := 11) (by decide)) (CS hH 11 (by decide) rfl) (CLt hH (q := 5) (by decide)) (CS hH 5 (by decide) rfl) (⟨rfl, rfl, rfl⟩) (⟨by decide, by decide⟩) (⟨by decide, by decide⟩) (by decide) (by decide) ?_
      refine g_aload_1 hX (dk DX5_takeFrom_0 39 rfl) ?_
      refine g_getRs (r := 12) hX (dk DX5_takeFrom_0 40 rfl) KX5 fX5_27 (by decide) rfl (CLt hH (q := 7) (by decide)) (CC hH 7 (by decide) rfl) (CR hH 7 11 12 (by decide)) ?_
      refine g_iconst (v := 0) hX (dk DX5_takeFrom_0 41 rfl) (by decide) ?_
      refine g_aload_0 hX (dk DX5_takeFrom_0 42 rfl) ?_
      refine g_getRs (r := 6) hX (dk DX5_takeFrom_0 43 rfl) KX5 fX5_27 (by decide) rfl (CLt hH (q := 1) (by decide)) (CC hH 1 (by decide) rfl) (CR hH 1 11 6 (by decide)) ?_
      refine g_iconst (v := 0) hX (dk DX5_takeFrom_0 44 rfl) (by decide) ?_
      refine g_bipush (v := 12) hX (dk DX5_takeFrom_0 45 rfl) (by decide) ?_
      refine g_copyI (sp := 0) (dp := 0) (m := 12) hX (dk DX5_takeFrom_0 46 rfl) (tg_4 99 rfl rfl) (tg_4 4 rfl rfl) (tg_4 3 rfl rfl) (tg_1 17 rfl rfl) (CLt hH (q := 12) (by decide)) (CS hH 12 (by decide) rfl) (CLt hH (q := 6) (by decide)) (CS hH 6 (by decide) rfl) (⟨rfl, rfl, rfl⟩) (⟨by decide, by decide⟩) (⟨by decide, by decide⟩) (by decide) (by decide) ?_
      refine g_aload_0 hX (dk DX5_takeFrom_0 47 rfl) ?_
      refine g_aload_1 hX (dk DX5_takeFrom_0 48 rfl) ?_
      refine g_getI hX (dk DX5_takeFrom_0 49 rfl) KX5 fX5_36 (by decide) rfl (CLt hH (q := 7) (by decide)) (CC hH 7 (by decide) rfl) ?_
      refine g_putI hX (dk DX5_takeFrom_0 50 rfl) KX5 fX5_36 (by decide) rfl (CLt hH (q := 1) (by decide)) (CC hH 1 (by decide) rfl) (Or.inl rfl) (rfl) (rfl) ?_
      refine g_aload_0 hX (dk DX5_takeFrom_0 51 rfl) ?_
      refine g_aload_1 hX (dk DX5_takeFrom_0 52 rfl) ?_
      refine g_getI hX (dk DX5_takeFrom_0 53 rfl) KX5 fX5_40 (by decide) rfl (CLt hH (q := 7) (by decide)) (CC hH 7 (by decide) rfl) ?_
      refine g_putI hX (dk DX5_takeFrom_0 54 rfl) KX5 fX5_40 (by decide) rfl (CLt hH (q := 1) (by decide)) (CC hH 1 (by decide) rfl) (Or.inl rfl) (rfl) (rfl) ?_
      refine g_aload_0 hX (dk DX5_takeFrom_0 55 rfl) ?_
      refine g_aload_1 hX (dk DX5_takeFrom_0 56 rfl) ?_
      refine g_getI hX (dk DX5_takeFrom_0 57 rfl) KX5 fX5_43 (by decide) rfl (CLt hH (q := 7) (by decide)) (CC hH 7 (by decide) rfl) ?_
      refine g_putI hX (dk DX5_takeFrom_0 58 rfl) KX5 fX5_43 (by decide) rfl (CLt hH (q := 1) (by decide)) (CC hH 1 (by decide) rfl) (Or.inl rfl) (rfl) (rfl) ?_
      refine g_aload_0 hX (dk DX5_takeFrom_0 59 rfl) ?_
      refine g_aload_1 hX (dk DX5_takeFrom_1 0 rfl) ?_
      refine g_getI hX (dk DX5_takeFrom_1 1 rfl) KX5 fX5_46 (by decide) rfl (CLt hH (q := 7) (by decide)) (CC hH 7 (by decide) rfl) ?_
      refine g_putI hX (dk DX5_takeFrom_1 2 rfl) KX5 fX5_46 (by decide) rfl (CLt hH (q := 1) (by decide)) (CC hH 1 (by decide) rfl) (Or.inl rfl) (rfl) (rfl) ?_
      refine g_aload_0 hX (dk DX5_takeFrom_1 3 rfl) ?_
      refine g_aload_1 hX (dk DX5_takeFrom_1 4 rfl) ?_
      refine g_getI hX (dk DX5_takeFrom_1 5 rfl) KX5 fX5_49 (by decide) rfl (CLt hH (q := 7) (by decide)) (CC hH 7 (by decide) rfl) ?_
      refine g_putI hX (dk DX5_takeFrom_1 6 rfl) KX5 fX5_49 (by decide) rfl (CLt hH (q := 1) (by decide)) (CC hH 1 (by decide) rfl) (Or.inl rfl) (rfl) (rfl) ?_
      refine g_aload_0 hX (dk DX5_takeFrom_1 7 rfl) ?_
      refine g_aload_1 hX (dk DX5_takeFrom_1 8 rfl) ?_
      refine g_getI hX (dk DX5_takeFrom_1 9 rfl) KX5 fX5_52 (by decide) rfl (CLt hH (q := 7) (by decide)) (CC hH 7 (by decide) rfl) ?_
      refine g_putI hX (dk DX5_takeFrom_1 10 rfl) KX5 fX5_52 (by decide) rfl (CLt hH (q := 1) (by decide)) (CC hH 1 (by decide) rfl) (Or.inl rfl) (rfl) (rfl) ?_
      refine g_aload_0 hX (dk DX5_takeFrom_1 11 rfl) ?_
      refine g_aload_1 hX (dk DX5_takeFrom_1 12 rfl) ?_
      refine g_getI hX (dk DX5_takeFrom_1 13 rfl) KX5 fX5_55 (by decide) rfl (CLt hH (q := 7) (by decide)) (CC hH 7 (by decide) rfl) ?_
      refine g_putI hX (dk DX5_takeFrom_1 14 rfl) KX5 fX5_55 (by decide) rfl (CLt hH (q := 1) (by decide)) (CC hH 1 (by decide) rfl) (Or.inl rfl) (rfl) (rfl) ?_
      refine g_aload_0 hX (dk DX5_takeFrom_1 15 rfl) ?_
      refine g_aload_1 hX (dk DX5_takeFrom_1 16 rfl) ?_
      refine g_getI hX (dk DX5_takeFrom_1 17 rfl) KX5 fX5_58 (by decide) rfl (CLt hH (q := 7) (by decide)) (CC hH 7 (by decide) rfl) ?_
      refine g_putI hX (dk DX5_takeFrom_1 18 rfl) KX5 fX5_58 (by decide) rfl (CLt hH (q := 1) (by decide)) (CC hH 1 (by decide) rfl) (Or.inl rfl) (rfl) (rfl) ?_
      refine g_aload_0 hX (dk DX5_takeFrom_1 19 rfl) ?_
      refine g_aload_1 hX (dk DX5_takeFrom_1 20 rfl) ?_
      refine g_getR hX (dk DX5_takeFrom_1 21 rfl) KX5 fX5_61 (by decide) rfl (CLt hH (q := 7) (by decide)) (CC hH 7 (by decide) rfl) (rfl) ?_
      refine g_putR (r := hR h2 7 13) hX (dk DX5_takeFrom_1 22 rfl) KX5 fX5_61 (by decide) rfl (CLt hH (q := 1) (by decide)) (CC hH 1 (by decide) rfl) (Or.inl rfl) rfl (by cases (hR h2 7 13) <;> rfl) (by cases (hR h2 7 13) <;> rfl) ?_
      refine g_return hX (dk DX5_takeFrom_1 23 rfl) rfl (by decide) (by decide) ?_
      refine qV_of ⟨?_, fun j hj => cpy_in hj, fun j hj => cpy_in hj, fun j hj => cpy_in hj, fun j hj => cpy_in hj, fun a ha => ?_, fun j hj => ?_, ?_, fun a h0 h1 => ?_, fun j hj => ?_, e2, e1, e3, HX.wr hH (by decide)⟩
      · exact am_s rfl (am_s rfl (am_s rfl (am_s rfl (am_s rfl (am_s rfl (am_s rfl (am_s rfl am_0)))))))
      · simp only [List.mem_cons, List.not_mem_nil, or_false, not_or] at ha
        obtain ⟨a0, a2, a3, a4, a5⟩ := ha
        simp only [upI_off a0, cpI_off a2, cpI_off a3, cpI_off a4, cpI_off a5]
      · exact (show hR h2 2 j = hR h 8 j by rw [e5 j, if_pos (by omega)])
      · exact (show (if 1 = 1 ∧ 13 = 13 then hR h2 7 13 else hR h2 1 13) = _ from if_pos ⟨rfl, rfl⟩).trans (congrFun (e4 7 (by decide)) 13)
      · exact (upR_off (I := hR h2) h0).trans (e4 a h1)
      · exact (show (if 1 = 1 ∧ j = 13 then hR h2 7 13 else hR h2 1 j) = _ from if_neg (fun z => hj z.2)).trans (congrFun (e4 1 (by decide)) j)
    · obtain ⟨k, rfl⟩ := cl_go (e := 10) hk (by decide) hc1
      refine g_aload_0 hX (dk DX5_takeFrom_0 5 rfl) ?_
      refine g_getRs (r := 2) hX (dk DX5_takeFrom_0 6 rfl) KX5 fX5_11 (by decide) rfl (CLt hH (q := 1) (by decide)) (CC hH 1 (by decide) rfl) (CR hH 1 0 2 (by decide)) ?_
      refine g_iload_2 hX (dk DX5_takeFrom_0 7 rfl) ?_
      refine g_aload_1 hX (dk DX5_takeFrom_0 8 rfl) ?_
      refine g_getRs (r := 8) hX (dk DX5_takeFrom_0 9 rfl) KX5 fX5_11 (by decide) rfl (CLt hH (q := 7) (by decide)) (CC hH 7 (by decide) rfl) (CR hH 7 0 8 (by decide)) ?_
      refine g_iload_2 hX (dk DX5_takeFrom_0 10 rfl) ?_
      refine i_aaload (i0 := 4) hX (dk DX5_takeFrom_0 11 rfl) (CLt hH (q := 8) (by decide)) (CS hH 8 (by decide) rfl) (by decide) rfl rfl (⟨rfl, by omega, by decide⟩) (rfl) ?_
      refine g_aastoreD (r := hR h2 8 i) (j := i) hX (dk DX5_takeFrom_0 12 rfl) (CLt hH (q := 2) (by decide)) (CS hH 2 (by decide) rfl) (⟨rfl, by omega, by decide⟩) (by rw [show hR h2 8 i = hR h 8 i from congrFun (e4 8 (by decide)) i]; exact okD.mv e1 e2 (hO i (by omega))) ?_
      refine g_iinc_2 hX (dk DX5_takeFrom_0 13 rfl) (nI_1 i) (by decide) rfl ?_
      refine g_goto (tgt := 2) hX (dk DX5_takeFrom_0 14 rfl) (by decide) ?_
      exact ih k (by omega) (i + 1) _ (by omega) (HX.wq hH (by decide)) e1 e2 e3 (fun a ha => (upR_off (I := hR h2) ha).trans (e4 a ha)) (fun j => by
        show (if 2 = 2 ∧ j = i then hR h2 8 i else hR h2 2 j) = _
        by_cases e : j = i
        · rw [if_pos ⟨rfl, e⟩, if_pos (by omega), e]; exact congrFun (e4 8 (by decide)) i
        · rw [if_neg (fun z => e z.2), e5 j]
          by_cases z : j < i
          · rw [if_pos z, if_pos (by omega)]
          · rw [if_neg z, if_neg (by omega)])
  refine g_iconst (v := 0) hX (dk DX5_takeFrom_0 0 rfl) (by decide) ?_
  refine g_istore_2 hX (dk DX5_takeFrom_0 1 rfl) (by decide) rfl ?_
  exact loop2 10 0 h (Nat.zero_add _) hH rfl rfl rfl (fun _ _ => rfl) (fun j => by rw [if_neg (Nat.not_lt_zero j)])

