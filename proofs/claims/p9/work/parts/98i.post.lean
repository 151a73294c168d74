/-! the post: what is answered, and the picture behind it -/
def fedN (E : It) : Nat := tN (E 0 17)
def poR (E : It) : Bool × Nat × List Cl := gtA (E 9) (fedN E) 10 0 []
/-- a picture with a post more -/
def PN (E E' : It) (l : List Cl) : Prop :=
  (E' 0 15 = nI (nP E + 1) ∧ E' 0 16 = nI (nP E) ∧ E' 0 17 = 0) ∧ (∀ j, j ∉ [15, 16, 17] → E' 0 j = E 0 j) ∧ (∀ a, a ∉ [0, 10, 11, 12, 13, 14, 15] → E' a = E a) ∧
  (∀ j, j < nP E → E' 10 j = E 10 j) ∧ (∀ j, j < 10 * nP E → E' 11 j = E 11 j ∧ E' 12 j = E 12 j ∧ E' 13 j = E 13 j ∧ E' 14 j = E 14 j) ∧ (∀ j, j < 100 * nP E → E' 15 j = E 15 j) ∧
  E' 10 (nP E) = nI l.length ∧ STc E' (nP E) l 0 (100 * nP E) ∧ tot l ≤ 100
def PoS (E E' : It) (v : Int32) : Prop :=
  (nP E = 6 ∧ v = -4 ∧ E' = E) ∨ (nP E < 6 ∧ (poR E).1 = false ∧ v = -10 - nI (poR E).2.1 ∧ E' = upI E 0 17 0) ∨ (nP E < 6 ∧ (poR E).1 = true ∧ v = nI (nP E) ∧ PN E E' (poR E).2.2)
def pnE (E J : It) (p : Nat) : It := fun a j => if a = 0 then (if j = 15 then nI (p + 1) else if j = 16 then nI p else if j = 17 then 0 else E 0 j) else if 10 ≤ a ∧ a ≤ 15 then J a j else E a j
theorem pnE_0 {E J : It} {p j : Nat} (h : j ∉ [15, 16, 17]) : pnE E J p 0 j = E 0 j := by
  simp only [List.mem_cons, List.not_mem_nil, or_false, not_or] at h
  unfold pnE
  rw [if_pos rfl, if_neg h.1, if_neg h.2.1, if_neg h.2.2]
theorem pnE_c {E J : It} {p a : Nat} (h0 : a ≠ 0) (h : ¬ (10 ≤ a ∧ a ≤ 15)) : pnE E J p a = E a := by
  funext j
  unfold pnE
  rw [if_neg h0, if_neg h]
theorem pnE_r {E J : It} {p a : Nat} (h : 10 ≤ a ∧ a ≤ 15) : pnE E J p a = J a := by
  funext j
  unfold pnE
  rw [if_neg (by omega), if_pos h]
theorem post_f {E I J : It} (hR : RM E I) (hG : FG (nP E) I J) : RM (upI E 0 17 0) (upI J 0 17 0) := by
  obtain ⟨a1, a2, a3, a4, a5, a6⟩ := hR
  obtain ⟨g1, g2, g3, g4, g5⟩ := hG
  have hn : nP (upI E 0 17 0) = nP E := rfl
  refine ⟨fun j hj _ => ?_, fun a ha _ => ?_, ?_, ?_, ?_, ?_⟩
  · by_cases e : j = 17
    · subst e; rw [up0, up0]
    · rw [upn (fun z => e z.2), upn (fun z => e z.2), g1 j (by intro z; revert hj z; simp [pfL]; omega)]
      exact a1 j hj (by simp)
  · have h0 : a ≠ 0 := by rintro rfl; revert ha; decide
    rw [upI_off h0, upI_off h0, g2 a (by intro z; revert ha z; simp [pcL]; omega)]
    exact a2 a ha (by simp)
  · intro j hj
    rw [hn] at hj
    exact (g3 j (by omega)).trans (a3 j hj)
  · intro j hj
    rw [hn] at hj
    obtain ⟨e1, e2, e3, e4⟩ := g4 j (by omega)
    obtain ⟨b1, b2, b3, b4⟩ := a4 j hj
    exact ⟨e1.trans b1, e2.trans b2, e3.trans b3, e4.trans b4⟩
  · intro j hj
    rw [hn] at hj
    exact (g5 j (by omega)).trans (a5 j hj)
  · intro j hj
    exact (congrFun (g2 17 (by decide)) j).trans (a6 j hj)
theorem post_t {E I J : It} (hR : RM E I) (hG : FG (nP E) I J) : RM (pnE E J (nP E)) (upI (upI (upI J 0 17 0) 0 16 (nI (nP E))) 0 15 (nI (nP E + 1))) := by
  obtain ⟨a1, a2, a3, a4, a5, a6⟩ := hR
  obtain ⟨g1, g2, g3, g4, g5⟩ := hG
  have ho : ∀ a, a ≠ 0 → upI (upI (upI J 0 17 0) 0 16 (nI (nP E))) 0 15 (nI (nP E + 1)) a = J a := fun a h0 => (upI_off h0).trans ((upI_off h0).trans (upI_off h0))
  refine ⟨fun j hj _ => ?_, fun a ha _ => ?_, fun j hj => ?_, fun j hj => ?_, fun j hj => ?_, fun j hj => ?_⟩
  · by_cases e : j = 15
    · subst e; rfl
    · by_cases e2 : j = 16
      · subst e2; rfl
      · by_cases e3 : j = 17
        · subst e3; rfl
        · rw [pnE_0 (by simp; omega), upn (fun z => e z.2), upn (fun z => e2 z.2), upn (fun z => e3 z.2), g1 j (by intro z; revert hj z; simp [pfL]; omega)]
          exact a1 j hj (by simp)
  · have h0 : a ≠ 0 := by rintro rfl; revert ha; decide
    rw [ho a h0, pnE_c h0 (by intro z; revert ha z; simp [pcL]; omega), g2 a (by intro z; revert ha z; simp [pcL]; omega)]
    exact a2 a ha (by simp)
  · rw [ho 10 (by decide), pnE_r (by decide)]
  · rw [ho 11 (by decide), pnE_r (by decide), ho 12 (by decide), pnE_r (by decide), ho 13 (by decide), pnE_r (by decide), ho 14 (by decide), pnE_r (by decide)]
    exact ⟨rfl, rfl, rfl, rfl⟩
  · rw [ho 15 (by decide), pnE_r (by decide)]
  · rw [ho 17 (by decide)]
    exact (congrFun (g2 17 (by decide)) j).trans (a6 j hj)
theorem post_n {E I J : It} {l : List Cl} (hR : RM E I) (hG : FG (nP E) I J) (h1 : J 10 (nP E) = nI l.length) (h2 : STc J (nP E) l 0 (100 * nP E)) (h3 : tot l ≤ 100) : PN E (pnE E J (nP E)) l := by
  obtain ⟨a1, a2, a3, a4, a5, a6⟩ := hR
  obtain ⟨g1, g2, g3, g4, g5⟩ := hG
  refine ⟨⟨rfl, rfl, rfl⟩, fun j hj => pnE_0 hj, fun a ha => pnE_c (by rintro rfl; revert ha; decide) (by intro z; revert ha z; simp; omega), fun j hj => ?_, fun j hj => ?_, fun j hj => ?_, ?_, ?_, h3⟩
  · rw [pnE_r (by decide), g3 j (by omega)]; exact a3 j hj
  · rw [pnE_r (by decide), pnE_r (by decide), pnE_r (by decide), pnE_r (by decide)]
    obtain ⟨e1, e2, e3, e4⟩ := g4 j (by omega)
    obtain ⟨b1, b2, b3, b4⟩ := a4 j hj
    exact ⟨e1.trans b1, e2.trans b2, e3.trans b3, e4.trans b4⟩
  · rw [pnE_r (by decide), g5 j (by omega)]; exact a5 j hj
  · rw [pnE_r (by decide)]; exact h1
  · exact STc_mv h2 (fun c _ _ => by rw [pnE_r (by decide), pnE_r (by decide), pnE_r (by decide), pnE_r (by decide)]; exact ⟨rfl, rfl, rfl, rfl⟩) (fun j _ _ => by rw [pnE_r (by decide)])
theorem post_T {E I : It} (hE : Inv E) (hR : RM E I) : TX (E 9) (fedN E) I := by
  obtain ⟨f, hf, ef, -⟩ := hE.2.2.2.2.1
  have e : fedN E = f := by unfold fedN; rw [ef, tN_nI (by omega)]
  rw [e]
  exact ⟨(RM.f hR 17 (by decide) (by decide)).trans ef, hf, fun j _ => RM.c1 hR 9 j (by decide) (by decide)⟩

set_option maxRecDepth 8000 in
set_option maxHeartbeats 4000000 in
theorem c_X12_post {G : Gt} (hG : Gok G) {I : It} {h : Ht} (hM : HM h) {E : It} (hE : Inv E) (hR : RM E I) {L : Nat → Int64} (hl : hL h 38 = L)  : Con G (9) 0 0 mX12_post [.ref 0] I h (qI (fun v I2 h2 => ∃ E2, PoS E E2 v ∧ SM E2 L I2 h2)) := by
  refine con_intro (own := RX12) (lo0 := [some (.ref 0), none]) hG rfl pl_X12 (Nat.le_of_ble_eq_true rfl) rfl (fun X hX => ?_)
  refine g_aload_0 hX (dk DX12_post 0 rfl) ?_
  refine g_getIv hX (dk DX12_post 1 rfl) KX12 fX12_56 (by decide) rfl (MLt hM (by decide)) (MC hM) ((RM.f hR 15 (by decide) (by decide)).trans hE.2.2.1.1) ?_
  refine g_bipush (v := 6) hX (dk DX12_post 2 rfl) (by decide) ?_
  refine g_icmp_ne (tgt := 12) hX (dk DX12_post 3 rfl) (by decide) (fun hc1 => ?_) (fun hc1 => ?_)
  · have hp : nP E < 6 := by
      have := hE.2.2.1.2
      rcases Nat.lt_or_ge (nP E) 6 with z | z
      · exact z
      · exact absurd (show nI (nP E) = 6 by rw [show nP E = 6 by omega]; rfl) hc1
    refine g_aload_0 hX (dk DX12_post 6 rfl) ?_
    refine g_aload_0 hX (dk DX12_post 7 rfl) ?_
    refine g_getIv hX (dk DX12_post 8 rfl) KX12 fX12_56 (by decide) rfl (MLt hM (by decide)) (MC hM) ((RM.f hR 15 (by decide) (by decide)).trans hE.2.2.1.1) ?_
    refine g_c2q hX sX12_post_17 (by decide) (Nat.le_of_ble_eq_true rfl) (rc0 rfl (MLt hM (by decide)) (MC hM)) (by decide) (by decide) (q_goesText hG hM hp (post_T hE hR) hR.2.2.2.2.2) ?_
    rintro v J8 h8 ⟨rfl, rfl, hG8, hT8, hA8, hR8⟩
    refine g_istore_1 hX (dk DX12_post 10 rfl) (by decide) rfl ?_
    refine g_aload_0 hX (dk DX12_post 11 rfl) ?_
    refine g_iconst (v := 0) hX (dk DX12_post 12 rfl) (by decide) ?_
    refine g_putI hX (dk DX12_post 13 rfl) KX12 fX12_62 (by decide) rfl (MLt hM (by decide)) (MC hM) (Or.inl rfl) (rfl) (rfl) ?_
    refine g_iload_1 hX (dk DX12_post 14 rfl) ?_
    refine g_ifb_ne (tgt := 38) hX (dk DX12_post 15 rfl) (by decide) (fun hc2 => ?_) (fun hc2 => ?_)
    · refine g_aload_0 hX (dk DX12_post 21 rfl) ?_
      refine g_aload_0 hX (dk DX12_post 22 rfl) ?_
      refine g_getIv hX (dk DX12_post 23 rfl) KX12 fX12_56 (by decide) rfl (MLt hM (by decide)) (MC hM) ((show _ = nI (nP E) from (hG8.1 15 (by decide)).trans ((RM.f hR 15 (by decide) (by decide)).trans hE.2.2.1.1))) ?_
      refine g_putI hX (dk DX12_post 24 rfl) KX12 fX12_59 (by decide) rfl (MLt hM (by decide)) (MC hM) (Or.inl rfl) (rfl) (rfl) ?_
      refine g_aload_0 hX (dk DX12_post 25 rfl) ?_
      refine g_dup hX (dk DX12_post 26 rfl) rfl ?_
      refine g_getIv hX (dk DX12_post 27 rfl) KX12 fX12_56 (by decide) rfl (MLt hM (by decide)) (MC hM) ((show _ = nI (nP E) from (hG8.1 15 (by decide)).trans ((RM.f hR 15 (by decide) (by decide)).trans hE.2.2.1.1))) ?_
      refine g_iconst (v := 1) hX (dk DX12_post 28 rfl) (by decide) ?_
      refine g_iadd hX (dk DX12_post 29 rfl) ?_
      refine g_nmI (nI (nP E + 1)) (nI_1 _) ?_
      refine g_putI hX (dk DX12_post 30 rfl) KX12 fX12_56 (by decide) rfl (MLt hM (by decide)) (MC hM) (Or.inl rfl) (rfl) (rfl) ?_
      refine g_aload_0 hX (dk DX12_post 31 rfl) ?_
      refine g_getIv hX (dk DX12_post 32 rfl) KX12 fX12_59 (by decide) rfl (MLt hM (by decide)) (MC hM) ((show _ = nI (nP E) from rfl)) ?_
      refine g_ireturn hX (dk DX12_post 33 rfl) rfl (rfl) (by decide) (by decide) ?_
      have hr : (poR E).1 = true := by assumption
      exact qI_of ⟨pnE E J8 (nP E), Or.inr (Or.inr ⟨hp, hr, rfl, post_n hR hG8 (hR8 hr).1 (hR8 hr).2.1 (Nat.le_trans (hR8 hr).2.2 (post_T hE hR).2.1)⟩), post_t hR hG8, hM, hl⟩
    · refine g_bipush (v := -10) hX (dk DX12_post 16 rfl) (by decide) ?_
      refine g_aload_0 hX (dk DX12_post 17 rfl) ?_
      refine g_getIv hX (dk DX12_post 18 rfl) KX12 fX12_65 (by decide) rfl (MLt hM (by decide)) (MC hM) ((show _ = nI (poR E).2.1 from hA8.1)) ?_
      refine g_isub hX (dk DX12_post 19 rfl) ?_
      refine g_ireturn hX (dk DX12_post 20 rfl) rfl (rfl) (by decide) (by decide) ?_
      exact qI_of ⟨upI E 0 17 0, Or.inr (Or.inl ⟨hp, Bool.not_eq_true _ ▸ (by assumption), rfl, rfl⟩), post_f hR hG8, hM, hl⟩
  · refine g_bipush (v := -4) hX (dk DX12_post 4 rfl) (by decide) ?_
    refine g_ireturn hX (dk DX12_post 5 rfl) rfl (rfl) (by decide) (by decide) ?_
    exact qI_of ⟨E, Or.inl ⟨(nI_eq (b := 6) (by have := hE.2.2.1.2; omega) (by decide)).mp (by assumption), rfl, rfl⟩, hR, hM, hl⟩

