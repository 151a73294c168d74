theorem h4_eq {a b c d : Nat} {f : Nat → Int32} (e0 : f 0 = nI a) (e1 : f 1 = nI b) (e2 : f 2 = nI c) (e3 : f 3 = nI d) : ∀ y, y < 4 → f y = h4 a b c d y := by
  intro y hy
  unfold h4
  rcases (by omega : y = 0 ∨ y = 1 ∨ y = 2 ∨ y = 3) with rfl | rfl | rfl | rfl
  · exact e0
  · exact e1
  · exact e2
  · exact e3
theorem RM_8 {E J K : It} {F C : List Nat} (hR : RMx F [8] E J) (hf : ∀ y, y < 4 → K 8 y = E 8 y) (h2 : ∀ y, 4 ≤ y → K 8 y = E 8 y) (hfr : Fr [] [8] J K) : RMx F [] E K := by
  obtain ⟨a1, a2, a3, a4, a5, a6⟩ := hR
  obtain ⟨f1, f2⟩ := hfr
  refine ⟨fun j hj hF => (f1 j (by simp)).trans (a1 j hj hF), fun a ha _ => ?_, ?_, ?_, ?_, ?_⟩
  · by_cases e : a = 8
    · subst e
      funext y
      rcases Nat.lt_or_ge y 4 with z | z
      · exact hf y z
      · exact h2 y z
    · exact (f2 a (by rintro rfl; revert ha; decide) (by simpa using e)).trans (a2 a ha (by simpa using e))
  · rw [f2 10 (by decide) (by decide)]; exact a3
  · rw [f2 11 (by decide) (by decide), f2 12 (by decide) (by decide), f2 13 (by decide) (by decide), f2 14 (by decide) (by decide)]; exact a4
  · rw [f2 15 (by decide) (by decide)]; exact a5
  · rw [f2 17 (by decide) (by decide)]; exact a6
set_option maxRecDepth 8000 in
set_option maxHeartbeats 4000000 in
theorem c_X12_split {G : Gt} (hG : Gok G) {I : It} {h : Ht} (hM : HM h) {E : It} (hE : Inv E) (hR : RM E I) {L : Nat → Int64} (hl : hL h 38 = L) {a n w : Int32} : Con G (9) 0 0 mX12_split [.ref 0, .int a, .int n, .int w] I h (qS (splitS E a n w) L) := by
  refine con_intro (own := RX12) (lo0 := [some (.ref 0), some (.int a), some (.int n), some (.int w), none, none, none, none, none]) hG rfl pl_X12 (Nat.le_of_ble_eq_true rfl) rfl (fun X hX => ?_)
  have loop168 : ∀ (a1 a2 a3 a4 a5 a6 a7 : Int32) (J : It), (∀ J7, (∀ y, y < 4 → J7 22 y = J 8 y) → Fr [] [22] J J7 → GG G 9 0 0 X (qS (splitS E a n w) L) 194 [some (.ref 0), some (.int a1), some (.int a2), some (.int a3), some (.int a4), some (.int a5), none, none, none] [] J7 h 0 0) → ∀ (k y : Nat) (J6 : It), y + k = 4 → (∀ z, z < y → J6 22 z = J 8 z) → Fr [] [22] J J6 → GG G (9) 0 0 X (qS (splitS E a n w) L) 168 [some (.ref 0), some (.int a1), some (.int a2), some (.int a3), some (.int a4), some (.int a5), some (.int a6), some (.int a7), some (.int (nI y))] [] (J6) (h) 0 0 := by
    intro a1 a2 a3 a4 a5 a6 a7 J kk k
    induction k using Nat.strongRecOn with | _ k ih => ?_
    intro y J6 hk hz hfr
    have e8 := hfr.2 8 (by decide) (by decide)
    refine g_iload_8 hX (dk DX12_split_1 35 rfl) ?_
    refine g_iconst (v := 4) hX (dk DX12_split_1 36 rfl) (by decide) ?_
    refine g_icmp_ge (tgt := 194) hX (dk DX12_split_1 37 rfl) (by decide) (fun hc1 => ?_) (fun hc1 => ?_)
    · have hk0 := cl_end (e := 4) hk (by decide) hc1
      subst hk0
      exact g_fgt (kk J6 (fun y2 h2 => hz y2 (by omega)) hfr) ⟨rfl, rfl, rfl, rfl, rfl, rfl, trivial⟩
    · obtain ⟨k, rfl⟩ := cl_go (e := 4) hk (by decide) hc1
      refine g_aload_0 hX (dk DX12_split_1 38 rfl) ?_
      refine g_getRs (r := 22) hX (dk DX12_split_1 39 rfl) KX12 fX12_141 (by decide) rfl (MLt hM (by decide)) (MC hM) (MR hM 43 (by decide) rfl) ?_
      refine g_iload_8 hX (dk DX12_split_1 40 rfl) ?_
      refine g_aload_0 hX (dk DX12_split_1 41 rfl) ?_
      refine g_getRs (r := 8) hX (dk DX12_split_1 42 rfl) KX12 fX12_53 (by decide) rfl (MLt hM (by decide)) (MC hM) (MR hM 14 (by decide) rfl) ?_
      refine g_iload_8 hX (dk DX12_split_1 43 rfl) ?_
      refine v_iaload hX (dk DX12_split_1 44 rfl) (MLt hM (q := 8) (by decide)) (MS hM 8 (by decide) rfl) (⟨rfl, by omega, by decide⟩) (congrFun e8 y) ?_
      refine i_iastore hX (dk DX12_split_1 45 rfl) (MLt hM (q := 22) (by decide)) (MS hM 22 (by decide) rfl) (⟨rfl, by omega, by decide⟩) ?_
      refine g_iinc_8 hX (dk DX12_split_1 46 rfl) (nI_1 y) (by decide) rfl ?_
      refine g_goto (tgt := 168) hX (dk DX12_split_1 47 rfl) (by decide) ?_
      exact ih k (by omega) (y + 1) _ (by omega) (fun z hz2 => by
        by_cases e : z = y
        · subst e; rw [up0]
        · rw [upn (by omega)]; exact hz z (by omega)) (hfr.pc (by decide) (by decide))
  have loop54 : ∀ x m, x ≤ 9 → m ≤ 60 → a = nI x → n = nI m → (-1 ≤ w ∧ w ≤ 3) → ∀ (k c : Nat) (l : Int32) (b : Nat → Int32) (J : It), RMx [] [8] E J → SY E J → (∀ y, 4 ≤ y → J 8 y = E 8 y) → (∀ y, y < 4 → J 21 y = E 8 y) → c + k = 1000 → ((c = 0 ∧ l = -1) ∨ ∀ y, y < 4 → J 22 y = b y) → spR E x m k c l b = spF E x m → GG G (9) 0 0 X (qS (splitS E a n w) L) 54 [some (.ref 0), some (.int (nI x)), some (.int (nI m)), some (.int w), some (.int l), some (.int (nI c)), none, none, none] [] (J) (h) 0 0 := by
    intro x m hx hm ea en hw k
    subst ea en
    have hin1 : 0 ≤ nI x ∧ nI x ≤ 9 := ⟨nI_pos' (by omega), (nI_leI (b := 9) (by omega) (by decide)).mpr hx⟩
    have hin2 : 0 ≤ nI m ∧ nI m ≤ 60 := ⟨nI_pos' (by omega), (nI_leI (b := 60) (by omega) (by decide)).mpr hm⟩
    induction k using Nat.strongRecOn with | _ k ih => ?_
    intro c l b J hR hS h8 h21 hk hb hv
    refine g_iload_5 hX (dk DX12_split_0 30 rfl) ?_
    refine g_sipush (v := 1000) hX (dk DX12_split_0 31 rfl) (by decide) ?_
    refine g_icmp_ge (tgt := 200) hX (dk DX12_split_0 32 rfl) (by decide) (fun hc1 => ?_) (fun hc1 => ?_)
    · refine g_aload_0 hX (dk DX12_split_1 50 rfl) ?_
      refine g_c1v hX sX12_split_201 (by decide) (Nat.le_of_ble_eq_true rfl) (rc0 rfl (MLt hM (by decide)) (MC hM)) (by decide) (by decide) (c_X12_putHours hG hM) ?_
      rintro J6 _ ⟨hp1, hp2, hfr6, rfl⟩
      have hR6 := RM_8 (C := []) hR (fun y hy => (hp1 y hy).trans (h21 y hy)) (fun y hy => (hp2 y hy).trans (h8 y hy)) hfr6
      have hk0 := ct_end (e := 1000) hk (by decide) hc1
      subst hk0
      refine g_iload_3 hX (dk DX12_split_1 52 rfl) ?_
      refine g_if_ge (tgt := 213) hX (dk DX12_split_1 53 rfl) (by decide) (fun hc2 => ?_) (fun hc2 => ?_)
      · obtain ⟨y, hy, rfl⟩ := in_of (b := 3) (by decide) ⟨hc2, hw.2⟩
        have hw3 : y < 4 := by omega
        refine g_aload_0 hX (dk DX12_split_1 56 rfl) ?_
        refine g_getRs (r := 22) hX (dk DX12_split_1 57 rfl) KX12 fX12_141 (by decide) rfl (MLt hM (by decide)) (MC hM) (MR hM 43 (by decide) rfl) ?_
        refine g_iload_3 hX (dk DX12_split_1 58 rfl) ?_
        refine v_iaload hX (dk DX12_split_1 59 rfl) (MLt hM (q := 22) (by decide)) (MS hM 22 (by decide) rfl) (⟨rfl, by omega, by decide⟩) ((congrFun (hfr6.2 22 (by decide) (by decide)) _).trans (hb.resolve_left (fun z => by omega) _ hw3)) ?_
        refine g_ireturn hX (dk DX12_split_2 0 rfl) rfl (rfl) (by decide) (by decide) ?_
        exact qS_of hM hl (by unfold splitS; rw [if_neg (not_not_intro hw), if_neg (not_not_intro hin1), if_neg (not_not_intro hin2)]; (try first | rw [if_pos hc1] | rw [if_neg hc1] | rw [if_neg (not_not_intro hc1)]); (try first | rw [if_pos hc2] | rw [if_neg hc2] | rw [if_neg (not_not_intro hc2)]); rw [tN_nI (by omega), tN_nI (by omega), ← hv]; first | done | rfl | (rw [tN_nI (by omega)]; rfl)) hR6
      · refine g_iload_4 hX (dk DX12_split_1 54 rfl) ?_
        refine g_goto (tgt := 219) hX (dk DX12_split_1 55 rfl) (by decide) ?_
        refine g_ireturn hX (dk DX12_split_2 0 rfl) rfl (rfl) (by decide) (by decide) ?_
        exact qS_of hM hl (by unfold splitS; rw [if_neg (not_not_intro hw), if_neg (not_not_intro hin1), if_neg (not_not_intro hin2)]; (try first | rw [if_pos hc1] | rw [if_neg hc1] | rw [if_neg (not_not_intro hc1)]); (try first | rw [if_pos hc2] | rw [if_neg hc2] | rw [if_neg (not_not_intro hc2)]); rw [tN_nI (by omega), tN_nI (by omega), ← hv]; first | done | rfl | (rw [tN_nI (by omega)]; rfl)) hR6
    · obtain ⟨k, rfl⟩ := ct_go (e := 1000) hk (by decide) hc1
      have hc : c < 1000 := by omega
      refine g_iload_5 hX (dk DX12_split_0 33 rfl) ?_
      refine g_bipush (v := 100) hX (dk DX12_split_0 34 rfl) (by decide) ?_
      refine g_idiv hX (dk DX12_split_0 35 rfl) (by decide) ?_
      refine g_nmI (nI (c / 100)) (pk_div (d := 100) (by omega) (by decide) (by decide)) ?_
      refine g_iload_5 hX (dk DX12_split_0 36 rfl) ?_
      refine g_bipush (v := 10) hX (dk DX12_split_0 37 rfl) (by decide) ?_
      refine g_idiv hX (dk DX12_split_0 38 rfl) (by decide) ?_
      refine g_nmI (nI (c / 10)) (pk_div (d := 10) (by omega) (by decide) (by decide)) ?_
      refine g_bipush (v := 10) hX (dk DX12_split_0 39 rfl) (by decide) ?_
      refine g_irem hX (dk DX12_split_0 40 rfl) (by decide) ?_
      refine g_nmI (nI (c / 10 % 10)) (pk_rem (d := 10) (by omega) (by decide) (by decide)) ?_
      refine g_iadd hX (dk DX12_split_0 41 rfl) ?_
      rw [nI_add]
      refine g_iload_5 hX (dk DX12_split_0 42 rfl) ?_
      refine g_bipush (v := 10) hX (dk DX12_split_0 43 rfl) (by decide) ?_
      refine g_irem hX (dk DX12_split_0 44 rfl) (by decide) ?_
      refine g_nmI (nI (c % 10)) (pk_rem (d := 10) (by omega) (by decide) (by decide)) ?_
      refine g_iadd hX (dk DX12_split_0 45 rfl) ?_
      rw [nI_add]
      refine g_istore_6 hX (dk DX12_split_0 46 rfl) (by decide) rfl ?_
      refine g_iload_6 hX (dk DX12_split_0 47 rfl) ?_
      refine g_iload_1 hX (dk DX12_split_0 48 rfl) ?_
      refine g_icmp_le (tgt := 93) hX (dk DX12_split_0 49 rfl) (by decide) (fun hc3 => ?_) (fun hc3 => ?_)
      · have hle : c / 100 + c / 10 % 10 + c % 10 ≤ x := (nI_leI (by omega) (by omega)).mp hc3
        refine g_aload_0 hX (dk DX12_split_0 51 rfl) ?_
        refine g_getRs (r := 8) hX (dk DX12_split_0 52 rfl) KX12 fX12_53 (by decide) rfl (MLt hM (by decide)) (MC hM) (MR hM 14 (by decide) rfl) ?_
        refine g_iconst (v := 0) hX (dk DX12_split_0 53 rfl) (by decide) ?_
        refine g_iload_5 hX (dk DX12_split_0 54 rfl) ?_
        refine g_bipush (v := 100) hX (dk DX12_split_0 55 rfl) (by decide) ?_
        refine g_idiv hX (dk DX12_split_0 56 rfl) (by decide) ?_
        refine g_nmI (nI (c / 100)) (pk_div (d := 100) (by omega) (by decide) (by decide)) ?_
        refine i_iastore (j := 0) hX (dk DX12_split_0 57 rfl) (MLt hM (q := 8) (by decide)) (MS hM 8 (by decide) rfl) (⟨rfl, by decide, by decide⟩) ?_
        refine g_aload_0 hX (dk DX12_split_0 58 rfl) ?_
        refine g_getRs (r := 8) hX (dk DX12_split_0 59 rfl) KX12 fX12_53 (by decide) rfl (MLt hM (by decide)) (MC hM) (MR hM 14 (by decide) rfl) ?_
        refine g_iconst (v := 1) hX (dk DX12_split_1 0 rfl) (by decide) ?_
        refine g_iload_5 hX (dk DX12_split_1 1 rfl) ?_
        refine g_bipush (v := 10) hX (dk DX12_split_1 2 rfl) (by decide) ?_
        refine g_idiv hX (dk DX12_split_1 3 rfl) (by decide) ?_
        refine g_nmI (nI (c / 10)) (pk_div (d := 10) (by omega) (by decide) (by decide)) ?_
        refine g_bipush (v := 10) hX (dk DX12_split_1 4 rfl) (by decide) ?_
        refine g_irem hX (dk DX12_split_1 5 rfl) (by decide) ?_
        refine g_nmI (nI (c / 10 % 10)) (pk_rem (d := 10) (by omega) (by decide) (by decide)) ?_
        refine i_iastore (j := 1) hX (dk DX12_split_1 6 rfl) (MLt hM (q := 8) (by decide)) (MS hM 8 (by decide) rfl) (⟨rfl, by decide, by decide⟩) ?_
        refine g_aload_0 hX (dk DX12_split_1 7 rfl) ?_
        refine g_getRs (r := 8) hX (dk DX12_split_1 8 rfl) KX12 fX12_53 (by decide) rfl (MLt hM (by decide)) (MC hM) (MR hM 14 (by decide) rfl) ?_
        refine g_iconst (v := 2) hX (dk DX12_split_1 9 rfl) (by decide) ?_
        refine g_iload_5 hX (dk DX12_split_1 10 rfl) ?_
        refine g_bipush (v := 10) hX (dk DX12_split_1 11 rfl) (by decide) ?_
        refine g_irem hX (dk DX12_split_1 12 rfl) (by decide) ?_
        refine g_nmI (nI (c % 10)) (pk_rem (d := 10) (by omega) (by decide) (by decide)) ?_
        refine i_iastore (j := 2) hX (dk DX12_split_1 13 rfl) (MLt hM (q := 8) (by decide)) (MS hM 8 (by decide) rfl) (⟨rfl, by decide, by decide⟩) ?_
        refine g_aload_0 hX (dk DX12_split_1 14 rfl) ?_
        refine g_getRs (r := 8) hX (dk DX12_split_1 15 rfl) KX12 fX12_53 (by decide) rfl (MLt hM (by decide)) (MC hM) (MR hM 14 (by decide) rfl) ?_
        refine g_iconst (v := 3) hX (dk DX12_split_1 16 rfl) (by decide) ?_
        refine g_iload_1 hX (dk DX12_split_1 17 rfl) ?_
        refine g_iload_6 hX (dk DX12_split_1 18 rfl) ?_
        refine g_isub hX (dk DX12_split_1 19 rfl) ?_
        rw [pk_sub hle]
        refine i_iastore (j := 3) hX (dk DX12_split_1 20 rfl) (MLt hM (q := 8) (by decide)) (MS hM 8 (by decide) rfl) (⟨rfl, by decide, by decide⟩) ?_
        refine g_gen (fun J4 hJ4 => ?_)
        have hfr4 : Fr [] [8] J J4 := by rw [hJ4]; exact (((Fr.rf.pc (by decide) (by decide)).pc (by decide) (by decide)).pc (by decide) (by decide)).pc (by decide) (by decide)
        have h84 : ∀ y, y < 4 → J4 8 y = spC x c y := by rw [hJ4]; exact h4_eq rfl rfl rfl rfl
        have h85 : ∀ y, 4 ≤ y → J4 8 y = E 8 y := fun y hy => by
          rw [hJ4, upn (by omega), upn (by omega), upn (by omega), upn (by omega)]; exact h8 y hy
        have hA4 : Ag E J4 := Ag.keep (Ag.of hR (by decide) (by decide)) hfr4 (by decide) (by decide)
        have hS4 := hS.fr hfr4 (by decide)
        refine g_aload_0 hX (dk DX12_split_1 21 rfl) ?_
        refine g_iload_2 hX (dk DX12_split_1 22 rfl) ?_
        refine g_c2q hX sX12_split_141 (by decide) (Nat.le_of_ble_eq_true rfl) (rc0 rfl (MLt hM (by decide)) (MC hM)) (by decide) (by decide) (cE_costHanded hG hM hE hA4 (by omega) hS4 rfl ((hfr4.1 5 (by decide)).trans (RM.f hR 5 (by decide) (by decide))) ((hfr4.1 6 (by decide)).trans (RM.f hR 6 (by decide) (by decide)))) ?_
        rintro _ J5 _ ⟨rfl, hfr5, rfl⟩
        rw [hcF_hr m h84]
        have hS5 := hS4.fr hfr5 (by decide)
        have e8 : J5 8 = J4 8 := hfr5.2 8 (by decide) (by decide)
        have e22 : J5 22 = J 22 := (hfr5.2 22 (by decide) (by decide)).trans (hfr4.2 22 (by decide) (by decide))
        have e21 : J5 21 = J 21 := (hfr5.2 21 (by decide) (by decide)).trans (hfr4.2 21 (by decide) (by decide))
        have hR5 : RMx [] [8] E J5 := RM8_keep (RM8_fr hR hfr4) hfr5
        refine g_istore_7 hX (dk DX12_split_1 24 rfl) (by decide) rfl ?_
        refine g_iload_4 hX (dk DX12_split_1 25 rfl) ?_
        refine g_if_lt (tgt := 161) hX (dk DX12_split_1 26 rfl) (by decide) (fun hc4 => ?_) (fun hc4 => ?_)
        · have hst : spR E x m (k + 1) c l b = spR E x m k (c + 1) (hcF E (spC x c) m) (spC x c) := by rw [spR_s, if_neg (by omega)]; (try first | rw [if_pos hc1] | rw [if_neg hc1] | rw [if_neg (not_not_intro hc1)]); (try first | rw [if_pos hc3] | rw [if_neg hc3] | rw [if_neg (not_not_intro hc3)]); (try first | rw [if_pos hc4] | rw [if_neg hc4] | rw [if_neg (not_not_intro hc4)]); first | done | rfl
          refine g_iload_7 hX (dk DX12_split_1 31 rfl) ?_
          refine g_istore_4 hX (dk DX12_split_1 32 rfl) (by decide) rfl ?_
          refine g_iconst (v := 0) hX (dk DX12_split_1 33 rfl) (by decide) ?_
          refine g_istore_8 hX (dk DX12_split_1 34 rfl) (by decide) rfl ?_
          refine loop168 (nI x) (nI m) w (hcF E (spC x c) m) (nI c) _ _ J5 (fun J7 h7 hfr7 => ?_) 4 0 J5 (Nat.zero_add _) (fun z hz => absurd hz (Nat.not_lt_zero z)) Fr.rf
          refine g_iinc_5 hX (dk DX12_split_1 48 rfl) (nI_1 c) (by decide) rfl ?_
          refine g_goto (tgt := 54) hX (dk DX12_split_1 49 rfl) (by decide) ?_
          first
          | exact g_fgt (ih k (by omega) (c + 1) _ (spC x c) J7 (RM.keep hR5 hfr7 (by decide) (by decide) (by decide)) (hS5.fr hfr7 (by decide)) (fun y hy => by rw [hfr7.2 8 (by decide) (by decide), e8]; exact h85 y hy) (fun y hy => by rw [hfr7.2 21 (by decide) (by decide), e21]; exact h21 y hy) (by omega) (Or.inr (fun y hy => (h7 y hy).trans (by rw [e8]; exact h84 y hy))) (by rw [← hv, hst])) ⟨rfl, rfl, rfl, rfl, rfl, rfl, trivial⟩
          | exact g_fgt (ih k (by omega) (c + 1) l b J5 hR5 hS5 (fun y hy => by rw [e8]; exact h85 y hy) (fun y hy => by rw [e21]; exact h21 y hy) (by omega) (Or.inr (fun y hy => by rw [e22]; exact hb.resolve_left (fun z => ‹¬ l < 0› (by rw [z.2]; decide)) y hy)) (by rw [← hv, hst])) ⟨rfl, rfl, rfl, rfl, rfl, rfl, trivial⟩
          | exact g_fgt (ih k (by omega) (c + 1) l b J hR hS h8 h21 (by omega) (Or.inr (hb.resolve_left (fun z => by omega))) (by rw [← hv, hst])) ⟨rfl, rfl, rfl, rfl, rfl, rfl, trivial⟩
        · refine g_iload_7 hX (dk DX12_split_1 27 rfl) ?_
          refine g_iload_4 hX (dk DX12_split_1 28 rfl) ?_
          refine g_icmp_lt (tgt := 161) hX (dk DX12_split_1 29 rfl) (by decide) (fun hc5 => ?_) (fun hc5 => ?_)
          · have hst : spR E x m (k + 1) c l b = spR E x m k (c + 1) (hcF E (spC x c) m) (spC x c) := by rw [spR_s, if_neg (by omega)]; (try first | rw [if_pos hc1] | rw [if_neg hc1] | rw [if_neg (not_not_intro hc1)]); (try first | rw [if_pos hc3] | rw [if_neg hc3] | rw [if_neg (not_not_intro hc3)]); (try first | rw [if_pos hc4] | rw [if_neg hc4] | rw [if_neg (not_not_intro hc4)]); (try first | rw [if_pos hc5] | rw [if_neg hc5] | rw [if_neg (not_not_intro hc5)]); first | done | rfl
            refine g_iload_7 hX (dk DX12_split_1 31 rfl) ?_
            refine g_istore_4 hX (dk DX12_split_1 32 rfl) (by decide) rfl ?_
            refine g_iconst (v := 0) hX (dk DX12_split_1 33 rfl) (by decide) ?_
            refine g_istore_8 hX (dk DX12_split_1 34 rfl) (by decide) rfl ?_
            refine loop168 (nI x) (nI m) w (hcF E (spC x c) m) (nI c) _ _ J5 (fun J7 h7 hfr7 => ?_) 4 0 J5 (Nat.zero_add _) (fun z hz => absurd hz (Nat.not_lt_zero z)) Fr.rf
            refine g_iinc_5 hX (dk DX12_split_1 48 rfl) (nI_1 c) (by decide) rfl ?_
            refine g_goto (tgt := 54) hX (dk DX12_split_1 49 rfl) (by decide) ?_
            first
            | exact g_fgt (ih k (by omega) (c + 1) _ (spC x c) J7 (RM.keep hR5 hfr7 (by decide) (by decide) (by decide)) (hS5.fr hfr7 (by decide)) (fun y hy => by rw [hfr7.2 8 (by decide) (by decide), e8]; exact h85 y hy) (fun y hy => by rw [hfr7.2 21 (by decide) (by decide), e21]; exact h21 y hy) (by omega) (Or.inr (fun y hy => (h7 y hy).trans (by rw [e8]; exact h84 y hy))) (by rw [← hv, hst])) ⟨rfl, rfl, rfl, rfl, rfl, rfl, trivial⟩
            | exact g_fgt (ih k (by omega) (c + 1) l b J5 hR5 hS5 (fun y hy => by rw [e8]; exact h85 y hy) (fun y hy => by rw [e21]; exact h21 y hy) (by omega) (Or.inr (fun y hy => by rw [e22]; exact hb.resolve_left (fun z => ‹¬ l < 0› (by rw [z.2]; decide)) y hy)) (by rw [← hv, hst])) ⟨rfl, rfl, rfl, rfl, rfl, rfl, trivial⟩
            | exact g_fgt (ih k (by omega) (c + 1) l b J hR hS h8 h21 (by omega) (Or.inr (hb.resolve_left (fun z => by omega))) (by rw [← hv, hst])) ⟨rfl, rfl, rfl, rfl, rfl, rfl, trivial⟩
          · have hst : spR E x m (k + 1) c l b = spR E x m k (c + 1) l b := by rw [spR_s, if_neg (by omega)]; (try first | rw [if_pos hc1] | rw [if_neg hc1] | rw [if_neg (not_not_intro hc1)]); (try first | rw [if_pos hc3] | rw [if_neg hc3] | rw [if_neg (not_not_intro hc3)]); (try first | rw [if_pos hc4] | rw [if_neg hc4] | rw [if_neg (not_not_intro hc4)]); (try first | rw [if_pos hc5] | rw [if_neg hc5] | rw [if_neg (not_not_intro hc5)]); first | done | rfl
            refine g_goto (tgt := 194) hX (dk DX12_split_1 30 rfl) (by decide) ?_
            refine g_iinc_5 hX (dk DX12_split_1 48 rfl) (nI_1 c) (by decide) rfl ?_
            refine g_goto (tgt := 54) hX (dk DX12_split_1 49 rfl) (by decide) ?_
            first
            | exact g_fgt (ih k (by omega) (c + 1) _ (spC x c) J7 (RM.keep hR5 hfr7 (by decide) (by decide) (by decide)) (hS5.fr hfr7 (by decide)) (fun y hy => by rw [hfr7.2 8 (by decide) (by decide), e8]; exact h85 y hy) (fun y hy => by rw [hfr7.2 21 (by decide) (by decide), e21]; exact h21 y hy) (by omega) (Or.inr (fun y hy => (h7 y hy).trans (by rw [e8]; exact h84 y hy))) (by rw [← hv, hst])) ⟨rfl, rfl, rfl, rfl, rfl, rfl, trivial⟩
            | exact g_fgt (ih k (by omega) (c + 1) l b J5 hR5 hS5 (fun y hy => by rw [e8]; exact h85 y hy) (fun y hy => by rw [e21]; exact h21 y hy) (by omega) (Or.inr (fun y hy => by rw [e22]; exact hb.resolve_left (fun z => ‹¬ l < 0› (by rw [z.2]; decide)) y hy)) (by rw [← hv, hst])) ⟨rfl, rfl, rfl, rfl, rfl, rfl, trivial⟩
            | exact g_fgt (ih k (by omega) (c + 1) l b J hR hS h8 h21 (by omega) (Or.inr (hb.resolve_left (fun z => by omega))) (by rw [← hv, hst])) ⟨rfl, rfl, rfl, rfl, rfl, rfl, trivial⟩
      · have hgt : x < c / 100 + c / 10 % 10 + c % 10 := by
          rcases Nat.lt_or_ge x (c / 100 + c / 10 % 10 + c % 10) with z | z
          · exact z
          · exact absurd ((nI_leI (by omega) (by omega)).mpr z) hc3
        have hst : spR E x m (k + 1) c l b = spR E x m k (c + 1) l b := by rw [spR_s, if_pos hgt]
        refine g_goto (tgt := 194) hX (dk DX12_split_0 50 rfl) (by decide) ?_
        refine g_iinc_5 hX (dk DX12_split_1 48 rfl) (nI_1 c) (by decide) rfl ?_
        refine g_goto (tgt := 54) hX (dk DX12_split_1 49 rfl) (by decide) ?_
        first
        | exact g_fgt (ih k (by omega) (c + 1) _ (spC x c) J7 (RM.keep hR5 hfr7 (by decide) (by decide) (by decide)) (hS5.fr hfr7 (by decide)) (fun y hy => by rw [hfr7.2 8 (by decide) (by decide), e8]; exact h85 y hy) (fun y hy => by rw [hfr7.2 21 (by decide) (by decide), e21]; exact h21 y hy) (by omega) (Or.inr (fun y hy => (h7 y hy).trans (by rw [e8]; exact h84 y hy))) (by rw [← hv, hst])) ⟨rfl, rfl, rfl, rfl, rfl, rfl, trivial⟩
        | exact g_fgt (ih k (by omega) (c + 1) l b J5 hR5 hS5 (fun y hy => by rw [e8]; exact h85 y hy) (fun y hy => by rw [e21]; exact h21 y hy) (by omega) (Or.inr (fun y hy => by rw [e22]; exact hb.resolve_left (fun z => ‹¬ l < 0› (by rw [z.2]; decide)) y hy)) (by rw [← hv, hst])) ⟨rfl, rfl, rfl, rfl, rfl, rfl, trivial⟩
        | exact g_fgt (ih k (by omega) (c + 1) l b J hR hS h8 h21 (by omega) (Or.inr (hb.resolve_left (fun z => by omega))) (by rw [← hv, hst])) ⟨rfl, rfl, rfl, rfl, rfl, rfl, trivial⟩
  refine g_aload_0 hX (dk DX12_split_0 0 rfl) ?_
  refine g_iload_3 hX (dk DX12_split_0 1 rfl) ?_
  refine g_iconst (v := -1) hX (dk DX12_split_0 2 rfl) (by decide) ?_
  refine g_iconst (v := 3) hX (dk DX12_split_0 3 rfl) (by decide) ?_
  refine g_c4I hX sX12_split_4 (by decide) (Nat.le_of_ble_eq_true rfl) (rc0 rfl (MLt hM (by decide)) (MC hM)) (by decide) (by decide) (c_X12_in hG ) ?_
  refine g_ifb_ne (tgt := 14) hX (dk DX12_split_0 5 rfl) (by decide) (fun hc1 => ?_) (fun hc1 => ?_)
  · refine g_aload_0 hX (dk DX12_split_0 8 rfl) ?_
    refine g_iload_1 hX (dk DX12_split_0 9 rfl) ?_
    refine g_iconst (v := 0) hX (dk DX12_split_0 10 rfl) (by decide) ?_
    refine g_bipush (v := 9) hX (dk DX12_split_0 11 rfl) (by decide) ?_
    refine g_c4I hX sX12_split_19 (by decide) (Nat.le_of_ble_eq_true rfl) (rc0 rfl (MLt hM (by decide)) (MC hM)) (by decide) (by decide) (c_X12_in hG ) ?_
    refine g_ifb_eq (tgt := 36) hX (dk DX12_split_0 13 rfl) (by decide) (fun hc2 => ?_) (fun hc2 => ?_)
    · refine g_sipush (v := -10002) hX (dk DX12_split_0 20 rfl) (by decide) ?_
      refine g_ireturn hX (dk DX12_split_0 21 rfl) rfl (rfl) (by decide) (by decide) ?_
      exact qS_of hM hl (by unfold splitS; (try first | rw [if_pos hc1] | rw [if_neg hc1] | rw [if_neg (not_not_intro hc1)]); (try first | rw [if_pos hc2] | rw [if_neg hc2] | rw [if_neg (not_not_intro hc2)]); first | done | rfl) hR
    · obtain ⟨x, hx, rfl⟩ := in_of (b := 9) (by decide) hc2
      refine g_aload_0 hX (dk DX12_split_0 14 rfl) ?_
      refine g_iload_2 hX (dk DX12_split_0 15 rfl) ?_
      refine g_iconst (v := 0) hX (dk DX12_split_0 16 rfl) (by decide) ?_
      refine g_bipush (v := 60) hX (dk DX12_split_0 17 rfl) (by decide) ?_
      refine g_c4I hX sX12_split_30 (by decide) (Nat.le_of_ble_eq_true rfl) (rc0 rfl (MLt hM (by decide)) (MC hM)) (by decide) (by decide) (c_X12_in hG ) ?_
      refine g_ifb_ne (tgt := 40) hX (dk DX12_split_0 19 rfl) (by decide) (fun hc3 => ?_) (fun hc3 => ?_)
      · obtain ⟨m, hm, rfl⟩ := in_of (b := 60) (by decide) hc3
        refine g_aload_0 hX (dk DX12_split_0 22 rfl) ?_
        refine g_c1v hX sX12_split_41 (by decide) (Nat.le_of_ble_eq_true rfl) (rc0 rfl (MLt hM (by decide)) (MC hM)) (by decide) (by decide) (c_X12_laySaid hG hM hE (Ag.of hR (by decide) (by decide))) ?_
        rintro J2 _ ⟨hS, hfr, rfl⟩
        have hR := RM.keep hR hfr (by decide) (by decide) (by decide)
        refine g_aload_0 hX (dk DX12_split_0 24 rfl) ?_
        refine g_c1v hX sX12_split_45 (by decide) (Nat.le_of_ble_eq_true rfl) (rc0 rfl (MLt hM (by decide)) (MC hM)) (by decide) (by decide) (c_X12_keepHours hG hM) ?_
        rintro J3 _ ⟨hk1, hk2, hfr3, rfl⟩
        have hS := hS.fr hfr3 (by decide)
        have h8 : J3 8 = E 8 := (hfr3.2 8 (by decide) (by decide)).trans (RM.c hR 8 (by decide) (by decide))
        have hk3 : ∀ y, y < 4 → J3 21 y = E 8 y := fun y hy => (hk1 y hy).trans (RM.c1 hR 8 y (by decide) (by decide))
        have hR := RMx.mono (C' := [8]) (RM.keep hR hfr3 (by decide) (by decide) (by decide)) (fun a ha => by cases ha)
        refine g_iconst (v := -1) hX (dk DX12_split_0 26 rfl) (by decide) ?_
        refine g_istore_4 hX (dk DX12_split_0 27 rfl) (by decide) rfl ?_
        refine g_iconst (v := 0) hX (dk DX12_split_0 28 rfl) (by decide) ?_
        refine g_istore_5 hX (dk DX12_split_0 29 rfl) (by decide) rfl ?_
        exact loop54 x m hx hm rfl rfl hc1 1000 0 (-1) (fun _ => 0) J3 hR hS (fun y hy => by rw [h8]) hk3 (Nat.zero_add _) (Or.inl ⟨rfl, rfl⟩) rfl
      · refine g_sipush (v := -10002) hX (dk DX12_split_0 20 rfl) (by decide) ?_
        refine g_ireturn hX (dk DX12_split_0 21 rfl) rfl (rfl) (by decide) (by decide) ?_
        exact qS_of hM hl (by unfold splitS; (try first | rw [if_pos hc1] | rw [if_neg hc1] | rw [if_neg (not_not_intro hc1)]); (try first | rw [if_pos hc2] | rw [if_neg hc2] | rw [if_neg (not_not_intro hc2)]); (try first | rw [if_pos hc3] | rw [if_neg hc3] | rw [if_neg (not_not_intro hc3)]); first | done | rfl) hR
  · refine g_sipush (v := -10001) hX (dk DX12_split_0 6 rfl) (by decide) ?_
    refine g_ireturn hX (dk DX12_split_0 7 rfl) rfl (rfl) (by decide) (by decide) ?_
    exact qS_of hM hl (by unfold splitS; (try first | rw [if_pos hc1] | rw [if_neg hc1] | rw [if_neg (not_not_intro hc1)]); first | done | rfl) hR

