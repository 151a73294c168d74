theorem ix_m1 {n : Nat} (hn : n < 100) : idx (nI (n + 1) - 1) n 100 := ⟨nI_pred n, hn, by decide⟩
theorem nz0 : vp_nar .boolean 0 = 0 := by decide
theorem nz1 : vp_nar .boolean 1 = 1 := by decide
theorem b2_n0 {b : Bool} (h : b2 b ≠ 0) : b = true := by cases b <;> simp_all [b2]
theorem b2_z {b : Bool} (h : b2 b = 0) : b = false := by cases b <;> simp_all [b2]
theorem Ag.sg {E I : It} (hE : Inv E) (hA : Ag E I) {p c b : Nat} (hp : p < nP E) (hb : b ≤ 100 * p + 100) (hc : c < b) : idx (nI c) c 600 ∧ I 15 c = E 15 c := by
  have := hE.2.2.1.2
  exact ⟨⟨rfl, by omega, by decide⟩, hA.2.2.2.2 c (by omega)⟩
theorem ce_end {c k e : Nat} (hk : c + k = e) (he : e ≤ 600) (hc : nI e ≤ nI c) : k = 0 := by
  have := (nI_leI (by omega) (by omega)).mp hc
  omega
theorem ce_go {c k e : Nat} (hk : c + k = e) (he : e ≤ 600) (hc : ¬ nI e ≤ nI c) : ∃ z, k = z + 1 := by
  cases k with
  | zero => exact absurd (nI_le (by omega) (by omega)) hc
  | succ z => exact ⟨z, rfl⟩
theorem one_of {s : List Bool} (h : s.length = 1) : ∃ b, s = [b] := by
  match s, h with
  | [b], _ => exact ⟨b, rfl⟩
theorem cons_of {s : List Bool} (h : 0 < s.length) : ∃ b r, s = b :: r := by
  match s, h with
  | b :: r, _ => exact ⟨b, r, rfl⟩
theorem cons2_of {s : List Bool} (h : 2 ≤ s.length) : ∃ b a r, s = b :: a :: r := by
  match s, h with
  | [_], h => simp at h
  | b :: a :: r, _ => exact ⟨b, a, r, rfl⟩
theorem stepR_n (E : It) (i : Nat) (y w t : Int32) (b : Bool) (r : List Bool) (ht : t = -33) : stepR E i y w t (b :: r) = (!b) :: r := by unfold stepR; rw [if_pos ht]
theorem stepR_2 (E : It) (i : Nat) (y w t : Int32) (b a : Bool) (r : List Bool) (ht : ¬ t = -33) (h0 : t < 0) : stepR E i y w t (b :: a :: r) = (if t = -38 then a && b else a || b) :: r := by unfold stepR; rw [if_neg ht, if_pos h0]
theorem stepR_t (E : It) (i : Nat) (y w t : Int32) (s : List Bool) (ht : ¬ t = -33) (h0 : ¬ t < 0) : stepR E i y w t s = testF E t i y w :: s := by unfold stepR; rw [if_neg ht, if_neg h0]

set_option maxRecDepth 8000 in
set_option maxHeartbeats 4000000 in
theorem c_X12_holds {G : Gt} (hG : Gok G) {I : It} {h : Ht} (hM : HM h) {E : It} (hE : Inv E) (hA : Ag E I) {y w : Int32} {d p c0 : Nat} (hd : d < 10) (hp : p < nP E) (hc0 : c0 < 10 * nP E) (hcl : clOk E p c0) (hwd : E 11 c0 = 0 ∨ E 11 c0 = 1) : Con G (2) 0 0 mX12_holds [.ref 0, .int (nI c0), .int (nI d), .int y, .int w] I h (qF (bI (holdsF E c0 d y w = true)) [] [18] I h) := by
  refine con_intro (own := RX12) (lo0 := [some (.ref 0), some (.int (nI c0)), some (.int (nI d)), some (.int y), some (.int w), none, none, none, none, none]) hG rfl pl_X12 (Nat.le_of_ble_eq_true rfl) rfl (fun X hX => ?_)
  have hn6 := hE.2.2.1.2
  obtain ⟨a, b, ha, hb, ha1, hab, hb1, hwf0, hcodes⟩ := hcl.2.2 hwd
  have hcf := hA.2.2.2.1 c0 hc0
  have hc60 : idx (nI c0) c0 60 := ⟨rfl, by omega, by decide⟩
  have hev0 : holdsF E c0 d y w = (evalR E d y w (b - a) a []).headD false := by
    unfold holdsF clLen
    rw [ha, hb, tN_nI (by omega), tN_nI (by omega)]
  have loop11 : ∀ (k c : Nat) (s : List Bool) (J : It), c + k = b → a ≤ c → evalR E d y w k c s = evalR E d y w (b - a) a [] → wfR E k c s.length = true → s.length ≤ c - a → PR J s → Fr [] [18] I J → GG G (2) 0 0 X (qF (bI (holdsF E c0 d y w = true)) [] [18] I h) 11 [some (.ref 0), some (.int (nI c0)), some (.int (nI d)), some (.int y), some (.int w), some (.int (nI s.length)), some (.int (nI c)), none, none, none] [] (J) (h) 0 0 := by
    intro k
    induction k using Nat.strongRecOn with | _ k ih => ?_
    intro c s J hk hac hev hwf hsl hPR hfr
    have hA := Ag.keep hA hfr (by decide) (by decide)
    have hcJ := hA.2.2.2.1 c0 hc0
    refine g_iload_6 hX (dk DX12_holds_0 7 rfl) ?_
    refine g_aload_0 hX (dk DX12_holds_0 8 rfl) ?_
    refine g_getRs (r := 14) hX (dk DX12_holds_0 9 rfl) KX12 fX12_86 (by decide) rfl (MLt hM (by decide)) (MC hM) (MR hM 25 (by decide) rfl) ?_
    refine g_iload_1 hX (dk DX12_holds_0 10 rfl) ?_
    refine i_iaload hX (dk DX12_holds_0 11 rfl) (MLt hM (q := 14) (by decide)) (MS hM 14 (by decide) rfl) (hc60) ?_
    refine g_icmp_ge (tgt := 255) hX (dk DX12_holds_0 12 rfl) (by decide) (fun hc1 => ?_) (fun hc1 => ?_)
    · rw [hcJ.2.2.2, hb] at hc1
      have hk0 := ce_end hk (by omega) hc1
      subst hk0
      obtain ⟨b0, rfl⟩ := one_of (beq_iff_eq.mp hwf)
      refine g_aload_0 hX (dk DX12_holds_2 15 rfl) ?_
      refine g_getRs (r := 18) hX (dk DX12_holds_2 16 rfl) KX12 fX12_107 (by decide) rfl (MLt hM (by decide)) (MC hM) (MR hM 32 (by decide) rfl) ?_
      refine g_iconst (v := 0) hX (dk DX12_holds_2 17 rfl) (by decide) ?_
      refine i_zaload (j := 0) hX (dk DX12_holds_2 18 rfl) (MLt hM (q := 18) (by decide)) (MS hM 18 (by decide) rfl) (⟨rfl, by decide, by decide⟩) ?_
      refine g_ireturn hX (dk DX12_holds_2 19 rfl) rfl (by rw [show J 18 0 = b2 b0 from hPR.1]; exact nar01 (b2_01 _)) (by decide) (by decide) ?_
      exact qF_of (by rw [show J 18 0 = b2 b0 from hPR.1, b2_bI, hev0]; exact bI_c (by rw [← hev]; rfl)) hfr
    · rw [hcJ.2.2.2, hb] at hc1
      obtain ⟨k, rfl⟩ := ce_go hk (by omega) hc1
      have hsg := Ag.sg hE hA hp hb1 (c := c) (by omega)
      obtain ⟨m, hdp, hwf2⟩ := wf_go hwf
      rw [evalR_s, ← hsg.2] at hev
      rw [← hsg.2] at hdp
      refine g_aload_0 hX (dk DX12_holds_0 13 rfl) ?_
      refine g_getRs (r := 15) hX (dk DX12_holds_0 14 rfl) KX12 fX12_89 (by decide) rfl (MLt hM (by decide)) (MC hM) (MR hM 26 (by decide) rfl) ?_
      refine g_iload_6 hX (dk DX12_holds_0 15 rfl) ?_
      refine i_iaload hX (dk DX12_holds_0 16 rfl) (MLt hM (q := 15) (by decide)) (MS hM 15 (by decide) rfl) (hsg.1) ?_
      refine g_istore_7 hX (dk DX12_holds_0 17 rfl) (by decide) rfl ?_
      refine g_iload_7 hX (dk DX12_holds_0 18 rfl) ?_
      refine g_bipush (v := -33) hX (dk DX12_holds_0 19 rfl) (by decide) ?_
      refine g_icmp_ne (tgt := 67) hX (dk DX12_holds_0 20 rfl) (by decide) (fun hc2 => ?_) (fun hc2 => ?_)
      · have hn33 := hc2
        refine g_iload_7 hX (dk DX12_holds_0 38 rfl) ?_
        refine g_if_ge (tgt := 151) hX (dk DX12_holds_0 39 rfl) (by decide) (fun hc3 => ?_) (fun hc3 => ?_)
        · have hge : ¬ J 15 c < 0 := Int32.not_lt.mpr hc3
          have hm := depR_test hn33 hge hdp
          subst hm
          obtain ⟨r, hr0⟩ : ∃ r, r = s := ⟨_, rfl⟩
          subst hr0
          rw [stepR_t _ _ _ _ _ _ hn33 hge] at hev
          obtain ⟨nb, hnb⟩ : ∃ nb, nb = testF E (J 15 c) d y w := ⟨_, rfl⟩
          rw [← hnb] at hev
          have hsl2 : r.length + 1 ≤ c + 1 - a := by omega
          have hr : r.length < 100 := by omega
          have hPRr := hPR
          refine g_aload_0 hX (dk DX12_holds_1 22 rfl) ?_
          refine g_iload_7 hX (dk DX12_holds_1 23 rfl) ?_
          refine g_sipush (v := 1000) hX (dk DX12_holds_1 24 rfl) (by decide) ?_
          refine g_idiv hX (dk DX12_holds_1 25 rfl) (by decide) ?_
          refine g_iload_2 hX (dk DX12_holds_1 26 rfl) ?_
          refine g_iload_3 hX (dk DX12_holds_1 27 rfl) ?_
          refine g_iload_4 hX (dk DX12_holds_1 28 rfl) ?_
          refine g_c5I hX sX12_holds_162 (by decide) (Nat.le_of_ble_eq_true rfl) (rc0 rfl (MLt hM (by decide)) (MC hM)) (by decide) (by decide) (c_X12_factOf hG hM hA hd) ?_
          refine g_istore_8 hX (dk DX12_holds_1 30 rfl) (by decide) rfl ?_
          refine g_iload_7 hX (dk DX12_holds_1 31 rfl) ?_
          refine g_bipush (v := 100) hX (dk DX12_holds_1 32 rfl) (by decide) ?_
          refine g_idiv hX (dk DX12_holds_1 33 rfl) (by decide) ?_
          refine g_bipush (v := 10) hX (dk DX12_holds_1 34 rfl) (by decide) ?_
          refine g_irem hX (dk DX12_holds_1 35 rfl) (by decide) ?_
          refine g_istore_9 hX (dk DX12_holds_1 36 rfl) (by decide) rfl ?_
          refine g_aload_0 hX (dk DX12_holds_1 37 rfl) ?_
          refine g_getRs (r := 18) hX (dk DX12_holds_1 38 rfl) KX12 fX12_107 (by decide) rfl (MLt hM (by decide)) (MC hM) (MR hM 32 (by decide) rfl) ?_
          refine g_iload_5 hX (dk DX12_holds_1 39 rfl) ?_
          refine g_iload_9 hX (dk DX12_holds_1 40 rfl) ?_
          refine g_if_ne (tgt := 206) hX (dk DX12_holds_1 41 rfl) (by decide) (fun hc4 => ?_) (fun hc4 => ?_)
          · have h1 := hc4
            refine g_iload_9 hX (dk DX12_holds_1 51 rfl) ?_
            refine g_iconst (v := 1) hX (dk DX12_holds_1 52 rfl) (by decide) ?_
            refine g_icmp_ne (tgt := 230) hX (dk DX12_holds_1 53 rfl) (by decide) (fun hc5 => ?_) (fun hc5 => ?_)
            · have h2 := hc5
              refine g_iload_8 hX (dk DX12_holds_2 3 rfl) ?_
              refine g_iload_7 hX (dk DX12_holds_2 4 rfl) ?_
              refine g_bipush (v := 100) hX (dk DX12_holds_2 5 rfl) (by decide) ?_
              refine g_irem hX (dk DX12_holds_2 6 rfl) (by decide) ?_
              refine g_icmp_le (tgt := 244) hX (dk DX12_holds_2 7 rfl) (by decide) (fun hc6 => ?_) (fun hc6 => ?_)
              · have hbv : nb = false := by rw [hnb]; unfold testF remI; rw [if_neg h1, if_neg h2]; exact decide_eq_false (Int32.not_lt.mpr hc6)
                refine g_iconst (v := 0) hX (dk DX12_holds_2 10 rfl) (by decide) ?_
                refine i_zastore hX (dk DX12_holds_2 11 rfl) (MLt hM (q := 18) (by decide)) (MS hM 18 (by decide) rfl) (⟨rfl, hr, by decide⟩) ?_
                refine g_iinc_5 hX (dk DX12_holds_2 12 rfl) (nI_1 r.length) (by decide) rfl ?_
                refine g_iinc_6 hX (dk DX12_holds_2 13 rfl) (nI_1 c) (by decide) rfl ?_
                refine g_goto (tgt := 11) hX (dk DX12_holds_2 14 rfl) (by decide) ?_
                exact g_fgt (ih k (by omega) (c + 1) (nb :: r) _ (by omega) (by omega) hev hwf2 hsl2 ⟨by rw [up0, hbv]; rfl, PR_up hPRr (Nat.le_refl _)⟩ (hfr.pc (by decide) (by decide))) ⟨rfl, rfl, rfl, rfl, rfl, rfl, rfl, trivial⟩
              · have hbv : nb = true := by rw [hnb]; unfold testF remI; rw [if_neg h1, if_neg h2]; exact decide_eq_true (Int32.not_le.mp hc6)
                refine g_iconst (v := 1) hX (dk DX12_holds_2 8 rfl) (by decide) ?_
                refine g_goto (tgt := 245) hX (dk DX12_holds_2 9 rfl) (by decide) ?_
                refine i_zastore hX (dk DX12_holds_2 11 rfl) (MLt hM (q := 18) (by decide)) (MS hM 18 (by decide) rfl) (⟨rfl, hr, by decide⟩) ?_
                refine g_iinc_5 hX (dk DX12_holds_2 12 rfl) (nI_1 r.length) (by decide) rfl ?_
                refine g_iinc_6 hX (dk DX12_holds_2 13 rfl) (nI_1 c) (by decide) rfl ?_
                refine g_goto (tgt := 11) hX (dk DX12_holds_2 14 rfl) (by decide) ?_
                exact g_fgt (ih k (by omega) (c + 1) (nb :: r) _ (by omega) (by omega) hev hwf2 hsl2 ⟨by rw [up0, hbv]; rfl, PR_up hPRr (Nat.le_refl _)⟩ (hfr.pc (by decide) (by decide))) ⟨rfl, rfl, rfl, rfl, rfl, rfl, rfl, trivial⟩
            · have h2 := hc5
              refine g_iload_8 hX (dk DX12_holds_1 54 rfl) ?_
              refine g_iload_7 hX (dk DX12_holds_1 55 rfl) ?_
              refine g_bipush (v := 100) hX (dk DX12_holds_1 56 rfl) (by decide) ?_
              refine g_irem hX (dk DX12_holds_1 57 rfl) (by decide) ?_
              refine g_icmp_ne (tgt := 226) hX (dk DX12_holds_1 58 rfl) (by decide) (fun hc7 => ?_) (fun hc7 => ?_)
              · have hbv : nb = false := by rw [hnb]; unfold testF remI; rw [if_neg h1, if_pos h2]; exact decide_eq_false hc7
                refine g_iconst (v := 0) hX (dk DX12_holds_2 1 rfl) (by decide) ?_
                refine g_goto (tgt := 245) hX (dk DX12_holds_2 2 rfl) (by decide) ?_
                refine i_zastore hX (dk DX12_holds_2 11 rfl) (MLt hM (q := 18) (by decide)) (MS hM 18 (by decide) rfl) (⟨rfl, hr, by decide⟩) ?_
                refine g_iinc_5 hX (dk DX12_holds_2 12 rfl) (nI_1 r.length) (by decide) rfl ?_
                refine g_iinc_6 hX (dk DX12_holds_2 13 rfl) (nI_1 c) (by decide) rfl ?_
                refine g_goto (tgt := 11) hX (dk DX12_holds_2 14 rfl) (by decide) ?_
                exact g_fgt (ih k (by omega) (c + 1) (nb :: r) _ (by omega) (by omega) hev hwf2 hsl2 ⟨by rw [up0, hbv]; rfl, PR_up hPRr (Nat.le_refl _)⟩ (hfr.pc (by decide) (by decide))) ⟨rfl, rfl, rfl, rfl, rfl, rfl, rfl, trivial⟩
              · have hbv : nb = true := by rw [hnb]; unfold testF remI; rw [if_neg h1, if_pos h2]; exact decide_eq_true hc7
                refine g_iconst (v := 1) hX (dk DX12_holds_1 59 rfl) (by decide) ?_
                refine g_goto (tgt := 245) hX (dk DX12_holds_2 0 rfl) (by decide) ?_
                refine i_zastore hX (dk DX12_holds_2 11 rfl) (MLt hM (q := 18) (by decide)) (MS hM 18 (by decide) rfl) (⟨rfl, hr, by decide⟩) ?_
                refine g_iinc_5 hX (dk DX12_holds_2 12 rfl) (nI_1 r.length) (by decide) rfl ?_
                refine g_iinc_6 hX (dk DX12_holds_2 13 rfl) (nI_1 c) (by decide) rfl ?_
                refine g_goto (tgt := 11) hX (dk DX12_holds_2 14 rfl) (by decide) ?_
                exact g_fgt (ih k (by omega) (c + 1) (nb :: r) _ (by omega) (by omega) hev hwf2 hsl2 ⟨by rw [up0, hbv]; rfl, PR_up hPRr (Nat.le_refl _)⟩ (hfr.pc (by decide) (by decide))) ⟨rfl, rfl, rfl, rfl, rfl, rfl, rfl, trivial⟩
          · have h1 := hc4
            refine g_iload_8 hX (dk DX12_holds_1 42 rfl) ?_
            refine g_iload_7 hX (dk DX12_holds_1 43 rfl) ?_
            refine g_bipush (v := 100) hX (dk DX12_holds_1 44 rfl) (by decide) ?_
            refine g_irem hX (dk DX12_holds_1 45 rfl) (by decide) ?_
            refine g_icmp_ge (tgt := 202) hX (dk DX12_holds_1 46 rfl) (by decide) (fun hc8 => ?_) (fun hc8 => ?_)
            · have hbv : nb = false := by rw [hnb]; unfold testF remI; rw [if_pos h1]; exact decide_eq_false (Int32.not_lt.mpr hc8)
              refine g_iconst (v := 0) hX (dk DX12_holds_1 49 rfl) (by decide) ?_
              refine g_goto (tgt := 245) hX (dk DX12_holds_1 50 rfl) (by decide) ?_
              refine i_zastore hX (dk DX12_holds_2 11 rfl) (MLt hM (q := 18) (by decide)) (MS hM 18 (by decide) rfl) (⟨rfl, hr, by decide⟩) ?_
              refine g_iinc_5 hX (dk DX12_holds_2 12 rfl) (nI_1 r.length) (by decide) rfl ?_
              refine g_iinc_6 hX (dk DX12_holds_2 13 rfl) (nI_1 c) (by decide) rfl ?_
              refine g_goto (tgt := 11) hX (dk DX12_holds_2 14 rfl) (by decide) ?_
              exact g_fgt (ih k (by omega) (c + 1) (nb :: r) _ (by omega) (by omega) hev hwf2 hsl2 ⟨by rw [up0, hbv]; rfl, PR_up hPRr (Nat.le_refl _)⟩ (hfr.pc (by decide) (by decide))) ⟨rfl, rfl, rfl, rfl, rfl, rfl, rfl, trivial⟩
            · have hbv : nb = true := by rw [hnb]; unfold testF remI; rw [if_pos h1]; exact decide_eq_true (Int32.not_le.mp hc8)
              refine g_iconst (v := 1) hX (dk DX12_holds_1 47 rfl) (by decide) ?_
              refine g_goto (tgt := 245) hX (dk DX12_holds_1 48 rfl) (by decide) ?_
              refine i_zastore hX (dk DX12_holds_2 11 rfl) (MLt hM (q := 18) (by decide)) (MS hM 18 (by decide) rfl) (⟨rfl, hr, by decide⟩) ?_
              refine g_iinc_5 hX (dk DX12_holds_2 12 rfl) (nI_1 r.length) (by decide) rfl ?_
              refine g_iinc_6 hX (dk DX12_holds_2 13 rfl) (nI_1 c) (by decide) rfl ?_
              refine g_goto (tgt := 11) hX (dk DX12_holds_2 14 rfl) (by decide) ?_
              exact g_fgt (ih k (by omega) (c + 1) (nb :: r) _ (by omega) (by omega) hev hwf2 hsl2 ⟨by rw [up0, hbv]; rfl, PR_up hPRr (Nat.le_refl _)⟩ (hfr.pc (by decide) (by decide))) ⟨rfl, rfl, rfl, rfl, rfl, rfl, rfl, trivial⟩
        · have hlt : J 15 c < 0 := Int32.not_le.mp hc3
          obtain ⟨h0, rfl⟩ := depR_and hn33 hlt hdp
          obtain ⟨b0, a0, r, rfl⟩ := cons2_of h0
          rw [stepR_2 _ _ _ _ _ _ _ _ hn33 hlt] at hev
          simp only [List.length_cons] at hsl hwf2
          have hwf2 : wfR E k (c + 1) (r.length + 1) = true := hwf2
          have hsl2 : r.length + 1 ≤ c + 1 - a := by omega
          have hr : r.length < 100 := by omega
          have hr1 : r.length + 1 < 100 := by omega
          have hPRr := hPR.2.2
          refine g_iinc_5 hX (dk DX12_holds_0 40 rfl) (pk_m1 (r.length + 1)) (by decide) rfl ?_
          refine g_aload_0 hX (dk DX12_holds_0 41 rfl) ?_
          refine g_getRs (r := 18) hX (dk DX12_holds_0 42 rfl) KX12 fX12_107 (by decide) rfl (MLt hM (by decide)) (MC hM) (MR hM 32 (by decide) rfl) ?_
          refine g_iload_5 hX (dk DX12_holds_0 43 rfl) ?_
          refine g_iconst (v := 1) hX (dk DX12_holds_0 44 rfl) (by decide) ?_
          refine g_isub hX (dk DX12_holds_0 45 rfl) ?_
          refine g_iload_7 hX (dk DX12_holds_0 46 rfl) ?_
          refine g_bipush (v := -38) hX (dk DX12_holds_0 47 rfl) (by decide) ?_
          refine g_icmp_ne (tgt := 120) hX (dk DX12_holds_0 48 rfl) (by decide) (fun hc9 => ?_) (fun hc9 => ?_)
          · rw [if_neg hc9] at hev
            obtain ⟨nb, hnb⟩ : ∃ nb, nb = (a0 || b0) := ⟨_, rfl⟩
            rw [← hnb] at hev
            refine g_aload_0 hX (dk DX12_holds_1 5 rfl) ?_
            refine g_getRs (r := 18) hX (dk DX12_holds_1 6 rfl) KX12 fX12_107 (by decide) rfl (MLt hM (by decide)) (MC hM) (MR hM 32 (by decide) rfl) ?_
            refine g_iload_5 hX (dk DX12_holds_1 7 rfl) ?_
            refine g_iconst (v := 1) hX (dk DX12_holds_1 8 rfl) (by decide) ?_
            refine g_isub hX (dk DX12_holds_1 9 rfl) ?_
            refine i_zaload hX (dk DX12_holds_1 10 rfl) (MLt hM (q := 18) (by decide)) (MS hM 18 (by decide) rfl) (ix_m1 hr) ?_
            refine g_if_ne (tgt := 142) hX (dk DX12_holds_1 11 rfl) (by decide) (fun hc10 => ?_) (fun hc10 => ?_)
            · have hbv : nb = true := by
                rw [hnb]
                first | (rw [b2_n0 (b := a0) (by rw [← hPR.2.1]; exact hc10)]; rfl) | (rw [b2_n0 (b := b0) (by rw [← hPR.1]; exact hc10)]; exact Bool.or_true a0)
              refine g_iconst (v := 1) hX (dk DX12_holds_1 17 rfl) (by decide) ?_
              refine g_goto (tgt := 147) hX (dk DX12_holds_1 18 rfl) (by decide) ?_
              refine i_zastore hX (dk DX12_holds_1 20 rfl) (MLt hM (q := 18) (by decide)) (MS hM 18 (by decide) rfl) (ix_m1 hr) ?_
              refine g_goto (tgt := 249) hX (dk DX12_holds_1 21 rfl) (by decide) ?_
              refine g_iinc_6 hX (dk DX12_holds_2 13 rfl) (nI_1 c) (by decide) rfl ?_
              refine g_goto (tgt := 11) hX (dk DX12_holds_2 14 rfl) (by decide) ?_
              exact g_fgt (ih k (by omega) (c + 1) (nb :: r) _ (by omega) (by omega) hev hwf2 hsl2 ⟨by rw [up0, hbv]; rfl, PR_up hPRr (Nat.le_refl _)⟩ (hfr.pc (by decide) (by decide))) ⟨rfl, rfl, rfl, rfl, rfl, rfl, rfl, trivial⟩
            · refine g_aload_0 hX (dk DX12_holds_1 12 rfl) ?_
              refine g_getRs (r := 18) hX (dk DX12_holds_1 13 rfl) KX12 fX12_107 (by decide) rfl (MLt hM (by decide)) (MC hM) (MR hM 32 (by decide) rfl) ?_
              refine g_iload_5 hX (dk DX12_holds_1 14 rfl) ?_
              refine i_zaload hX (dk DX12_holds_1 15 rfl) (MLt hM (q := 18) (by decide)) (MS hM 18 (by decide) rfl) (⟨rfl, hr1, by decide⟩) ?_
              refine g_if_eq (tgt := 146) hX (dk DX12_holds_1 16 rfl) (by decide) (fun hc11 => ?_) (fun hc11 => ?_)
              · have hbv : nb = false := by rw [hnb, b2_z (hPR.2.1.symm.trans (by first | assumption | (exact Classical.not_not.mp (by assumption)))), b2_z (hPR.1.symm.trans hc11)]; rfl
                refine g_iconst (v := 0) hX (dk DX12_holds_1 19 rfl) (by decide) ?_
                refine i_zastore hX (dk DX12_holds_1 20 rfl) (MLt hM (q := 18) (by decide)) (MS hM 18 (by decide) rfl) (ix_m1 hr) ?_
                refine g_goto (tgt := 249) hX (dk DX12_holds_1 21 rfl) (by decide) ?_
                refine g_iinc_6 hX (dk DX12_holds_2 13 rfl) (nI_1 c) (by decide) rfl ?_
                refine g_goto (tgt := 11) hX (dk DX12_holds_2 14 rfl) (by decide) ?_
                exact g_fgt (ih k (by omega) (c + 1) (nb :: r) _ (by omega) (by omega) hev hwf2 hsl2 ⟨by rw [up0, hbv]; rfl, PR_up hPRr (Nat.le_refl _)⟩ (hfr.pc (by decide) (by decide))) ⟨rfl, rfl, rfl, rfl, rfl, rfl, rfl, trivial⟩
              · have hbv : nb = true := by
                  rw [hnb]
                  first | (rw [b2_n0 (b := a0) (by rw [← hPR.2.1]; exact hc11)]; rfl) | (rw [b2_n0 (b := b0) (by rw [← hPR.1]; exact hc11)]; exact Bool.or_true a0)
                refine g_iconst (v := 1) hX (dk DX12_holds_1 17 rfl) (by decide) ?_
                refine g_goto (tgt := 147) hX (dk DX12_holds_1 18 rfl) (by decide) ?_
                refine i_zastore hX (dk DX12_holds_1 20 rfl) (MLt hM (q := 18) (by decide)) (MS hM 18 (by decide) rfl) (ix_m1 hr) ?_
                refine g_goto (tgt := 249) hX (dk DX12_holds_1 21 rfl) (by decide) ?_
                refine g_iinc_6 hX (dk DX12_holds_2 13 rfl) (nI_1 c) (by decide) rfl ?_
                refine g_goto (tgt := 11) hX (dk DX12_holds_2 14 rfl) (by decide) ?_
                exact g_fgt (ih k (by omega) (c + 1) (nb :: r) _ (by omega) (by omega) hev hwf2 hsl2 ⟨by rw [up0, hbv]; rfl, PR_up hPRr (Nat.le_refl _)⟩ (hfr.pc (by decide) (by decide))) ⟨rfl, rfl, rfl, rfl, rfl, rfl, rfl, trivial⟩
          · rw [if_pos hc9] at hev
            obtain ⟨nb, hnb⟩ : ∃ nb, nb = (a0 && b0) := ⟨_, rfl⟩
            rw [← hnb] at hev
            refine g_aload_0 hX (dk DX12_holds_0 49 rfl) ?_
            refine g_getRs (r := 18) hX (dk DX12_holds_0 50 rfl) KX12 fX12_107 (by decide) rfl (MLt hM (by decide)) (MC hM) (MR hM 32 (by decide) rfl) ?_
            refine g_iload_5 hX (dk DX12_holds_0 51 rfl) ?_
            refine g_iconst (v := 1) hX (dk DX12_holds_0 52 rfl) (by decide) ?_
            refine g_isub hX (dk DX12_holds_0 53 rfl) ?_
            refine i_zaload hX (dk DX12_holds_0 54 rfl) (MLt hM (q := 18) (by decide)) (MS hM 18 (by decide) rfl) (ix_m1 hr) ?_
            refine g_if_eq (tgt := 116) hX (dk DX12_holds_0 55 rfl) (by decide) (fun hc12 => ?_) (fun hc12 => ?_)
            · have hbv : nb = false := by
                rw [hnb]
                first | (rw [b2_z (hPR.2.1.symm.trans hc12)]; rfl) | (rw [b2_z (hPR.1.symm.trans hc12)]; exact Bool.and_false a0)
              refine g_iconst (v := 0) hX (dk DX12_holds_1 3 rfl) (by decide) ?_
              refine g_goto (tgt := 147) hX (dk DX12_holds_1 4 rfl) (by decide) ?_
              refine i_zastore hX (dk DX12_holds_1 20 rfl) (MLt hM (q := 18) (by decide)) (MS hM 18 (by decide) rfl) (ix_m1 hr) ?_
              refine g_goto (tgt := 249) hX (dk DX12_holds_1 21 rfl) (by decide) ?_
              refine g_iinc_6 hX (dk DX12_holds_2 13 rfl) (nI_1 c) (by decide) rfl ?_
              refine g_goto (tgt := 11) hX (dk DX12_holds_2 14 rfl) (by decide) ?_
              exact g_fgt (ih k (by omega) (c + 1) (nb :: r) _ (by omega) (by omega) hev hwf2 hsl2 ⟨by rw [up0, hbv]; rfl, PR_up hPRr (Nat.le_refl _)⟩ (hfr.pc (by decide) (by decide))) ⟨rfl, rfl, rfl, rfl, rfl, rfl, rfl, trivial⟩
            · refine g_aload_0 hX (dk DX12_holds_0 56 rfl) ?_
              refine g_getRs (r := 18) hX (dk DX12_holds_0 57 rfl) KX12 fX12_107 (by decide) rfl (MLt hM (by decide)) (MC hM) (MR hM 32 (by decide) rfl) ?_
              refine g_iload_5 hX (dk DX12_holds_0 58 rfl) ?_
              refine i_zaload hX (dk DX12_holds_0 59 rfl) (MLt hM (q := 18) (by decide)) (MS hM 18 (by decide) rfl) (⟨rfl, hr1, by decide⟩) ?_
              refine g_if_eq (tgt := 116) hX (dk DX12_holds_1 0 rfl) (by decide) (fun hc13 => ?_) (fun hc13 => ?_)
              · have hbv : nb = false := by
                  rw [hnb]
                  first | (rw [b2_z (hPR.2.1.symm.trans hc13)]; rfl) | (rw [b2_z (hPR.1.symm.trans hc13)]; exact Bool.and_false a0)
                refine g_iconst (v := 0) hX (dk DX12_holds_1 3 rfl) (by decide) ?_
                refine g_goto (tgt := 147) hX (dk DX12_holds_1 4 rfl) (by decide) ?_
                refine i_zastore hX (dk DX12_holds_1 20 rfl) (MLt hM (q := 18) (by decide)) (MS hM 18 (by decide) rfl) (ix_m1 hr) ?_
                refine g_goto (tgt := 249) hX (dk DX12_holds_1 21 rfl) (by decide) ?_
                refine g_iinc_6 hX (dk DX12_holds_2 13 rfl) (nI_1 c) (by decide) rfl ?_
                refine g_goto (tgt := 11) hX (dk DX12_holds_2 14 rfl) (by decide) ?_
                exact g_fgt (ih k (by omega) (c + 1) (nb :: r) _ (by omega) (by omega) hev hwf2 hsl2 ⟨by rw [up0, hbv]; rfl, PR_up hPRr (Nat.le_refl _)⟩ (hfr.pc (by decide) (by decide))) ⟨rfl, rfl, rfl, rfl, rfl, rfl, rfl, trivial⟩
              · have hbv : nb = true := by rw [hnb, b2_n0 (b := a0) (by rw [← hPR.2.1]; assumption), b2_n0 (b := b0) (by rw [← hPR.1]; assumption)]; rfl
                refine g_iconst (v := 1) hX (dk DX12_holds_1 1 rfl) (by decide) ?_
                refine g_goto (tgt := 147) hX (dk DX12_holds_1 2 rfl) (by decide) ?_
                refine i_zastore hX (dk DX12_holds_1 20 rfl) (MLt hM (q := 18) (by decide)) (MS hM 18 (by decide) rfl) (ix_m1 hr) ?_
                refine g_goto (tgt := 249) hX (dk DX12_holds_1 21 rfl) (by decide) ?_
                refine g_iinc_6 hX (dk DX12_holds_2 13 rfl) (nI_1 c) (by decide) rfl ?_
                refine g_goto (tgt := 11) hX (dk DX12_holds_2 14 rfl) (by decide) ?_
                exact g_fgt (ih k (by omega) (c + 1) (nb :: r) _ (by omega) (by omega) hev hwf2 hsl2 ⟨by rw [up0, hbv]; rfl, PR_up hPRr (Nat.le_refl _)⟩ (hfr.pc (by decide) (by decide))) ⟨rfl, rfl, rfl, rfl, rfl, rfl, rfl, trivial⟩
      · obtain ⟨h0, rfl⟩ := depR_neg hc2 hdp
        obtain ⟨b0, r, rfl⟩ := cons_of h0
        rw [stepR_n _ _ _ _ _ _ _ hc2] at hev
        obtain ⟨nb, hnb⟩ : ∃ nb, nb = !b0 := ⟨_, rfl⟩
        rw [← hnb] at hev
        simp only [List.length_cons] at hsl
        have hsl2 : r.length + 1 ≤ c + 1 - a := by omega
        have hr : r.length < 100 := by omega
        have hPRr := hPR.2
        refine g_aload_0 hX (dk DX12_holds_0 21 rfl) ?_
        refine g_getRs (r := 18) hX (dk DX12_holds_0 22 rfl) KX12 fX12_107 (by decide) rfl (MLt hM (by decide)) (MC hM) (MR hM 32 (by decide) rfl) ?_
        refine g_iload_5 hX (dk DX12_holds_0 23 rfl) ?_
        refine g_iconst (v := 1) hX (dk DX12_holds_0 24 rfl) (by decide) ?_
        refine g_isub hX (dk DX12_holds_0 25 rfl) ?_
        refine g_aload_0 hX (dk DX12_holds_0 26 rfl) ?_
        refine g_getRs (r := 18) hX (dk DX12_holds_0 27 rfl) KX12 fX12_107 (by decide) rfl (MLt hM (by decide)) (MC hM) (MR hM 32 (by decide) rfl) ?_
        refine g_iload_5 hX (dk DX12_holds_0 28 rfl) ?_
        refine g_iconst (v := 1) hX (dk DX12_holds_0 29 rfl) (by decide) ?_
        refine g_isub hX (dk DX12_holds_0 30 rfl) ?_
        refine i_zaload hX (dk DX12_holds_0 31 rfl) (MLt hM (q := 18) (by decide)) (MS hM 18 (by decide) rfl) (ix_m1 hr) ?_
        refine g_if_ne (tgt := 62) hX (dk DX12_holds_0 32 rfl) (by decide) (fun hc14 => ?_) (fun hc14 => ?_)
        · have hbv : nb = false := by rw [hnb, b2_n0 (b := b0) (by rw [← hPR.1]; exact hc14)]; rfl
          refine g_iconst (v := 0) hX (dk DX12_holds_0 35 rfl) (by decide) ?_
          refine i_zastore hX (dk DX12_holds_0 36 rfl) (MLt hM (q := 18) (by decide)) (MS hM 18 (by decide) rfl) (ix_m1 hr) ?_
          refine g_goto (tgt := 249) hX (dk DX12_holds_0 37 rfl) (by decide) ?_
          refine g_iinc_6 hX (dk DX12_holds_2 13 rfl) (nI_1 c) (by decide) rfl ?_
          refine g_goto (tgt := 11) hX (dk DX12_holds_2 14 rfl) (by decide) ?_
          exact g_fgt (ih k (by omega) (c + 1) (nb :: r) _ (by omega) (by omega) hev hwf2 hsl2 ⟨by rw [up0, hbv]; rfl, PR_up hPRr (Nat.le_refl _)⟩ (hfr.pc (by decide) (by decide))) ⟨rfl, rfl, rfl, rfl, rfl, rfl, rfl, trivial⟩
        · have hbv : nb = true := by rw [hnb, b2_z (hPR.1.symm.trans hc14)]; rfl
          refine g_iconst (v := 1) hX (dk DX12_holds_0 33 rfl) (by decide) ?_
          refine g_goto (tgt := 63) hX (dk DX12_holds_0 34 rfl) (by decide) ?_
          refine i_zastore hX (dk DX12_holds_0 36 rfl) (MLt hM (q := 18) (by decide)) (MS hM 18 (by decide) rfl) (ix_m1 hr) ?_
          refine g_goto (tgt := 249) hX (dk DX12_holds_0 37 rfl) (by decide) ?_
          refine g_iinc_6 hX (dk DX12_holds_2 13 rfl) (nI_1 c) (by decide) rfl ?_
          refine g_goto (tgt := 11) hX (dk DX12_holds_2 14 rfl) (by decide) ?_
          exact g_fgt (ih k (by omega) (c + 1) (nb :: r) _ (by omega) (by omega) hev hwf2 hsl2 ⟨by rw [up0, hbv]; rfl, PR_up hPRr (Nat.le_refl _)⟩ (hfr.pc (by decide) (by decide))) ⟨rfl, rfl, rfl, rfl, rfl, rfl, rfl, trivial⟩
  refine g_iconst (v := 0) hX (dk DX12_holds_0 0 rfl) (by decide) ?_
  refine g_istore_5 hX (dk DX12_holds_0 1 rfl) (by decide) rfl ?_
  refine g_aload_0 hX (dk DX12_holds_0 2 rfl) ?_
  refine g_getRs (r := 13) hX (dk DX12_holds_0 3 rfl) KX12 fX12_83 (by decide) rfl (MLt hM (by decide)) (MC hM) (MR hM 24 (by decide) rfl) ?_
  refine g_iload_1 hX (dk DX12_holds_0 4 rfl) ?_
  refine i_iaload hX (dk DX12_holds_0 5 rfl) (MLt hM (q := 13) (by decide)) (MS hM 13 (by decide) rfl) (hc60) ?_
  refine g_istore_6 hX (dk DX12_holds_0 6 rfl) (by decide) rfl ?_
  rw [hcf.2.2.1, ha]
  exact g_fgt (loop11 (b - a) a [] I (by omega) (Nat.le_refl a) rfl hwf0 (Nat.zero_le _) trivial Fr.rf) ⟨rfl, rfl, rfl, rfl, rfl, rfl, rfl, trivial⟩

