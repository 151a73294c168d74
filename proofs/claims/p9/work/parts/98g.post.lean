set_option maxRecDepth 8000 in
set_option maxHeartbeats 4000000 in
theorem q_takesClause {G : Gt} (hG : Gok G) {I : It} {h : Ht} (hM : HM h) {p c fr : Nat} {tx : Nat → Int32} {n a : Nat} (hp : p < 6) (hc : c < 60) (hT : TX tx n I) (hA : AT n a I) (h28 : I 0 28 = nI fr) (h1 : 100 * p ≤ fr) (h2 : fr ≤ 100 * p + a) (hL : ∀ j, j < 15 → I 17 j = lettersL.getD j 0)  : Con G (7) 0 0 mX12_takesClause [.ref 0, .int (nI c)] I h (qI (fun v J h2 => h2 = h ∧ v = bI ((clA tx n a).1 = true) ∧ FC p c fr I J ∧ TX tx n J ∧ AT n (clA tx n a).2.1 J ∧ ((clA tx n a).1 = true → CLr J c fr (clA tx n a).2.2 ∧ J 0 28 = nI (fr + (clA tx n a).2.2.2.2.length) ∧ fr + (clA tx n a).2.2.2.2.length ≤ 100 * p + (clA tx n a).2.1))) := by
  refine con_intro (own := RX12) (lo0 := [some (.ref 0), some (.int (nI c))]) hG rfl pl_X12 (Nat.le_of_ble_eq_true rfl) rfl (fun X hX => ?_)
  have hn100 := hT.2.1
  have han := hA.2
  have hhd := hdA_le (X := tx) han
  refine g_aload_0 hX (dk DX12_takesClause 0 rfl) ?_
  refine g_iload_1 hX (dk DX12_takesClause 1 rfl) ?_
  refine g_c2q hX sX12_takesClause_2 (by decide) (Nat.le_of_ble_eq_true rfl) (rc0 rfl (MLt hM (by decide)) (MC hM)) (by decide) (by decide) (q_takesHead hG hM hT hA hc hL) ?_
  rintro v J9 h9 ⟨rfl, rfl, rfl⟩
  refine g_ifb_eq (tgt := 15) hX (dk DX12_takesClause 3 rfl) (by decide) (fun hc1 => ?_) (fun hc1 => ?_)
  · refine g_iconst (v := 0) hX (dk DX12_takesClause 7 rfl) (by decide) ?_
    refine g_ireturn hX (dk DX12_takesClause 8 rfl) rfl (by decide) (by decide) (by decide) ?_
    first
    | (have e := cl_h (X := tx) (n := n) (a := a) (by assumption)
       rw [e]
       exact qI_of ⟨rfl, rfl, ((FC.rf.w11).f (by decide)), (hT.u (q := 11) (j := c) (by omega) (by decide)).w, (AT.w hhd.2), fun z => absurd (show false = true from z) Bool.false_ne_true⟩)
    | (have e := cl_n (X := tx) (n := n) (a := a) hh (by assumption)
       rw [e, if_neg (by assumption)]
       exact qI_of ⟨rfl, rfl, ((FC.rf.w11).f (by decide)), (hT.u (q := 11) (j := c) (by omega) (by decide)).w, (AT.w hhd.2), fun z => absurd (show false = true from z) Bool.false_ne_true⟩)
  · have hh := hc1
    refine g_aload_0 hX (dk DX12_takesClause 4 rfl) ?_
    refine g_c1q hX sX12_takesClause_9 (by decide) (Nat.le_of_ble_eq_true rfl) (rc0 rfl (MLt hM (by decide)) (MC hM)) (by decide) (by decide) (q_takesNumber hG hM (a := (hdA tx n a).2.1) ((hT.u (q := 11) (j := c) (by omega) (by decide)).w) (AT.w hhd.2)) ?_
    rintro v J9 h9 ⟨rfl, rfl, rfl⟩
    refine g_ifb_ne (tgt := 17) hX (dk DX12_takesClause 6 rfl) (by decide) (fun hc2 => ?_) (fun hc2 => ?_)
    · have hd := hc2
      rw [if_pos hd, W2_w]
      have hnu := nuA_le (X := tx) hhd.2
      have hng := nuA_gt hd
      refine g_aload_0 hX (dk DX12_takesClause 9 rfl) ?_
      refine g_getRs (r := 12) hX (dk DX12_takesClause 10 rfl) KX12 fX12_80 (by decide) rfl (MLt hM (by decide)) (MC hM) (MR hM 23 (by decide) rfl) ?_
      refine g_iload_1 hX (dk DX12_takesClause 11 rfl) ?_
      refine g_aload_0 hX (dk DX12_takesClause 12 rfl) ?_
      refine g_getIv hX (dk DX12_takesClause 13 rfl) KX12 fX12_68 (by decide) rfl (MLt hM (by decide)) (MC hM) (W2_v9) ?_
      refine i_iastore hX (dk DX12_takesClause 14 rfl) (MLt hM (q := 12) (by decide)) (MS hM 12 (by decide) rfl) (⟨rfl, hc, by decide⟩) ?_
      refine g_aload_0 hX (dk DX12_takesClause 15 rfl) ?_
      refine g_getRs (r := 11) hX (dk DX12_takesClause 16 rfl) KX12 fX12_77 (by decide) rfl (MLt hM (by decide)) (MC hM) (MR hM 22 (by decide) rfl) ?_
      refine g_iload_1 hX (dk DX12_takesClause 17 rfl) ?_
      refine v_iaload hX (dk DX12_takesClause 18 rfl) (MLt hM (q := 11) (by decide)) (MS hM 11 (by decide) rfl) (⟨rfl, hc, by decide⟩) ((show upI I 11 c (hdA tx n a).2.2 11 c = (hdA tx n a).2.2 from up0 _ _ _ _)) ?_
      refine g_iconst (v := 1) hX (dk DX12_takesClause 19 rfl) (by decide) ?_
      refine g_icmp_gt (tgt := 54) hX (dk DX12_takesClause 20 rfl) (by decide) (fun hc3 => ?_) (fun hc3 => ?_)
      · refine g_iconst (v := 1) hX (dk DX12_takesClause 29 rfl) (by decide) ?_
        refine g_goto (tgt := 59) hX (dk DX12_takesClause 30 rfl) (by decide) ?_
        refine g_ireturn hX (dk DX12_takesClause 32 rfl) rfl (by decide) (by decide) (by decide) ?_
        first
        | (have e := cl_w hh hd (by assumption)
           rw [e]
           exact qI_of ⟨rfl, rfl, ((((FC.rf.w11).f (by decide)).f (by decide)).w12), ((W2_T (hT.u (q := 11) (j := c) (by omega) (by decide))).u (q := 12) (j := c) (by omega) (by decide)), (show AT n (nuA tx n (hdA tx n a).2.1) _ from ⟨rfl, hnu⟩), fun _ => ⟨⟨up0 _ _ _ _, up0 _ _ _ _, fun z => absurd (show 1 < (hdA tx n a).2.2 by assumption) z⟩, h28, by show fr + 0 ≤ 100 * p + (nuA tx n (hdA tx n a).2.1); omega⟩⟩)
        | (have e := cl_s hh hd (by assumption) (by assumption)
           have etk : tkA tx n (nuA tx n (hdA tx n a).2.1) 32 = (nuA tx n (hdA tx n a).2.1) := if_neg (by assumption)
           rw [e, etk]
           exact qI_of ⟨rfl, rfl, (((((FC.rf.w11).f (by decide)).f (by decide)).w12).f (by decide)), (TX.w ((W2_T (hT.u (q := 11) (j := c) (by omega) (by decide))).u (q := 12) (j := c) (by omega) (by decide))), (AT.w hnu), fun z => absurd (show false = true from z) Bool.false_ne_true⟩)
        | (have e := cl_E hh hd hw1 h32
           have hr : (amR tx n 101 true ((nuA tx n (hdA tx n a).2.1) + 1) [] []).1 = false := Bool.not_eq_true _ ▸ (by assumption)
           rw [e]
           exact qI_of ⟨rfl, (bI_f (by assumption)).symm, (((((FC.rf.w11).f (by decide)).f (by decide)).w12).f (by decide)).tr k1, hT8, hA8, fun z => absurd z (by assumption)⟩)
        | (have e := cl_E hh hd hw1 h32
           have hr : (amR tx n 101 true ((nuA tx n (hdA tx n a).2.1) + 1) [] []).1 = true := by assumption
           obtain ⟨r1, r2, r3, r4⟩ := hR8 hr
           rw [e]
           exact qI_of ⟨rfl, (bI_t hr).symm, (((((FC.rf.w11).f (by decide)).f (by decide)).w12).f (by decide)).tr k1, hT8, hA8, fun _ => ⟨⟨(congrFun k3 c).trans (up0 _ _ _ _), (congrFun k4 c).trans (up0 _ _ _ _), fun _ => ⟨k2, r1, r2⟩⟩, r3, r4⟩⟩)
      · have hw1 := hc3
        refine g_aload_0 hX (dk DX12_takesClause 21 rfl) ?_
        refine g_bipush (v := 32) hX (dk DX12_takesClause 22 rfl) (by decide) ?_
        refine g_c2I hX sX12_takesClause_40 (by decide) (Nat.le_of_ble_eq_true rfl) (rc0 rfl (MLt hM (by decide)) (MC hM)) (by decide) (by decide) (q_takes hG hM ((W2_T (hT.u (q := 11) (j := c) (by omega) (by decide))).u (q := 12) (j := c) (by omega) (by decide)) (show AT n (nuA tx n (hdA tx n a).2.1) _ from ⟨rfl, hnu⟩)) ?_
        refine g_ifb_eq (tgt := 58) hX (dk DX12_takesClause 24 rfl) (by decide) (fun hc4 => ?_) (fun hc4 => ?_)
        · refine g_iconst (v := 0) hX (dk DX12_takesClause 31 rfl) (by decide) ?_
          refine g_ireturn hX (dk DX12_takesClause 32 rfl) rfl (by decide) (by decide) (by decide) ?_
          first
          | (have e := cl_w hh hd (by assumption)
             rw [e]
             exact qI_of ⟨rfl, rfl, ((((FC.rf.w11).f (by decide)).f (by decide)).w12), ((W2_T (hT.u (q := 11) (j := c) (by omega) (by decide))).u (q := 12) (j := c) (by omega) (by decide)), (show AT n (nuA tx n (hdA tx n a).2.1) _ from ⟨rfl, hnu⟩), fun _ => ⟨⟨up0 _ _ _ _, up0 _ _ _ _, fun z => absurd (show 1 < (hdA tx n a).2.2 by assumption) z⟩, h28, by show fr + 0 ≤ 100 * p + (nuA tx n (hdA tx n a).2.1); omega⟩⟩)
          | (have e := cl_s hh hd (by assumption) (by assumption)
             have etk : tkA tx n (nuA tx n (hdA tx n a).2.1) 32 = (nuA tx n (hdA tx n a).2.1) := if_neg (by assumption)
             rw [e, etk]
             exact qI_of ⟨rfl, rfl, (((((FC.rf.w11).f (by decide)).f (by decide)).w12).f (by decide)), (TX.w ((W2_T (hT.u (q := 11) (j := c) (by omega) (by decide))).u (q := 12) (j := c) (by omega) (by decide))), (AT.w hnu), fun z => absurd (show false = true from z) Bool.false_ne_true⟩)
          | (have e := cl_E hh hd hw1 h32
             have hr : (amR tx n 101 true ((nuA tx n (hdA tx n a).2.1) + 1) [] []).1 = false := Bool.not_eq_true _ ▸ (by assumption)
             rw [e]
             exact qI_of ⟨rfl, (bI_f (by assumption)).symm, (((((FC.rf.w11).f (by decide)).f (by decide)).w12).f (by decide)).tr k1, hT8, hA8, fun z => absurd z (by assumption)⟩)
          | (have e := cl_E hh hd hw1 h32
             have hr : (amR tx n 101 true ((nuA tx n (hdA tx n a).2.1) + 1) [] []).1 = true := by assumption
             obtain ⟨r1, r2, r3, r4⟩ := hR8 hr
             rw [e]
             exact qI_of ⟨rfl, (bI_t hr).symm, (((((FC.rf.w11).f (by decide)).f (by decide)).w12).f (by decide)).tr k1, hT8, hA8, fun _ => ⟨⟨(congrFun k3 c).trans (up0 _ _ _ _), (congrFun k4 c).trans (up0 _ _ _ _), fun _ => ⟨k2, r1, r2⟩⟩, r3, r4⟩⟩)
        · have h32 := hc4
          have hlt2 : (nuA tx n (hdA tx n a).2.1) < n := nxA_no (by decide) h32
          have etk : tkA tx n (nuA tx n (hdA tx n a).2.1) 32 = (nuA tx n (hdA tx n a).2.1) + 1 := if_pos h32
          rw [etk]
          refine g_aload_0 hX (dk DX12_takesClause 25 rfl) ?_
          refine g_iload_1 hX (dk DX12_takesClause 26 rfl) ?_
          refine g_c2q hX sX12_takesClause_48 (by decide) (Nat.le_of_ble_eq_true rfl) (rc0 rfl (MLt hM (by decide)) (MC hM)) (by decide) (by decide) (q_takesE hG hM (p := p) (fr := fr) (a := (nuA tx n (hdA tx n a).2.1) + 1) hp hc (TX.w ((W2_T (hT.u (q := 11) (j := c) (by omega) (by decide))).u (q := 12) (j := c) (by omega) (by decide))) (AT.w hlt2) (show _ = nI fr from h28) h1 (by omega)) ?_
          rintro v J8 h8 ⟨rfl, rfl, hF8, hT8, hA8, hR8⟩
          obtain ⟨k1, k2, k3, k4⟩ := FC.of hF8
          refine g_ifb_eq (tgt := 58) hX (dk DX12_takesClause 28 rfl) (by decide) (fun hc5 => ?_) (fun hc5 => ?_)
          · refine g_iconst (v := 0) hX (dk DX12_takesClause 31 rfl) (by decide) ?_
            refine g_ireturn hX (dk DX12_takesClause 32 rfl) rfl (by decide) (by decide) (by decide) ?_
            first
            | (have e := cl_w hh hd (by assumption)
               rw [e]
               exact qI_of ⟨rfl, rfl, ((((FC.rf.w11).f (by decide)).f (by decide)).w12), ((W2_T (hT.u (q := 11) (j := c) (by omega) (by decide))).u (q := 12) (j := c) (by omega) (by decide)), (show AT n (nuA tx n (hdA tx n a).2.1) _ from ⟨rfl, hnu⟩), fun _ => ⟨⟨up0 _ _ _ _, up0 _ _ _ _, fun z => absurd (show 1 < (hdA tx n a).2.2 by assumption) z⟩, h28, by show fr + 0 ≤ 100 * p + (nuA tx n (hdA tx n a).2.1); omega⟩⟩)
            | (have e := cl_s hh hd (by assumption) (by assumption)
               have etk : tkA tx n (nuA tx n (hdA tx n a).2.1) 32 = (nuA tx n (hdA tx n a).2.1) := if_neg (by assumption)
               rw [e, etk]
               exact qI_of ⟨rfl, rfl, (((((FC.rf.w11).f (by decide)).f (by decide)).w12).f (by decide)), (TX.w ((W2_T (hT.u (q := 11) (j := c) (by omega) (by decide))).u (q := 12) (j := c) (by omega) (by decide))), (AT.w hnu), fun z => absurd (show false = true from z) Bool.false_ne_true⟩)
            | (have e := cl_E hh hd hw1 h32
               have hr : (amR tx n 101 true ((nuA tx n (hdA tx n a).2.1) + 1) [] []).1 = false := Bool.not_eq_true _ ▸ (by assumption)
               rw [e]
               exact qI_of ⟨rfl, (bI_f (by assumption)).symm, (((((FC.rf.w11).f (by decide)).f (by decide)).w12).f (by decide)).tr k1, hT8, hA8, fun z => absurd z (by assumption)⟩)
            | (have e := cl_E hh hd hw1 h32
               have hr : (amR tx n 101 true ((nuA tx n (hdA tx n a).2.1) + 1) [] []).1 = true := by assumption
               obtain ⟨r1, r2, r3, r4⟩ := hR8 hr
               rw [e]
               exact qI_of ⟨rfl, (bI_t hr).symm, (((((FC.rf.w11).f (by decide)).f (by decide)).w12).f (by decide)).tr k1, hT8, hA8, fun _ => ⟨⟨(congrFun k3 c).trans (up0 _ _ _ _), (congrFun k4 c).trans (up0 _ _ _ _), fun _ => ⟨k2, r1, r2⟩⟩, r3, r4⟩⟩)
          · refine g_iconst (v := 1) hX (dk DX12_takesClause 29 rfl) (by decide) ?_
            refine g_goto (tgt := 59) hX (dk DX12_takesClause 30 rfl) (by decide) ?_
            refine g_ireturn hX (dk DX12_takesClause 32 rfl) rfl (by decide) (by decide) (by decide) ?_
            first
            | (have e := cl_w hh hd (by assumption)
               rw [e]
               exact qI_of ⟨rfl, rfl, ((((FC.rf.w11).f (by decide)).f (by decide)).w12), ((W2_T (hT.u (q := 11) (j := c) (by omega) (by decide))).u (q := 12) (j := c) (by omega) (by decide)), (show AT n (nuA tx n (hdA tx n a).2.1) _ from ⟨rfl, hnu⟩), fun _ => ⟨⟨up0 _ _ _ _, up0 _ _ _ _, fun z => absurd (show 1 < (hdA tx n a).2.2 by assumption) z⟩, h28, by show fr + 0 ≤ 100 * p + (nuA tx n (hdA tx n a).2.1); omega⟩⟩)
            | (have e := cl_s hh hd (by assumption) (by assumption)
               have etk : tkA tx n (nuA tx n (hdA tx n a).2.1) 32 = (nuA tx n (hdA tx n a).2.1) := if_neg (by assumption)
               rw [e, etk]
               exact qI_of ⟨rfl, rfl, (((((FC.rf.w11).f (by decide)).f (by decide)).w12).f (by decide)), (TX.w ((W2_T (hT.u (q := 11) (j := c) (by omega) (by decide))).u (q := 12) (j := c) (by omega) (by decide))), (AT.w hnu), fun z => absurd (show false = true from z) Bool.false_ne_true⟩)
            | (have e := cl_E hh hd hw1 h32
               have hr : (amR tx n 101 true ((nuA tx n (hdA tx n a).2.1) + 1) [] []).1 = false := Bool.not_eq_true _ ▸ (by assumption)
               rw [e]
               exact qI_of ⟨rfl, (bI_f (by assumption)).symm, (((((FC.rf.w11).f (by decide)).f (by decide)).w12).f (by decide)).tr k1, hT8, hA8, fun z => absurd z (by assumption)⟩)
            | (have e := cl_E hh hd hw1 h32
               have hr : (amR tx n 101 true ((nuA tx n (hdA tx n a).2.1) + 1) [] []).1 = true := by assumption
               obtain ⟨r1, r2, r3, r4⟩ := hR8 hr
               rw [e]
               exact qI_of ⟨rfl, (bI_t hr).symm, (((((FC.rf.w11).f (by decide)).f (by decide)).w12).f (by decide)).tr k1, hT8, hA8, fun _ => ⟨⟨(congrFun k3 c).trans (up0 _ _ _ _), (congrFun k4 c).trans (up0 _ _ _ _), fun _ => ⟨k2, r1, r2⟩⟩, r3, r4⟩⟩)
    · refine g_iconst (v := 0) hX (dk DX12_takesClause 7 rfl) (by decide) ?_
      refine g_ireturn hX (dk DX12_takesClause 8 rfl) rfl (by decide) (by decide) (by decide) ?_
      first
      | (have e := cl_h (X := tx) (n := n) (a := a) (by assumption)
         rw [e]
         exact qI_of ⟨rfl, rfl, ((FC.rf.w11).f (by decide)), (hT.u (q := 11) (j := c) (by omega) (by decide)).w, (AT.w hhd.2), fun z => absurd (show false = true from z) Bool.false_ne_true⟩)
      | (have e := cl_n (X := tx) (n := n) (a := a) hh (by assumption)
         rw [e, if_neg (by assumption)]
         exact qI_of ⟨rfl, rfl, ((FC.rf.w11).f (by decide)), (hT.u (q := 11) (j := c) (by omega) (by decide)).w, (AT.w hhd.2), fun z => absurd (show false = true from z) Bool.false_ne_true⟩)

