def needlessS (E : It) (a z : Int32) : Int32 × It := if ¬ isD E a then (-1, E) else if hasI (E 0 6) a = 1 then (1, upI E 0 6 (withI (E 0 6) a z)) else (0, upI E 0 6 (withI (E 0 6) a z))
def learnS (E : It) (a z : Int32) : Int32 × It := if ¬ isD E a then (-1, E) else if hasI (E 0 5) a = 1 then (1, upI E 0 5 (withI (E 0 5) a z)) else (0, upI E 0 5 (withI (E 0 5) a z))
def oddsS (E : It) (a n : Int32) : Int32 × It := if ¬ isD E a then (-1, E) else if ¬ (0 ≤ n ∧ n ≤ 10) then (-2, E) else (E 7 (tN a), upI E 7 (tN a) n)
def hoursS (E : It) (a n : Int32) : Int32 × It := if ¬ (0 ≤ a ∧ a ≤ 3) then (-1, E) else if ¬ (0 ≤ n ∧ n ≤ 9) then (-2, E) else (E 8 (tN a), upI E 8 (tN a) n)
def feedS (E : It) (s : Int32) : Int32 × It := if ¬ (0 ≤ s ∧ s ≤ 127) then (-2, E) else if E 0 17 = 100 then (-4, E) else (E 0 17 + 1, upI (upI E 9 (tN (E 0 17)) s) 0 17 (E 0 17 + 1))
set_option maxRecDepth 8000 in
set_option maxHeartbeats 4000000 in
theorem c_X12_needless {G : Gt} (hG : Gok G) {I : It} {h : Ht} (hM : HM h) {E : It} (hE : Inv E) (hR : RM E I) {L : Nat → Int64} (hl : hL h 38 = L) {a z : Int32} : Con G (3) 0 0 mX12_needless [.ref 0, .int a, .int z] I h (qS (needlessS E a z) L) := by
  refine con_intro (own := RX12) (lo0 := [some (.ref 0), some (.int a), some (.int z), none]) hG rfl pl_X12 (Nat.le_of_ble_eq_true rfl) rfl (fun X hX => ?_)
  refine g_aload_0 hX (dk DX12_needless 0 rfl) ?_
  refine g_iload_1 hX (dk DX12_needless 1 rfl) ?_
  refine g_c2I hX sX12_needless_2 (by decide) (Nat.le_of_ble_eq_true rfl) (rc0 rfl (MLt hM (by decide)) (MC hM)) (by decide) (by decide) (cE_isDoing hG hM (RM.f hR 0 (by decide) (by decide))) ?_
  refine g_ifb_ne (tgt := 10) hX (dk DX12_needless 3 rfl) (by decide) (fun hc1 => ?_) (fun hc1 => ?_)
  · refine g_aload_0 hX (dk DX12_needless 6 rfl) ?_
    refine g_aload_0 hX (dk DX12_needless 7 rfl) ?_
    refine g_getIv hX (dk DX12_needless 8 rfl) KX12 fX12_28 (by decide) rfl (MLt hM (by decide)) (MC hM) (RM.f hR 6 (by decide) (by decide)) ?_
    refine g_iload_1 hX (dk DX12_needless 9 rfl) ?_
    refine g_c3I hX sX12_needless_16 (by decide) (Nat.le_of_ble_eq_true rfl) (rc0 rfl (MLt hM (by decide)) (MC hM)) (by decide) (by decide) (c_X12_has hG ) ?_
    refine g_ifb_eq (tgt := 26) hX (dk DX12_needless 11 rfl) (by decide) (fun hc2 => ?_) (fun hc2 => ?_)
    · refine g_iconst (v := 0) hX (dk DX12_needless 14 rfl) (by decide) ?_
      refine g_istore_3 hX (dk DX12_needless 15 rfl) (by decide) rfl ?_
      refine g_aload_0 hX (dk DX12_needless 16 rfl) ?_
      refine g_aload_0 hX (dk DX12_needless 17 rfl) ?_
      refine g_aload_0 hX (dk DX12_needless 18 rfl) ?_
      refine g_getIv hX (dk DX12_needless 19 rfl) KX12 fX12_28 (by decide) rfl (MLt hM (by decide)) (MC hM) (RM.f hR 6 (by decide) (by decide)) ?_
      refine g_iload_1 hX (dk DX12_needless 20 rfl) ?_
      refine g_iload_2 hX (dk DX12_needless 21 rfl) ?_
      refine g_c4I hX sX12_needless_36 (by decide) (Nat.le_of_ble_eq_true rfl) (rc0 rfl (MLt hM (by decide)) (MC hM)) (by decide) (by decide) (c_X12_with hG ) ?_
      refine g_putI hX (dk DX12_needless 23 rfl) KX12 fX12_28 (by decide) rfl (MLt hM (by decide)) (MC hM) (Or.inl rfl) (rfl) (rfl) ?_
      refine g_iload_3 hX (dk DX12_needless 24 rfl) ?_
      refine g_ireturn hX (dk DX12_needless 25 rfl) rfl (rfl) (by decide) (by decide) ?_
      exact qS_of hM hl (by unfold needlessS; (try first | rw [if_pos hc1] | rw [if_neg hc1] | rw [if_neg (not_not_intro hc1)]); (try first | rw [if_pos hc2] | rw [if_neg hc2] | rw [if_neg (not_not_intro hc2)]); first | done | rfl) (RM.upf hR (by decide))
    · refine g_iconst (v := 1) hX (dk DX12_needless 12 rfl) (by decide) ?_
      refine g_goto (tgt := 27) hX (dk DX12_needless 13 rfl) (by decide) ?_
      refine g_istore_3 hX (dk DX12_needless 15 rfl) (by decide) rfl ?_
      refine g_aload_0 hX (dk DX12_needless 16 rfl) ?_
      refine g_aload_0 hX (dk DX12_needless 17 rfl) ?_
      refine g_aload_0 hX (dk DX12_needless 18 rfl) ?_
      refine g_getIv hX (dk DX12_needless 19 rfl) KX12 fX12_28 (by decide) rfl (MLt hM (by decide)) (MC hM) (RM.f hR 6 (by decide) (by decide)) ?_
      refine g_iload_1 hX (dk DX12_needless 20 rfl) ?_
      refine g_iload_2 hX (dk DX12_needless 21 rfl) ?_
      refine g_c4I hX sX12_needless_36 (by decide) (Nat.le_of_ble_eq_true rfl) (rc0 rfl (MLt hM (by decide)) (MC hM)) (by decide) (by decide) (c_X12_with hG ) ?_
      refine g_putI hX (dk DX12_needless 23 rfl) KX12 fX12_28 (by decide) rfl (MLt hM (by decide)) (MC hM) (Or.inl rfl) (rfl) (rfl) ?_
      refine g_iload_3 hX (dk DX12_needless 24 rfl) ?_
      refine g_ireturn hX (dk DX12_needless 25 rfl) rfl (rfl) (by decide) (by decide) ?_
      exact qS_of hM hl (by unfold needlessS; (try first | rw [if_pos hc1] | rw [if_neg hc1] | rw [if_neg (not_not_intro hc1)]); (try first | rw [if_pos hc2] | rw [if_neg hc2] | rw [if_neg (not_not_intro hc2)]); first | done | rfl) (RM.upf hR (by decide))
  · refine g_iconst (v := -1) hX (dk DX12_needless 4 rfl) (by decide) ?_
    refine g_ireturn hX (dk DX12_needless 5 rfl) rfl (rfl) (by decide) (by decide) ?_
    exact qS_of hM hl (by unfold needlessS; (try first | rw [if_pos hc1] | rw [if_neg hc1] | rw [if_neg (not_not_intro hc1)]); first | done | rfl) hR

set_option maxRecDepth 8000 in
set_option maxHeartbeats 4000000 in
theorem c_X12_learn {G : Gt} (hG : Gok G) {I : It} {h : Ht} (hM : HM h) {E : It} (hE : Inv E) (hR : RM E I) {L : Nat → Int64} (hl : hL h 38 = L) {a z : Int32} : Con G (3) 0 0 mX12_learn [.ref 0, .int a, .int z] I h (qS (learnS E a z) L) := by
  refine con_intro (own := RX12) (lo0 := [some (.ref 0), some (.int a), some (.int z), none]) hG rfl pl_X12 (Nat.le_of_ble_eq_true rfl) rfl (fun X hX => ?_)
  refine g_aload_0 hX (dk DX12_learn 0 rfl) ?_
  refine g_iload_1 hX (dk DX12_learn 1 rfl) ?_
  refine g_c2I hX sX12_learn_2 (by decide) (Nat.le_of_ble_eq_true rfl) (rc0 rfl (MLt hM (by decide)) (MC hM)) (by decide) (by decide) (cE_isDoing hG hM (RM.f hR 0 (by decide) (by decide))) ?_
  refine g_ifb_ne (tgt := 10) hX (dk DX12_learn 3 rfl) (by decide) (fun hc1 => ?_) (fun hc1 => ?_)
  · refine g_aload_0 hX (dk DX12_learn 6 rfl) ?_
    refine g_aload_0 hX (dk DX12_learn 7 rfl) ?_
    refine g_getIv hX (dk DX12_learn 8 rfl) KX12 fX12_25 (by decide) rfl (MLt hM (by decide)) (MC hM) (RM.f hR 5 (by decide) (by decide)) ?_
    refine g_iload_1 hX (dk DX12_learn 9 rfl) ?_
    refine g_c3I hX sX12_learn_16 (by decide) (Nat.le_of_ble_eq_true rfl) (rc0 rfl (MLt hM (by decide)) (MC hM)) (by decide) (by decide) (c_X12_has hG ) ?_
    refine g_ifb_eq (tgt := 26) hX (dk DX12_learn 11 rfl) (by decide) (fun hc2 => ?_) (fun hc2 => ?_)
    · refine g_iconst (v := 0) hX (dk DX12_learn 14 rfl) (by decide) ?_
      refine g_istore_3 hX (dk DX12_learn 15 rfl) (by decide) rfl ?_
      refine g_aload_0 hX (dk DX12_learn 16 rfl) ?_
      refine g_aload_0 hX (dk DX12_learn 17 rfl) ?_
      refine g_aload_0 hX (dk DX12_learn 18 rfl) ?_
      refine g_getIv hX (dk DX12_learn 19 rfl) KX12 fX12_25 (by decide) rfl (MLt hM (by decide)) (MC hM) (RM.f hR 5 (by decide) (by decide)) ?_
      refine g_iload_1 hX (dk DX12_learn 20 rfl) ?_
      refine g_iload_2 hX (dk DX12_learn 21 rfl) ?_
      refine g_c4I hX sX12_learn_36 (by decide) (Nat.le_of_ble_eq_true rfl) (rc0 rfl (MLt hM (by decide)) (MC hM)) (by decide) (by decide) (c_X12_with hG ) ?_
      refine g_putI hX (dk DX12_learn 23 rfl) KX12 fX12_25 (by decide) rfl (MLt hM (by decide)) (MC hM) (Or.inl rfl) (rfl) (rfl) ?_
      refine g_iload_3 hX (dk DX12_learn 24 rfl) ?_
      refine g_ireturn hX (dk DX12_learn 25 rfl) rfl (rfl) (by decide) (by decide) ?_
      exact qS_of hM hl (by unfold learnS; (try first | rw [if_pos hc1] | rw [if_neg hc1] | rw [if_neg (not_not_intro hc1)]); (try first | rw [if_pos hc2] | rw [if_neg hc2] | rw [if_neg (not_not_intro hc2)]); first | done | rfl) (RM.upf hR (by decide))
    · refine g_iconst (v := 1) hX (dk DX12_learn 12 rfl) (by decide) ?_
      refine g_goto (tgt := 27) hX (dk DX12_learn 13 rfl) (by decide) ?_
      refine g_istore_3 hX (dk DX12_learn 15 rfl) (by decide) rfl ?_
      refine g_aload_0 hX (dk DX12_learn 16 rfl) ?_
      refine g_aload_0 hX (dk DX12_learn 17 rfl) ?_
      refine g_aload_0 hX (dk DX12_learn 18 rfl) ?_
      refine g_getIv hX (dk DX12_learn 19 rfl) KX12 fX12_25 (by decide) rfl (MLt hM (by decide)) (MC hM) (RM.f hR 5 (by decide) (by decide)) ?_
      refine g_iload_1 hX (dk DX12_learn 20 rfl) ?_
      refine g_iload_2 hX (dk DX12_learn 21 rfl) ?_
      refine g_c4I hX sX12_learn_36 (by decide) (Nat.le_of_ble_eq_true rfl) (rc0 rfl (MLt hM (by decide)) (MC hM)) (by decide) (by decide) (c_X12_with hG ) ?_
      refine g_putI hX (dk DX12_learn 23 rfl) KX12 fX12_25 (by decide) rfl (MLt hM (by decide)) (MC hM) (Or.inl rfl) (rfl) (rfl) ?_
      refine g_iload_3 hX (dk DX12_learn 24 rfl) ?_
      refine g_ireturn hX (dk DX12_learn 25 rfl) rfl (rfl) (by decide) (by decide) ?_
      exact qS_of hM hl (by unfold learnS; (try first | rw [if_pos hc1] | rw [if_neg hc1] | rw [if_neg (not_not_intro hc1)]); (try first | rw [if_pos hc2] | rw [if_neg hc2] | rw [if_neg (not_not_intro hc2)]); first | done | rfl) (RM.upf hR (by decide))
  · refine g_iconst (v := -1) hX (dk DX12_learn 4 rfl) (by decide) ?_
    refine g_ireturn hX (dk DX12_learn 5 rfl) rfl (rfl) (by decide) (by decide) ?_
    exact qS_of hM hl (by unfold learnS; (try first | rw [if_pos hc1] | rw [if_neg hc1] | rw [if_neg (not_not_intro hc1)]); first | done | rfl) hR

set_option maxRecDepth 8000 in
set_option maxHeartbeats 4000000 in
theorem c_X12_odds {G : Gt} (hG : Gok G) {I : It} {h : Ht} (hM : HM h) {E : It} (hE : Inv E) (hR : RM E I) {L : Nat → Int64} (hl : hL h 38 = L) {a n : Int32} : Con G (3) 0 0 mX12_odds [.ref 0, .int a, .int n] I h (qS (oddsS E a n) L) := by
  refine con_intro (own := RX12) (lo0 := [some (.ref 0), some (.int a), some (.int n), none]) hG rfl pl_X12 (Nat.le_of_ble_eq_true rfl) rfl (fun X hX => ?_)
  refine g_aload_0 hX (dk DX12_odds 0 rfl) ?_
  refine g_iload_1 hX (dk DX12_odds 1 rfl) ?_
  refine g_c2I hX sX12_odds_2 (by decide) (Nat.le_of_ble_eq_true rfl) (rc0 rfl (MLt hM (by decide)) (MC hM)) (by decide) (by decide) (cE_isDoing hG hM (RM.f hR 0 (by decide) (by decide))) ?_
  refine g_ifb_ne (tgt := 10) hX (dk DX12_odds 3 rfl) (by decide) (fun hc1 => ?_) (fun hc1 => ?_)
  · obtain ⟨d, hd, rfl⟩ := isD_of hE hc1
    have hd10 := Nat.lt_of_lt_of_le hd (inv_cnt hE).2
    refine g_aload_0 hX (dk DX12_odds 6 rfl) ?_
    refine g_iload_2 hX (dk DX12_odds 7 rfl) ?_
    refine g_iconst (v := 0) hX (dk DX12_odds 8 rfl) (by decide) ?_
    refine g_bipush (v := 10) hX (dk DX12_odds 9 rfl) (by decide) ?_
    refine g_c4I hX sX12_odds_15 (by decide) (Nat.le_of_ble_eq_true rfl) (rc0 rfl (MLt hM (by decide)) (MC hM)) (by decide) (by decide) (c_X12_in hG ) ?_
    refine g_ifb_ne (tgt := 24) hX (dk DX12_odds 11 rfl) (by decide) (fun hc2 => ?_) (fun hc2 => ?_)
    · refine g_aload_0 hX (dk DX12_odds 14 rfl) ?_
      refine g_getRs (r := 7) hX (dk DX12_odds 15 rfl) KX12 fX12_50 (by decide) rfl (MLt hM (by decide)) (MC hM) (MR hM 13 (by decide) rfl) ?_
      refine g_iload_1 hX (dk DX12_odds 16 rfl) ?_
      refine v_iaload hX (dk DX12_odds 17 rfl) (MLt hM (q := 7) (by decide)) (MS hM 7 (by decide) rfl) (⟨rfl, hd10, by decide⟩) (RM.c1 hR 7 _ (by decide) (by decide)) ?_
      refine g_istore_3 hX (dk DX12_odds 18 rfl) (by decide) rfl ?_
      refine g_aload_0 hX (dk DX12_odds 19 rfl) ?_
      refine g_getRs (r := 7) hX (dk DX12_odds 20 rfl) KX12 fX12_50 (by decide) rfl (MLt hM (by decide)) (MC hM) (MR hM 13 (by decide) rfl) ?_
      refine g_iload_1 hX (dk DX12_odds 21 rfl) ?_
      refine g_iload_2 hX (dk DX12_odds 22 rfl) ?_
      refine i_iastore hX (dk DX12_odds 23 rfl) (MLt hM (q := 7) (by decide)) (MS hM 7 (by decide) rfl) (⟨rfl, hd10, by decide⟩) ?_
      refine g_iload_3 hX (dk DX12_odds 24 rfl) ?_
      refine g_ireturn hX (dk DX12_odds 25 rfl) rfl (rfl) (by decide) (by decide) ?_
      exact qS_of hM hl (by unfold oddsS; (try first | rw [if_pos hc1] | rw [if_neg hc1] | rw [if_neg (not_not_intro hc1)]); (try first | rw [if_pos hc2] | rw [if_neg hc2] | rw [if_neg (not_not_intro hc2)]); rw [tN_nI (by omega)]) (RM.upc hR (by decide))
    · refine g_bipush (v := -2) hX (dk DX12_odds 12 rfl) (by decide) ?_
      refine g_ireturn hX (dk DX12_odds 13 rfl) rfl (rfl) (by decide) (by decide) ?_
      exact qS_of hM hl (by unfold oddsS; (try first | rw [if_pos hc1] | rw [if_neg hc1] | rw [if_neg (not_not_intro hc1)]); (try first | rw [if_pos hc2] | rw [if_neg hc2] | rw [if_neg (not_not_intro hc2)]); first | done | rfl) hR
  · refine g_iconst (v := -1) hX (dk DX12_odds 4 rfl) (by decide) ?_
    refine g_ireturn hX (dk DX12_odds 5 rfl) rfl (rfl) (by decide) (by decide) ?_
    exact qS_of hM hl (by unfold oddsS; (try first | rw [if_pos hc1] | rw [if_neg hc1] | rw [if_neg (not_not_intro hc1)]); first | done | rfl) hR

set_option maxRecDepth 8000 in
set_option maxHeartbeats 4000000 in
theorem c_X12_hours {G : Gt} (hG : Gok G) {I : It} {h : Ht} (hM : HM h) {E : It} (hE : Inv E) (hR : RM E I) {L : Nat → Int64} (hl : hL h 38 = L) {a n : Int32} : Con G (3) 0 0 mX12_hours [.ref 0, .int a, .int n] I h (qS (hoursS E a n) L) := by
  refine con_intro (own := RX12) (lo0 := [some (.ref 0), some (.int a), some (.int n), none]) hG rfl pl_X12 (Nat.le_of_ble_eq_true rfl) rfl (fun X hX => ?_)
  refine g_aload_0 hX (dk DX12_hours 0 rfl) ?_
  refine g_iload_1 hX (dk DX12_hours 1 rfl) ?_
  refine g_c2I hX sX12_hours_2 (by decide) (Nat.le_of_ble_eq_true rfl) (rc0 rfl (MLt hM (by decide)) (MC hM)) (by decide) (by decide) (c_X12_isWay hG hM) ?_
  refine g_ifb_ne (tgt := 10) hX (dk DX12_hours 3 rfl) (by decide) (fun hc1 => ?_) (fun hc1 => ?_)
  · obtain ⟨y, hy, rfl⟩ := in_of (b := 3) (by decide) hc1
    refine g_aload_0 hX (dk DX12_hours 6 rfl) ?_
    refine g_iload_2 hX (dk DX12_hours 7 rfl) ?_
    refine g_iconst (v := 0) hX (dk DX12_hours 8 rfl) (by decide) ?_
    refine g_bipush (v := 9) hX (dk DX12_hours 9 rfl) (by decide) ?_
    refine g_c4I hX sX12_hours_15 (by decide) (Nat.le_of_ble_eq_true rfl) (rc0 rfl (MLt hM (by decide)) (MC hM)) (by decide) (by decide) (c_X12_in hG ) ?_
    refine g_ifb_ne (tgt := 24) hX (dk DX12_hours 11 rfl) (by decide) (fun hc2 => ?_) (fun hc2 => ?_)
    · refine g_aload_0 hX (dk DX12_hours 14 rfl) ?_
      refine g_getRs (r := 8) hX (dk DX12_hours 15 rfl) KX12 fX12_53 (by decide) rfl (MLt hM (by decide)) (MC hM) (MR hM 14 (by decide) rfl) ?_
      refine g_iload_1 hX (dk DX12_hours 16 rfl) ?_
      refine v_iaload hX (dk DX12_hours 17 rfl) (MLt hM (q := 8) (by decide)) (MS hM 8 (by decide) rfl) (⟨rfl, by omega, by decide⟩) (RM.c1 hR 8 _ (by decide) (by decide)) ?_
      refine g_istore_3 hX (dk DX12_hours 18 rfl) (by decide) rfl ?_
      refine g_aload_0 hX (dk DX12_hours 19 rfl) ?_
      refine g_getRs (r := 8) hX (dk DX12_hours 20 rfl) KX12 fX12_53 (by decide) rfl (MLt hM (by decide)) (MC hM) (MR hM 14 (by decide) rfl) ?_
      refine g_iload_1 hX (dk DX12_hours 21 rfl) ?_
      refine g_iload_2 hX (dk DX12_hours 22 rfl) ?_
      refine i_iastore hX (dk DX12_hours 23 rfl) (MLt hM (q := 8) (by decide)) (MS hM 8 (by decide) rfl) (⟨rfl, by omega, by decide⟩) ?_
      refine g_iload_3 hX (dk DX12_hours 24 rfl) ?_
      refine g_ireturn hX (dk DX12_hours 25 rfl) rfl (rfl) (by decide) (by decide) ?_
      exact qS_of hM hl (by unfold hoursS; (try first | rw [if_pos hc1] | rw [if_neg hc1] | rw [if_neg (not_not_intro hc1)]); (try first | rw [if_pos hc2] | rw [if_neg hc2] | rw [if_neg (not_not_intro hc2)]); rw [tN_nI (by omega)]) (RM.upc hR (by decide))
    · refine g_bipush (v := -2) hX (dk DX12_hours 12 rfl) (by decide) ?_
      refine g_ireturn hX (dk DX12_hours 13 rfl) rfl (rfl) (by decide) (by decide) ?_
      exact qS_of hM hl (by unfold hoursS; (try first | rw [if_pos hc1] | rw [if_neg hc1] | rw [if_neg (not_not_intro hc1)]); (try first | rw [if_pos hc2] | rw [if_neg hc2] | rw [if_neg (not_not_intro hc2)]); first | done | rfl) hR
  · refine g_iconst (v := -1) hX (dk DX12_hours 4 rfl) (by decide) ?_
    refine g_ireturn hX (dk DX12_hours 5 rfl) rfl (rfl) (by decide) (by decide) ?_
    exact qS_of hM hl (by unfold hoursS; (try first | rw [if_pos hc1] | rw [if_neg hc1] | rw [if_neg (not_not_intro hc1)]); first | done | rfl) hR

set_option maxRecDepth 8000 in
set_option maxHeartbeats 4000000 in
theorem c_X12_feed {G : Gt} (hG : Gok G) {I : It} {h : Ht} (hM : HM h) {E : It} (hE : Inv E) (hR : RM E I) {L : Nat → Int64} (hl : hL h 38 = L) {s : Int32} : Con G (2) 0 0 mX12_feed [.ref 0, .int s] I h (qS (feedS E s) L) := by
  refine con_intro (own := RX12) (lo0 := [some (.ref 0), some (.int s)]) hG rfl pl_X12 (Nat.le_of_ble_eq_true rfl) rfl (fun X hX => ?_)
  refine g_aload_0 hX (dk DX12_feed 0 rfl) ?_
  refine g_iload_1 hX (dk DX12_feed 1 rfl) ?_
  refine g_iconst (v := 0) hX (dk DX12_feed 2 rfl) (by decide) ?_
  refine g_bipush (v := 127) hX (dk DX12_feed 3 rfl) (by decide) ?_
  refine g_c4I hX sX12_feed_5 (by decide) (Nat.le_of_ble_eq_true rfl) (rc0 rfl (MLt hM (by decide)) (MC hM)) (by decide) (by decide) (c_X12_in hG ) ?_
  refine g_ifb_ne (tgt := 14) hX (dk DX12_feed 5 rfl) (by decide) (fun hc1 => ?_) (fun hc1 => ?_)
  · refine g_aload_0 hX (dk DX12_feed 8 rfl) ?_
    refine g_getIv hX (dk DX12_feed 9 rfl) KX12 fX12_62 (by decide) rfl (MLt hM (by decide)) (MC hM) (RM.f hR 17 (by decide) (by decide)) ?_
    refine g_bipush (v := 100) hX (dk DX12_feed 10 rfl) (by decide) ?_
    refine g_icmp_ne (tgt := 26) hX (dk DX12_feed 11 rfl) (by decide) (fun hc2 => ?_) (fun hc2 => ?_)
    · have hf := fed_ix hE hc2
      refine g_aload_0 hX (dk DX12_feed 14 rfl) ?_
      refine g_getRs (r := 9) hX (dk DX12_feed 15 rfl) KX12 fX12_71 (by decide) rfl (MLt hM (by decide)) (MC hM) (MR hM 20 (by decide) rfl) ?_
      refine g_aload_0 hX (dk DX12_feed 16 rfl) ?_
      refine g_getIv hX (dk DX12_feed 17 rfl) KX12 fX12_62 (by decide) rfl (MLt hM (by decide)) (MC hM) (RM.f hR 17 (by decide) (by decide)) ?_
      refine g_iload_1 hX (dk DX12_feed 18 rfl) ?_
      refine i_iastore hX (dk DX12_feed 19 rfl) (MLt hM (q := 9) (by decide)) (MS hM 9 (by decide) rfl) (hf) ?_
      refine g_aload_0 hX (dk DX12_feed 20 rfl) ?_
      refine g_dup hX (dk DX12_feed 21 rfl) rfl ?_
      refine g_getIv hX (dk DX12_feed 22 rfl) KX12 fX12_62 (by decide) rfl (MLt hM (by decide)) (MC hM) (RM.f hR 17 (by decide) (by decide)) ?_
      refine g_iconst (v := 1) hX (dk DX12_feed 23 rfl) (by decide) ?_
      refine g_iadd hX (dk DX12_feed 24 rfl) ?_
      refine g_putI hX (dk DX12_feed 25 rfl) KX12 fX12_62 (by decide) rfl (MLt hM (by decide)) (MC hM) (Or.inl rfl) (rfl) (rfl) ?_
      refine g_aload_0 hX (dk DX12_feed 26 rfl) ?_
      refine g_getIv hX (dk DX12_feed 27 rfl) KX12 fX12_62 (by decide) rfl (MLt hM (by decide)) (MC hM) (up0 _ _ _ _) ?_
      refine g_ireturn hX (dk DX12_feed 28 rfl) rfl (rfl) (by decide) (by decide) ?_
      exact qS_of hM hl (by unfold feedS; (try first | rw [if_pos hc1] | rw [if_neg hc1] | rw [if_neg (not_not_intro hc1)]); (try first | rw [if_pos hc2] | rw [if_neg hc2] | rw [if_neg (not_not_intro hc2)]); first | done | rfl) (RM.upf (RM.upc hR (by decide)) (by decide))
    · refine g_bipush (v := -4) hX (dk DX12_feed 12 rfl) (by decide) ?_
      refine g_ireturn hX (dk DX12_feed 13 rfl) rfl (rfl) (by decide) (by decide) ?_
      exact qS_of hM hl (by unfold feedS; (try first | rw [if_pos hc1] | rw [if_neg hc1] | rw [if_neg (not_not_intro hc1)]); (try first | rw [if_pos hc2] | rw [if_neg hc2] | rw [if_neg (not_not_intro hc2)]); first | done | rfl) hR
  · refine g_bipush (v := -2) hX (dk DX12_feed 6 rfl) (by decide) ?_
    refine g_ireturn hX (dk DX12_feed 7 rfl) rfl (rfl) (by decide) (by decide) ?_
    exact qS_of hM hl (by unfold feedS; (try first | rw [if_pos hc1] | rw [if_neg hc1] | rw [if_neg (not_not_intro hc1)]); first | done | rfl) hR

def toldS (E : It) (w : Int32) : Int32 × It := if 10 ≤ w ∧ w ≤ 13 then (E 8 (tN (w - 10)), E) else if w = 0 then (callF E, E) else if w = 1 then (fadeF E, E) else if w = 2 then (E 0 1, E) else if w = 3 then (E 0 2, E) else if w = 4 then (E 0 3, E) else if w = 5 then (E 0 4, E) else (-1, E)
def ofS (E : It) (a w : Int32) : Int32 × It := if ¬ isD E a then (-10001, E) else if w = 0 then (E 1 (tN a), E) else if w = 1 then (E 2 (tN a), E) else if w = 2 then (E 3 (tN a), E) else if w = 3 then (E 4 (tN a), E) else if w = 4 then (E 5 (tN a), E) else if w = 5 then (E 6 (tN a), E)
  else if w = 6 then (if hasI (E 0 6) a = 1 then (1, E) else (0, E)) else if w = 7 then (if hasI (E 0 5) a = 1 then (1, E) else (0, E)) else if w = 8 then (saidF E (E 8) (tN a), E)
  else if w = 9 then (if saidF E (E 8) (tN a) < E 6 (tN a) then (0, E) else (1, E)) else if w = 10 then (dearF E (tN a) (E 0 1), E) else if w = 11 then (E 7 (tN a), E) else (-10001, E)
def saidS (E : It) (a y : Int32) : Int32 × It := if ¬ isD E a then (-1, E) else if ¬ (0 ≤ y ∧ y ≤ 3) then (-1, E) else (sayF E (tN a) y, E)
def handS (E : It) : Int32 × It := (onesI (E 0 5 ||| overF E (E 8)) - onesI (E 0 5), upI E 0 5 (E 0 5 ||| overF E (E 8)))
def goE (E : It) (R : WS) (n : Int32) : It := upI (upI (upI (upI (upI E 0 1 (E 0 1 + n)) 0 5 R.2.1) 0 2 (E 0 2 + R.2.2.1)) 0 3 (E 0 3 + R.2.2.2.1)) 0 4 (E 0 4 + R.2.2.2.2.1)
def goS (E : It) (n : Int32) : Int32 × It := if ¬ (1 ≤ n ∧ n ≤ 60) then (-2, E) else if ¬ E 0 1 + n ≤ 9999 then (-3, E) else (E 0 1 + n, goE E (runF E (E 0 5) (E 0 6) (tN n)) n)
def runS (E : It) (n w : Int32) : Int32 × It := if ¬ (0 ≤ w ∧ w ≤ 5) then (-10001, E) else if ¬ (0 ≤ n ∧ n ≤ 200) then (-10002, E) else if w = 0 then ((runF E (E 0 5) (E 0 6) (tN n)).2.2.1, E) else if w = 1 then ((runF E (E 0 5) (E 0 6) (tN n)).2.2.2.1, E)
  else if w = 2 then ((runF E (E 0 5) (E 0 6) (tN n)).2.2.2.2.1, E) else if w = 3 then (onesI (runF E (E 0 5) (E 0 6) (tN n)).2.1, E) else if w = 4 then ((runF E (E 0 5) (E 0 6) (tN n)).2.2.2.2.2.1, E) else ((runF E (E 0 5) (E 0 6) (tN n)).2.2.2.2.2.2, E)
theorem TS.all {J : It} {idl : Int32} {a : WS} (h : TS J idl a) : J 0 34 = a.2.1 ∧ J 0 35 = idl ∧ J 0 36 = a.2.2.1 ∧ J 0 37 = a.2.2.2.1 ∧ J 0 38 = a.2.2.2.2.1 ∧ J 0 39 = a.2.2.2.2.2.1 ∧ J 0 40 = a.2.2.2.2.2.2 := by
  obtain ⟨had, kn, co, st, ca, fw, fd⟩ := a
  exact h
set_option maxRecDepth 8000 in
set_option maxHeartbeats 4000000 in
theorem c_X12_told {G : Gt} (hG : Gok G) {I : It} {h : Ht} (hM : HM h) {E : It} (hE : Inv E) (hR : RM E I) {L : Nat → Int64} (hl : hL h 38 = L) {w : Int32} : Con G (3) 0 0 mX12_told [.ref 0, .int w] I h (qS (toldS E w) L) := by
  refine con_intro (own := RX12) (lo0 := [some (.ref 0), some (.int w)]) hG rfl pl_X12 (Nat.le_of_ble_eq_true rfl) rfl (fun X hX => ?_)
  refine g_aload_0 hX (dk DX12_told 0 rfl) ?_
  refine g_iload_1 hX (dk DX12_told 1 rfl) ?_
  refine g_bipush (v := 10) hX (dk DX12_told 2 rfl) (by decide) ?_
  refine g_bipush (v := 13) hX (dk DX12_told 3 rfl) (by decide) ?_
  refine g_c4I hX sX12_told_6 (by decide) (Nat.le_of_ble_eq_true rfl) (rc0 rfl (MLt hM (by decide)) (MC hM)) (by decide) (by decide) (c_X12_in hG ) ?_
  refine g_ifb_eq (tgt := 22) hX (dk DX12_told 5 rfl) (by decide) (fun hc1 => ?_) (fun hc1 => ?_)
  · refine g_iload_1 hX (dk DX12_told 13 rfl) ?_
    refine g_tswitch (dt := 95) hX [(0, 60), (1, 68), (2, 75), (3, 80), (4, 85), (5, 90)] (dk DX12_told 14 rfl) (by decide +kernel) ?_
    refine ⟨fun hc2 => ?_, fun hc2n => ?_⟩
    · show GG _ _ _ _ _ _ _ _ _ _ _ _ _
      refine g_aload_0 hX (dk DX12_told 15 rfl) ?_
      refine g_iconst (v := 2) hX (dk DX12_told 16 rfl) (by decide) ?_
      refine g_bipush (v := 7) hX (dk DX12_told 17 rfl) (by decide) ?_
      refine g_c3I hX sX12_told_64 (by decide) (Nat.le_of_ble_eq_true rfl) (rc0 rfl (MLt hM (by decide)) (MC hM)) (by decide) (by decide) (c_X12_lastOf hG hM hE (Ag.of hR (by decide) (by decide))) ?_
      refine g_ireturn hX (dk DX12_told 19 rfl) rfl (rfl) (by decide) (by decide) ?_
      exact qS_of hM hl (by unfold toldS; (try first | rw [if_pos hc1] | rw [if_neg hc1] | rw [if_neg (not_not_intro hc1)]); (try first | rw [if_pos hc2] | rw [if_neg hc2] | rw [if_neg (not_not_intro hc2)]); first | done | rfl) hR
    refine ⟨fun hc3 => ?_, fun hc3n => ?_⟩
    · show GG _ _ _ _ _ _ _ _ _ _ _ _ _
      refine g_aload_0 hX (dk DX12_told 20 rfl) ?_
      refine g_iconst (v := 3) hX (dk DX12_told 21 rfl) (by decide) ?_
      refine g_iconst (v := 1) hX (dk DX12_told 22 rfl) (by decide) ?_
      refine g_c3I hX sX12_told_71 (by decide) (Nat.le_of_ble_eq_true rfl) (rc0 rfl (MLt hM (by decide)) (MC hM)) (by decide) (by decide) (c_X12_lastOf hG hM hE (Ag.of hR (by decide) (by decide))) ?_
      refine g_ireturn hX (dk DX12_told 24 rfl) rfl (rfl) (by decide) (by decide) ?_
      exact qS_of hM hl (by unfold toldS; (try first | rw [if_pos hc1] | rw [if_neg hc1] | rw [if_neg (not_not_intro hc1)]); (try first | rw [if_pos hc2n] | rw [if_neg hc2n] | rw [if_neg (not_not_intro hc2n)]); (try first | rw [if_pos hc3] | rw [if_neg hc3] | rw [if_neg (not_not_intro hc3)]); first | done | rfl) hR
    refine ⟨fun hc4 => ?_, fun hc4n => ?_⟩
    · show GG _ _ _ _ _ _ _ _ _ _ _ _ _
      refine g_aload_0 hX (dk DX12_told 25 rfl) ?_
      refine g_getIv hX (dk DX12_told 26 rfl) KX12 fX12_13 (by decide) rfl (MLt hM (by decide)) (MC hM) (RM.f hR 1 (by decide) (by decide)) ?_
      refine g_ireturn hX (dk DX12_told 27 rfl) rfl (rfl) (by decide) (by decide) ?_
      exact qS_of hM hl (by unfold toldS; (try first | rw [if_pos hc1] | rw [if_neg hc1] | rw [if_neg (not_not_intro hc1)]); (try first | rw [if_pos hc2n] | rw [if_neg hc2n] | rw [if_neg (not_not_intro hc2n)]); (try first | rw [if_pos hc3n] | rw [if_neg hc3n] | rw [if_neg (not_not_intro hc3n)]); (try first | rw [if_pos hc4] | rw [if_neg hc4] | rw [if_neg (not_not_intro hc4)]); first | done | rfl) hR
    refine ⟨fun hc5 => ?_, fun hc5n => ?_⟩
    · show GG _ _ _ _ _ _ _ _ _ _ _ _ _
      refine g_aload_0 hX (dk DX12_told 28 rfl) ?_
      refine g_getIv hX (dk DX12_told 29 rfl) KX12 fX12_16 (by decide) rfl (MLt hM (by decide)) (MC hM) (RM.f hR 2 (by decide) (by decide)) ?_
      refine g_ireturn hX (dk DX12_told 30 rfl) rfl (rfl) (by decide) (by decide) ?_
      exact qS_of hM hl (by unfold toldS; (try first | rw [if_pos hc1] | rw [if_neg hc1] | rw [if_neg (not_not_intro hc1)]); (try first | rw [if_pos hc2n] | rw [if_neg hc2n] | rw [if_neg (not_not_intro hc2n)]); (try first | rw [if_pos hc3n] | rw [if_neg hc3n] | rw [if_neg (not_not_intro hc3n)]); (try first | rw [if_pos hc4n] | rw [if_neg hc4n] | rw [if_neg (not_not_intro hc4n)]); (try first | rw [if_pos hc5] | rw [if_neg hc5] | rw [if_neg (not_not_intro hc5)]); first | done | rfl) hR
    refine ⟨fun hc6 => ?_, fun hc6n => ?_⟩
    · show GG _ _ _ _ _ _ _ _ _ _ _ _ _
      refine g_aload_0 hX (dk DX12_told 31 rfl) ?_
      refine g_getIv hX (dk DX12_told 32 rfl) KX12 fX12_19 (by decide) rfl (MLt hM (by decide)) (MC hM) (RM.f hR 3 (by decide) (by decide)) ?_
      refine g_ireturn hX (dk DX12_told 33 rfl) rfl (rfl) (by decide) (by decide) ?_
      exact qS_of hM hl (by unfold toldS; (try first | rw [if_pos hc1] | rw [if_neg hc1] | rw [if_neg (not_not_intro hc1)]); (try first | rw [if_pos hc2n] | rw [if_neg hc2n] | rw [if_neg (not_not_intro hc2n)]); (try first | rw [if_pos hc3n] | rw [if_neg hc3n] | rw [if_neg (not_not_intro hc3n)]); (try first | rw [if_pos hc4n] | rw [if_neg hc4n] | rw [if_neg (not_not_intro hc4n)]); (try first | rw [if_pos hc5n] | rw [if_neg hc5n] | rw [if_neg (not_not_intro hc5n)]); (try first | rw [if_pos hc6] | rw [if_neg hc6] | rw [if_neg (not_not_intro hc6)]); first | done | rfl) hR
    refine ⟨fun hc7 => ?_, fun hc7n => ?_⟩
    · show GG _ _ _ _ _ _ _ _ _ _ _ _ _
      refine g_aload_0 hX (dk DX12_told 34 rfl) ?_
      refine g_getIv hX (dk DX12_told 35 rfl) KX12 fX12_22 (by decide) rfl (MLt hM (by decide)) (MC hM) (RM.f hR 4 (by decide) (by decide)) ?_
      refine g_ireturn hX (dk DX12_told 36 rfl) rfl (rfl) (by decide) (by decide) ?_
      exact qS_of hM hl (by unfold toldS; (try first | rw [if_pos hc1] | rw [if_neg hc1] | rw [if_neg (not_not_intro hc1)]); (try first | rw [if_pos hc2n] | rw [if_neg hc2n] | rw [if_neg (not_not_intro hc2n)]); (try first | rw [if_pos hc3n] | rw [if_neg hc3n] | rw [if_neg (not_not_intro hc3n)]); (try first | rw [if_pos hc4n] | rw [if_neg hc4n] | rw [if_neg (not_not_intro hc4n)]); (try first | rw [if_pos hc5n] | rw [if_neg hc5n] | rw [if_neg (not_not_intro hc5n)]); (try first | rw [if_pos hc6n] | rw [if_neg hc6n] | rw [if_neg (not_not_intro hc6n)]); (try first | rw [if_pos hc7] | rw [if_neg hc7] | rw [if_neg (not_not_intro hc7)]); first | done | rfl) hR
    show GG _ _ _ _ _ _ _ _ _ _ _ _ _
    refine g_iconst (v := -1) hX (dk DX12_told 37 rfl) (by decide) ?_
    refine g_ireturn hX (dk DX12_told 38 rfl) rfl (rfl) (by decide) (by decide) ?_
    exact qS_of hM hl (by unfold toldS; (try first | rw [if_pos hc1] | rw [if_neg hc1] | rw [if_neg (not_not_intro hc1)]); (try first | rw [if_pos hc2n] | rw [if_neg hc2n] | rw [if_neg (not_not_intro hc2n)]); (try first | rw [if_pos hc3n] | rw [if_neg hc3n] | rw [if_neg (not_not_intro hc3n)]); (try first | rw [if_pos hc4n] | rw [if_neg hc4n] | rw [if_neg (not_not_intro hc4n)]); (try first | rw [if_pos hc5n] | rw [if_neg hc5n] | rw [if_neg (not_not_intro hc5n)]); (try first | rw [if_pos hc6n] | rw [if_neg hc6n] | rw [if_neg (not_not_intro hc6n)]); (try first | rw [if_pos hc7n] | rw [if_neg hc7n] | rw [if_neg (not_not_intro hc7n)]); first | done | rfl) hR
  · obtain ⟨j, hj1, hj2, rfl⟩ := in1_of (c := 10) (b := 13) (by decide) (by decide) hc1
    have hs : nI j - 10 = nI (j - 10) := pk_sub hj1
    refine g_aload_0 hX (dk DX12_told 6 rfl) ?_
    refine g_getRs (r := 8) hX (dk DX12_told 7 rfl) KX12 fX12_53 (by decide) rfl (MLt hM (by decide)) (MC hM) (MR hM 14 (by decide) rfl) ?_
    refine g_iload_1 hX (dk DX12_told 8 rfl) ?_
    refine g_bipush (v := 10) hX (dk DX12_told 9 rfl) (by decide) ?_
    refine g_isub hX (dk DX12_told 10 rfl) ?_
    refine v_iaload hX (dk DX12_told 11 rfl) (MLt hM (q := 8) (by decide)) (MS hM 8 (by decide) rfl) (⟨hs, by omega, by decide⟩) (RM.c1 hR 8 _ (by decide) (by decide)) ?_
    refine g_ireturn hX (dk DX12_told 12 rfl) rfl (rfl) (by decide) (by decide) ?_
    exact qS_of hM hl (by unfold toldS; (try first | rw [if_pos hc1] | rw [if_neg hc1] | rw [if_neg (not_not_intro hc1)]); rw [hs, tN_nI (by omega)]; first | done | rfl) hR

set_option maxRecDepth 8000 in
set_option maxHeartbeats 4000000 in
theorem c_X12_of {G : Gt} (hG : Gok G) {I : It} {h : Ht} (hM : HM h) {E : It} (hE : Inv E) (hR : RM E I) {L : Nat → Int64} (hl : hL h 38 = L) {a w : Int32} : Con G (6) 0 0 mX12_of [.ref 0, .int a, .int w] I h (qS (ofS E a w) L) := by
  refine con_intro (own := RX12) (lo0 := [some (.ref 0), some (.int a), some (.int w)]) hG rfl pl_X12 (Nat.le_of_ble_eq_true rfl) rfl (fun X hX => ?_)
  refine g_aload_0 hX (dk DX12_of_0 0 rfl) ?_
  refine g_iload_1 hX (dk DX12_of_0 1 rfl) ?_
  refine g_c2I hX sX12_of_2 (by decide) (Nat.le_of_ble_eq_true rfl) (rc0 rfl (MLt hM (by decide)) (MC hM)) (by decide) (by decide) (cE_isDoing hG hM (RM.f hR 0 (by decide) (by decide))) ?_
  refine g_ifb_ne (tgt := 12) hX (dk DX12_of_0 3 rfl) (by decide) (fun hc1 => ?_) (fun hc1 => ?_)
  · obtain ⟨d, hd, rfl⟩ := isD_of hE hc1
    have hd10 := Nat.lt_of_lt_of_le hd (inv_cnt hE).2
    refine g_aload_0 hX (dk DX12_of_0 6 rfl) ?_
    refine g_c1v hX sX12_of_13 (by decide) (Nat.le_of_ble_eq_true rfl) (rc0 rfl (MLt hM (by decide)) (MC hM)) (by decide) (by decide) (c_X12_laySaid hG hM hE (Ag.of hR (by decide) (by decide))) ?_
    rintro J2 _ ⟨hS, hfr, rfl⟩
    have hR := RM.keep hR hfr (by decide) (by decide) (by decide)
    refine g_iload_2 hX (dk DX12_of_0 8 rfl) ?_
    refine g_tswitch (dt := 201) hX [(0, 80), (1, 87), (2, 94), (3, 101), (4, 108), (5, 115), (6, 122), (7, 140), (8, 158), (9, 164), (10, 184), (11, 194)] (dk DX12_of_0 9 rfl) (by decide +kernel) ?_
    refine ⟨fun hc2 => ?_, fun hc2n => ?_⟩
    · show GG _ _ _ _ _ _ _ _ _ _ _ _ _
      refine g_aload_0 hX (dk DX12_of_0 10 rfl) ?_
      refine g_getRs (r := 1) hX (dk DX12_of_0 11 rfl) KX12 fX12_31 (by decide) rfl (MLt hM (by decide)) (MC hM) (MR hM 7 (by decide) rfl) ?_
      refine g_iload_1 hX (dk DX12_of_0 12 rfl) ?_
      refine v_iaload hX (dk DX12_of_0 13 rfl) (MLt hM (q := 1) (by decide)) (MS hM 1 (by decide) rfl) (⟨rfl, hd10, by decide⟩) (RM.c1 hR 1 _ (by decide) (by decide)) ?_
      refine g_ireturn hX (dk DX12_of_0 14 rfl) rfl (rfl) (by decide) (by decide) ?_
      exact qS_of hM hl (by unfold ofS; (try rw [tN_nI (by omega)]); (try first | rw [if_pos hc1] | rw [if_neg hc1] | rw [if_neg (not_not_intro hc1)]); (try first | rw [if_pos hc2] | rw [if_neg hc2] | rw [if_neg (not_not_intro hc2)]); (try rw [tN_nI (by omega)]); first | done | rfl) hR
    refine ⟨fun hc3 => ?_, fun hc3n => ?_⟩
    · show GG _ _ _ _ _ _ _ _ _ _ _ _ _
      refine g_aload_0 hX (dk DX12_of_0 15 rfl) ?_
      refine g_getRs (r := 2) hX (dk DX12_of_0 16 rfl) KX12 fX12_35 (by decide) rfl (MLt hM (by decide)) (MC hM) (MR hM 8 (by decide) rfl) ?_
      refine g_iload_1 hX (dk DX12_of_0 17 rfl) ?_
      refine v_iaload hX (dk DX12_of_0 18 rfl) (MLt hM (q := 2) (by decide)) (MS hM 2 (by decide) rfl) (⟨rfl, hd10, by decide⟩) (RM.c1 hR 2 _ (by decide) (by decide)) ?_
      refine g_ireturn hX (dk DX12_of_0 19 rfl) rfl (rfl) (by decide) (by decide) ?_
      exact qS_of hM hl (by unfold ofS; (try rw [tN_nI (by omega)]); (try first | rw [if_pos hc1] | rw [if_neg hc1] | rw [if_neg (not_not_intro hc1)]); (try first | rw [if_pos hc2n] | rw [if_neg hc2n] | rw [if_neg (not_not_intro hc2n)]); (try first | rw [if_pos hc3] | rw [if_neg hc3] | rw [if_neg (not_not_intro hc3)]); (try rw [tN_nI (by omega)]); first | done | rfl) hR
    refine ⟨fun hc4 => ?_, fun hc4n => ?_⟩
    · show GG _ _ _ _ _ _ _ _ _ _ _ _ _
      refine g_aload_0 hX (dk DX12_of_0 20 rfl) ?_
      refine g_getRs (r := 3) hX (dk DX12_of_0 21 rfl) KX12 fX12_38 (by decide) rfl (MLt hM (by decide)) (MC hM) (MR hM 9 (by decide) rfl) ?_
      refine g_iload_1 hX (dk DX12_of_0 22 rfl) ?_
      refine v_iaload hX (dk DX12_of_0 23 rfl) (MLt hM (q := 3) (by decide)) (MS hM 3 (by decide) rfl) (⟨rfl, hd10, by decide⟩) (RM.c1 hR 3 _ (by decide) (by decide)) ?_
      refine g_ireturn hX (dk DX12_of_0 24 rfl) rfl (rfl) (by decide) (by decide) ?_
      exact qS_of hM hl (by unfold ofS; (try rw [tN_nI (by omega)]); (try first | rw [if_pos hc1] | rw [if_neg hc1] | rw [if_neg (not_not_intro hc1)]); (try first | rw [if_pos hc2n] | rw [if_neg hc2n] | rw [if_neg (not_not_intro hc2n)]); (try first | rw [if_pos hc3n] | rw [if_neg hc3n] | rw [if_neg (not_not_intro hc3n)]); (try first | rw [if_pos hc4] | rw [if_neg hc4] | rw [if_neg (not_not_intro hc4)]); (try rw [tN_nI (by omega)]); first | done | rfl) hR
    refine ⟨fun hc5 => ?_, fun hc5n => ?_⟩
    · show GG _ _ _ _ _ _ _ _ _ _ _ _ _
      refine g_aload_0 hX (dk DX12_of_0 25 rfl) ?_
      refine g_getRs (r := 4) hX (dk DX12_of_0 26 rfl) KX12 fX12_41 (by decide) rfl (MLt hM (by decide)) (MC hM) (MR hM 10 (by decide) rfl) ?_
      refine g_iload_1 hX (dk DX12_of_0 27 rfl) ?_
      refine v_iaload hX (dk DX12_of_0 28 rfl) (MLt hM (q := 4) (by decide)) (MS hM 4 (by decide) rfl) (⟨rfl, hd10, by decide⟩) (RM.c1 hR 4 _ (by decide) (by decide)) ?_
      refine g_ireturn hX (dk DX12_of_0 29 rfl) rfl (rfl) (by decide) (by decide) ?_
      exact qS_of hM hl (by unfold ofS; (try rw [tN_nI (by omega)]); (try first | rw [if_pos hc1] | rw [if_neg hc1] | rw [if_neg (not_not_intro hc1)]); (try first | rw [if_pos hc2n] | rw [if_neg hc2n] | rw [if_neg (not_not_intro hc2n)]); (try first | rw [if_pos hc3n] | rw [if_neg hc3n] | rw [if_neg (not_not_intro hc3n)]); (try first | rw [if_pos hc4n] | rw [if_neg hc4n] | rw [if_neg (not_not_intro hc4n)]); (try first | rw [if_pos hc5] | rw [if_neg hc5] | rw [if_neg (not_not_intro hc5)]); (try rw [tN_nI (by omega)]); first | done | rfl) hR
    refine ⟨fun hc6 => ?_, fun hc6n => ?_⟩
    · show GG _ _ _ _ _ _ _ _ _ _ _ _ _
      refine g_aload_0 hX (dk DX12_of_0 30 rfl) ?_
      refine g_getRs (r := 5) hX (dk DX12_of_0 31 rfl) KX12 fX12_44 (by decide) rfl (MLt hM (by decide)) (MC hM) (MR hM 11 (by decide) rfl) ?_
      refine g_iload_1 hX (dk DX12_of_0 32 rfl) ?_
      refine v_iaload hX (dk DX12_of_0 33 rfl) (MLt hM (q := 5) (by decide)) (MS hM 5 (by decide) rfl) (⟨rfl, hd10, by decide⟩) (RM.c1 hR 5 _ (by decide) (by decide)) ?_
      refine g_ireturn hX (dk DX12_of_0 34 rfl) rfl (rfl) (by decide) (by decide) ?_
      exact qS_of hM hl (by unfold ofS; (try rw [tN_nI (by omega)]); (try first | rw [if_pos hc1] | rw [if_neg hc1] | rw [if_neg (not_not_intro hc1)]); (try first | rw [if_pos hc2n] | rw [if_neg hc2n] | rw [if_neg (not_not_intro hc2n)]); (try first | rw [if_pos hc3n] | rw [if_neg hc3n] | rw [if_neg (not_not_intro hc3n)]); (try first | rw [if_pos hc4n] | rw [if_neg hc4n] | rw [if_neg (not_not_intro hc4n)]); (try first | rw [if_pos hc5n] | rw [if_neg hc5n] | rw [if_neg (not_not_intro hc5n)]); (try first | rw [if_pos hc6] | rw [if_neg hc6] | rw [if_neg (not_not_intro hc6)]); (try rw [tN_nI (by omega)]); first | done | rfl) hR
    refine ⟨fun hc7 => ?_, fun hc7n => ?_⟩
    · show GG _ _ _ _ _ _ _ _ _ _ _ _ _
      refine g_aload_0 hX (dk DX12_of_0 35 rfl) ?_
      refine g_getRs (r := 6) hX (dk DX12_of_0 36 rfl) KX12 fX12_47 (by decide) rfl (MLt hM (by decide)) (MC hM) (MR hM 12 (by decide) rfl) ?_
      refine g_iload_1 hX (dk DX12_of_0 37 rfl) ?_
      refine v_iaload hX (dk DX12_of_0 38 rfl) (MLt hM (q := 6) (by decide)) (MS hM 6 (by decide) rfl) (⟨rfl, hd10, by decide⟩) (RM.c1 hR 6 _ (by decide) (by decide)) ?_
      refine g_ireturn hX (dk DX12_of_0 39 rfl) rfl (rfl) (by decide) (by decide) ?_
      exact qS_of hM hl (by unfold ofS; (try rw [tN_nI (by omega)]); (try first | rw [if_pos hc1] | rw [if_neg hc1] | rw [if_neg (not_not_intro hc1)]); (try first | rw [if_pos hc2n] | rw [if_neg hc2n] | rw [if_neg (not_not_intro hc2n)]); (try first | rw [if_pos hc3n] | rw [if_neg hc3n] | rw [if_neg (not_not_intro hc3n)]); (try first | rw [if_pos hc4n] | rw [if_neg hc4n] | rw [if_neg (not_not_intro hc4n)]); (try first | rw [if_pos hc5n] | rw [if_neg hc5n] | rw [if_neg (not_not_intro hc5n)]); (try first | rw [if_pos hc6n] | rw [if_neg hc6n] | rw [if_neg (not_not_intro hc6n)]); (try first | rw [if_pos hc7] | rw [if_neg hc7] | rw [if_neg (not_not_intro hc7)]); (try rw [tN_nI (by omega)]); first | done | rfl) hR
    refine ⟨fun hc8 => ?_, fun hc8n => ?_⟩
    · show GG _ _ _ _ _ _ _ _ _ _ _ _ _
      refine g_aload_0 hX (dk DX12_of_0 40 rfl) ?_
      refine g_aload_0 hX (dk DX12_of_0 41 rfl) ?_
      refine g_getIv hX (dk DX12_of_0 42 rfl) KX12 fX12_28 (by decide) rfl (MLt hM (by decide)) (MC hM) (RM.f hR 6 (by decide) (by decide)) ?_
      refine g_iload_1 hX (dk DX12_of_0 43 rfl) ?_
      refine g_c3I hX sX12_of_128 (by decide) (Nat.le_of_ble_eq_true rfl) (rc0 rfl (MLt hM (by decide)) (MC hM)) (by decide) (by decide) (c_X12_has hG ) ?_
      refine g_ifb_eq (tgt := 138) hX (dk DX12_of_0 45 rfl) (by decide) (fun hc9 => ?_) (fun hc9 => ?_)
      · refine g_iconst (v := 0) hX (dk DX12_of_0 48 rfl) (by decide) ?_
        refine g_ireturn hX (dk DX12_of_0 49 rfl) rfl (rfl) (by decide) (by decide) ?_
        exact qS_of hM hl (by unfold ofS; (try rw [tN_nI (by omega)]); (try first | rw [if_pos hc1] | rw [if_neg hc1] | rw [if_neg (not_not_intro hc1)]); (try first | rw [if_pos hc2n] | rw [if_neg hc2n] | rw [if_neg (not_not_intro hc2n)]); (try first | rw [if_pos hc3n] | rw [if_neg hc3n] | rw [if_neg (not_not_intro hc3n)]); (try first | rw [if_pos hc4n] | rw [if_neg hc4n] | rw [if_neg (not_not_intro hc4n)]); (try first | rw [if_pos hc5n] | rw [if_neg hc5n] | rw [if_neg (not_not_intro hc5n)]); (try first | rw [if_pos hc6n] | rw [if_neg hc6n] | rw [if_neg (not_not_intro hc6n)]); (try first | rw [if_pos hc7n] | rw [if_neg hc7n] | rw [if_neg (not_not_intro hc7n)]); (try first | rw [if_pos hc8] | rw [if_neg hc8] | rw [if_neg (not_not_intro hc8)]); (try first | rw [if_pos hc9] | rw [if_neg hc9] | rw [if_neg (not_not_intro hc9)]); (try rw [tN_nI (by omega)]); first | done | rfl) hR
      · refine g_iconst (v := 1) hX (dk DX12_of_0 46 rfl) (by decide) ?_
        refine g_goto (tgt := 139) hX (dk DX12_of_0 47 rfl) (by decide) ?_
        refine g_ireturn hX (dk DX12_of_0 49 rfl) rfl (rfl) (by decide) (by decide) ?_
        exact qS_of hM hl (by unfold ofS; (try rw [tN_nI (by omega)]); (try first | rw [if_pos hc1] | rw [if_neg hc1] | rw [if_neg (not_not_intro hc1)]); (try first | rw [if_pos hc2n] | rw [if_neg hc2n] | rw [if_neg (not_not_intro hc2n)]); (try first | rw [if_pos hc3n] | rw [if_neg hc3n] | rw [if_neg (not_not_intro hc3n)]); (try first | rw [if_pos hc4n] | rw [if_neg hc4n] | rw [if_neg (not_not_intro hc4n)]); (try first | rw [if_pos hc5n] | rw [if_neg hc5n] | rw [if_neg (not_not_intro hc5n)]); (try first | rw [if_pos hc6n] | rw [if_neg hc6n] | rw [if_neg (not_not_intro hc6n)]); (try first | rw [if_pos hc7n] | rw [if_neg hc7n] | rw [if_neg (not_not_intro hc7n)]); (try first | rw [if_pos hc8] | rw [if_neg hc8] | rw [if_neg (not_not_intro hc8)]); (try first | rw [if_pos hc9] | rw [if_neg hc9] | rw [if_neg (not_not_intro hc9)]); (try rw [tN_nI (by omega)]); first | done | rfl) hR
    refine ⟨fun hc10 => ?_, fun hc10n => ?_⟩
    · show GG _ _ _ _ _ _ _ _ _ _ _ _ _
      refine g_aload_0 hX (dk DX12_of_0 50 rfl) ?_
      refine g_aload_0 hX (dk DX12_of_0 51 rfl) ?_
      refine g_getIv hX (dk DX12_of_0 52 rfl) KX12 fX12_25 (by decide) rfl (MLt hM (by decide)) (MC hM) (RM.f hR 5 (by decide) (by decide)) ?_
      refine g_iload_1 hX (dk DX12_of_0 53 rfl) ?_
      refine g_c3I hX sX12_of_146 (by decide) (Nat.le_of_ble_eq_true rfl) (rc0 rfl (MLt hM (by decide)) (MC hM)) (by decide) (by decide) (c_X12_has hG ) ?_
      refine g_ifb_eq (tgt := 156) hX (dk DX12_of_0 55 rfl) (by decide) (fun hc11 => ?_) (fun hc11 => ?_)
      · refine g_iconst (v := 0) hX (dk DX12_of_0 58 rfl) (by decide) ?_
        refine g_ireturn hX (dk DX12_of_0 59 rfl) rfl (rfl) (by decide) (by decide) ?_
        exact qS_of hM hl (by unfold ofS; (try rw [tN_nI (by omega)]); (try first | rw [if_pos hc1] | rw [if_neg hc1] | rw [if_neg (not_not_intro hc1)]); (try first | rw [if_pos hc2n] | rw [if_neg hc2n] | rw [if_neg (not_not_intro hc2n)]); (try first | rw [if_pos hc3n] | rw [if_neg hc3n] | rw [if_neg (not_not_intro hc3n)]); (try first | rw [if_pos hc4n] | rw [if_neg hc4n] | rw [if_neg (not_not_intro hc4n)]); (try first | rw [if_pos hc5n] | rw [if_neg hc5n] | rw [if_neg (not_not_intro hc5n)]); (try first | rw [if_pos hc6n] | rw [if_neg hc6n] | rw [if_neg (not_not_intro hc6n)]); (try first | rw [if_pos hc7n] | rw [if_neg hc7n] | rw [if_neg (not_not_intro hc7n)]); (try first | rw [if_pos hc8n] | rw [if_neg hc8n] | rw [if_neg (not_not_intro hc8n)]); (try first | rw [if_pos hc10] | rw [if_neg hc10] | rw [if_neg (not_not_intro hc10)]); (try first | rw [if_pos hc11] | rw [if_neg hc11] | rw [if_neg (not_not_intro hc11)]); (try rw [tN_nI (by omega)]); first | done | rfl) hR
      · refine g_iconst (v := 1) hX (dk DX12_of_0 56 rfl) (by decide) ?_
        refine g_goto (tgt := 157) hX (dk DX12_of_0 57 rfl) (by decide) ?_
        refine g_ireturn hX (dk DX12_of_0 59 rfl) rfl (rfl) (by decide) (by decide) ?_
        exact qS_of hM hl (by unfold ofS; (try rw [tN_nI (by omega)]); (try first | rw [if_pos hc1] | rw [if_neg hc1] | rw [if_neg (not_not_intro hc1)]); (try first | rw [if_pos hc2n] | rw [if_neg hc2n] | rw [if_neg (not_not_intro hc2n)]); (try first | rw [if_pos hc3n] | rw [if_neg hc3n] | rw [if_neg (not_not_intro hc3n)]); (try first | rw [if_pos hc4n] | rw [if_neg hc4n] | rw [if_neg (not_not_intro hc4n)]); (try first | rw [if_pos hc5n] | rw [if_neg hc5n] | rw [if_neg (not_not_intro hc5n)]); (try first | rw [if_pos hc6n] | rw [if_neg hc6n] | rw [if_neg (not_not_intro hc6n)]); (try first | rw [if_pos hc7n] | rw [if_neg hc7n] | rw [if_neg (not_not_intro hc7n)]); (try first | rw [if_pos hc8n] | rw [if_neg hc8n] | rw [if_neg (not_not_intro hc8n)]); (try first | rw [if_pos hc10] | rw [if_neg hc10] | rw [if_neg (not_not_intro hc10)]); (try first | rw [if_pos hc11] | rw [if_neg hc11] | rw [if_neg (not_not_intro hc11)]); (try rw [tN_nI (by omega)]); first | done | rfl) hR
    refine ⟨fun hc12 => ?_, fun hc12n => ?_⟩
    · show GG _ _ _ _ _ _ _ _ _ _ _ _ _
      refine g_aload_0 hX (dk DX12_of_1 0 rfl) ?_
      refine g_iload_1 hX (dk DX12_of_1 1 rfl) ?_
      refine g_c2I hX sX12_of_160 (by decide) (Nat.le_of_ble_eq_true rfl) (rc0 rfl (MLt hM (by decide)) (MC hM)) (by decide) (by decide) (cE_saidOf hG hM hE hR hd hS) ?_
      refine g_ireturn hX (dk DX12_of_1 3 rfl) rfl (rfl) (by decide) (by decide) ?_
      exact qS_of hM hl (by unfold ofS; (try rw [tN_nI (by omega)]); (try first | rw [if_pos hc1] | rw [if_neg hc1] | rw [if_neg (not_not_intro hc1)]); (try first | rw [if_pos hc2n] | rw [if_neg hc2n] | rw [if_neg (not_not_intro hc2n)]); (try first | rw [if_pos hc3n] | rw [if_neg hc3n] | rw [if_neg (not_not_intro hc3n)]); (try first | rw [if_pos hc4n] | rw [if_neg hc4n] | rw [if_neg (not_not_intro hc4n)]); (try first | rw [if_pos hc5n] | rw [if_neg hc5n] | rw [if_neg (not_not_intro hc5n)]); (try first | rw [if_pos hc6n] | rw [if_neg hc6n] | rw [if_neg (not_not_intro hc6n)]); (try first | rw [if_pos hc7n] | rw [if_neg hc7n] | rw [if_neg (not_not_intro hc7n)]); (try first | rw [if_pos hc8n] | rw [if_neg hc8n] | rw [if_neg (not_not_intro hc8n)]); (try first | rw [if_pos hc10n] | rw [if_neg hc10n] | rw [if_neg (not_not_intro hc10n)]); (try first | rw [if_pos hc12] | rw [if_neg hc12] | rw [if_neg (not_not_intro hc12)]); (try rw [tN_nI (by omega)]); first | done | rfl) hR
    refine ⟨fun hc13 => ?_, fun hc13n => ?_⟩
    · show GG _ _ _ _ _ _ _ _ _ _ _ _ _
      refine g_aload_0 hX (dk DX12_of_1 4 rfl) ?_
      refine g_iload_1 hX (dk DX12_of_1 5 rfl) ?_
      refine g_c2I hX sX12_of_166 (by decide) (Nat.le_of_ble_eq_true rfl) (rc0 rfl (MLt hM (by decide)) (MC hM)) (by decide) (by decide) (cE_saidOf hG hM hE hR hd hS) ?_
      refine g_aload_0 hX (dk DX12_of_1 7 rfl) ?_
      refine g_getRs (r := 6) hX (dk DX12_of_1 8 rfl) KX12 fX12_47 (by decide) rfl (MLt hM (by decide)) (MC hM) (MR hM 12 (by decide) rfl) ?_
      refine g_iload_1 hX (dk DX12_of_1 9 rfl) ?_
      refine v_iaload hX (dk DX12_of_1 10 rfl) (MLt hM (q := 6) (by decide)) (MS hM 6 (by decide) rfl) (⟨rfl, hd10, by decide⟩) (RM.c1 hR 6 _ (by decide) (by decide)) ?_
      refine g_icmp_lt (tgt := 182) hX (dk DX12_of_1 11 rfl) (by decide) (fun hc14 => ?_) (fun hc14 => ?_)
      · refine g_iconst (v := 0) hX (dk DX12_of_1 14 rfl) (by decide) ?_
        refine g_ireturn hX (dk DX12_of_1 15 rfl) rfl (rfl) (by decide) (by decide) ?_
        exact qS_of hM hl (by unfold ofS; (try rw [tN_nI (by omega)]); (try first | rw [if_pos hc1] | rw [if_neg hc1] | rw [if_neg (not_not_intro hc1)]); (try first | rw [if_pos hc2n] | rw [if_neg hc2n] | rw [if_neg (not_not_intro hc2n)]); (try first | rw [if_pos hc3n] | rw [if_neg hc3n] | rw [if_neg (not_not_intro hc3n)]); (try first | rw [if_pos hc4n] | rw [if_neg hc4n] | rw [if_neg (not_not_intro hc4n)]); (try first | rw [if_pos hc5n] | rw [if_neg hc5n] | rw [if_neg (not_not_intro hc5n)]); (try first | rw [if_pos hc6n] | rw [if_neg hc6n] | rw [if_neg (not_not_intro hc6n)]); (try first | rw [if_pos hc7n] | rw [if_neg hc7n] | rw [if_neg (not_not_intro hc7n)]); (try first | rw [if_pos hc8n] | rw [if_neg hc8n] | rw [if_neg (not_not_intro hc8n)]); (try first | rw [if_pos hc10n] | rw [if_neg hc10n] | rw [if_neg (not_not_intro hc10n)]); (try first | rw [if_pos hc12n] | rw [if_neg hc12n] | rw [if_neg (not_not_intro hc12n)]); (try first | rw [if_pos hc13] | rw [if_neg hc13] | rw [if_neg (not_not_intro hc13)]); (try first | rw [if_pos hc14] | rw [if_neg hc14] | rw [if_neg (not_not_intro hc14)]); (try rw [tN_nI (by omega)]); first | done | rfl) hR
      · refine g_iconst (v := 1) hX (dk DX12_of_1 12 rfl) (by decide) ?_
        refine g_goto (tgt := 183) hX (dk DX12_of_1 13 rfl) (by decide) ?_
        refine g_ireturn hX (dk DX12_of_1 15 rfl) rfl (rfl) (by decide) (by decide) ?_
        exact qS_of hM hl (by unfold ofS; (try rw [tN_nI (by omega)]); (try first | rw [if_pos hc1] | rw [if_neg hc1] | rw [if_neg (not_not_intro hc1)]); (try first | rw [if_pos hc2n] | rw [if_neg hc2n] | rw [if_neg (not_not_intro hc2n)]); (try first | rw [if_pos hc3n] | rw [if_neg hc3n] | rw [if_neg (not_not_intro hc3n)]); (try first | rw [if_pos hc4n] | rw [if_neg hc4n] | rw [if_neg (not_not_intro hc4n)]); (try first | rw [if_pos hc5n] | rw [if_neg hc5n] | rw [if_neg (not_not_intro hc5n)]); (try first | rw [if_pos hc6n] | rw [if_neg hc6n] | rw [if_neg (not_not_intro hc6n)]); (try first | rw [if_pos hc7n] | rw [if_neg hc7n] | rw [if_neg (not_not_intro hc7n)]); (try first | rw [if_pos hc8n] | rw [if_neg hc8n] | rw [if_neg (not_not_intro hc8n)]); (try first | rw [if_pos hc10n] | rw [if_neg hc10n] | rw [if_neg (not_not_intro hc10n)]); (try first | rw [if_pos hc12n] | rw [if_neg hc12n] | rw [if_neg (not_not_intro hc12n)]); (try first | rw [if_pos hc13] | rw [if_neg hc13] | rw [if_neg (not_not_intro hc13)]); (try first | rw [if_pos hc14] | rw [if_neg hc14] | rw [if_neg (not_not_intro hc14)]); (try rw [tN_nI (by omega)]); first | done | rfl) hR
    refine ⟨fun hc15 => ?_, fun hc15n => ?_⟩
    · show GG _ _ _ _ _ _ _ _ _ _ _ _ _
      refine g_aload_0 hX (dk DX12_of_1 16 rfl) ?_
      refine g_iload_1 hX (dk DX12_of_1 17 rfl) ?_
      refine g_aload_0 hX (dk DX12_of_1 18 rfl) ?_
      refine g_getIv hX (dk DX12_of_1 19 rfl) KX12 fX12_13 (by decide) rfl (MLt hM (by decide)) (MC hM) (RM.f hR 1 (by decide) (by decide)) ?_
      refine g_c3q hX sX12_of_190 (by decide) (Nat.le_of_ble_eq_true rfl) (rc0 rfl (MLt hM (by decide)) (MC hM)) (by decide) (by decide) (c_X12_dear hG hM hE (Ag.of hR (by decide) (by decide)) hd10) ?_
      rintro _ J3 _ ⟨rfl, hfr, rfl⟩
      have hR := RM.keep hR hfr (by decide) (by decide) (by decide)
      refine g_ireturn hX (dk DX12_of_1 21 rfl) rfl (rfl) (by decide) (by decide) ?_
      exact qS_of hM hl (by unfold ofS; (try rw [tN_nI (by omega)]); (try first | rw [if_pos hc1] | rw [if_neg hc1] | rw [if_neg (not_not_intro hc1)]); (try first | rw [if_pos hc2n] | rw [if_neg hc2n] | rw [if_neg (not_not_intro hc2n)]); (try first | rw [if_pos hc3n] | rw [if_neg hc3n] | rw [if_neg (not_not_intro hc3n)]); (try first | rw [if_pos hc4n] | rw [if_neg hc4n] | rw [if_neg (not_not_intro hc4n)]); (try first | rw [if_pos hc5n] | rw [if_neg hc5n] | rw [if_neg (not_not_intro hc5n)]); (try first | rw [if_pos hc6n] | rw [if_neg hc6n] | rw [if_neg (not_not_intro hc6n)]); (try first | rw [if_pos hc7n] | rw [if_neg hc7n] | rw [if_neg (not_not_intro hc7n)]); (try first | rw [if_pos hc8n] | rw [if_neg hc8n] | rw [if_neg (not_not_intro hc8n)]); (try first | rw [if_pos hc10n] | rw [if_neg hc10n] | rw [if_neg (not_not_intro hc10n)]); (try first | rw [if_pos hc12n] | rw [if_neg hc12n] | rw [if_neg (not_not_intro hc12n)]); (try first | rw [if_pos hc13n] | rw [if_neg hc13n] | rw [if_neg (not_not_intro hc13n)]); (try first | rw [if_pos hc15] | rw [if_neg hc15] | rw [if_neg (not_not_intro hc15)]); (try rw [tN_nI (by omega)]); first | done | rfl) hR
    refine ⟨fun hc16 => ?_, fun hc16n => ?_⟩
    · show GG _ _ _ _ _ _ _ _ _ _ _ _ _
      refine g_aload_0 hX (dk DX12_of_1 22 rfl) ?_
      refine g_getRs (r := 7) hX (dk DX12_of_1 23 rfl) KX12 fX12_50 (by decide) rfl (MLt hM (by decide)) (MC hM) (MR hM 13 (by decide) rfl) ?_
      refine g_iload_1 hX (dk DX12_of_1 24 rfl) ?_
      refine v_iaload hX (dk DX12_of_1 25 rfl) (MLt hM (q := 7) (by decide)) (MS hM 7 (by decide) rfl) (⟨rfl, hd10, by decide⟩) (RM.c1 hR 7 _ (by decide) (by decide)) ?_
      refine g_ireturn hX (dk DX12_of_1 26 rfl) rfl (rfl) (by decide) (by decide) ?_
      exact qS_of hM hl (by unfold ofS; (try rw [tN_nI (by omega)]); (try first | rw [if_pos hc1] | rw [if_neg hc1] | rw [if_neg (not_not_intro hc1)]); (try first | rw [if_pos hc2n] | rw [if_neg hc2n] | rw [if_neg (not_not_intro hc2n)]); (try first | rw [if_pos hc3n] | rw [if_neg hc3n] | rw [if_neg (not_not_intro hc3n)]); (try first | rw [if_pos hc4n] | rw [if_neg hc4n] | rw [if_neg (not_not_intro hc4n)]); (try first | rw [if_pos hc5n] | rw [if_neg hc5n] | rw [if_neg (not_not_intro hc5n)]); (try first | rw [if_pos hc6n] | rw [if_neg hc6n] | rw [if_neg (not_not_intro hc6n)]); (try first | rw [if_pos hc7n] | rw [if_neg hc7n] | rw [if_neg (not_not_intro hc7n)]); (try first | rw [if_pos hc8n] | rw [if_neg hc8n] | rw [if_neg (not_not_intro hc8n)]); (try first | rw [if_pos hc10n] | rw [if_neg hc10n] | rw [if_neg (not_not_intro hc10n)]); (try first | rw [if_pos hc12n] | rw [if_neg hc12n] | rw [if_neg (not_not_intro hc12n)]); (try first | rw [if_pos hc13n] | rw [if_neg hc13n] | rw [if_neg (not_not_intro hc13n)]); (try first | rw [if_pos hc15n] | rw [if_neg hc15n] | rw [if_neg (not_not_intro hc15n)]); (try first | rw [if_pos hc16] | rw [if_neg hc16] | rw [if_neg (not_not_intro hc16)]); (try rw [tN_nI (by omega)]); first | done | rfl) hR
    show GG _ _ _ _ _ _ _ _ _ _ _ _ _
    refine g_sipush (v := -10001) hX (dk DX12_of_1 27 rfl) (by decide) ?_
    refine g_ireturn hX (dk DX12_of_1 28 rfl) rfl (rfl) (by decide) (by decide) ?_
    exact qS_of hM hl (by unfold ofS; (try rw [tN_nI (by omega)]); (try first | rw [if_pos hc1] | rw [if_neg hc1] | rw [if_neg (not_not_intro hc1)]); (try first | rw [if_pos hc2n] | rw [if_neg hc2n] | rw [if_neg (not_not_intro hc2n)]); (try first | rw [if_pos hc3n] | rw [if_neg hc3n] | rw [if_neg (not_not_intro hc3n)]); (try first | rw [if_pos hc4n] | rw [if_neg hc4n] | rw [if_neg (not_not_intro hc4n)]); (try first | rw [if_pos hc5n] | rw [if_neg hc5n] | rw [if_neg (not_not_intro hc5n)]); (try first | rw [if_pos hc6n] | rw [if_neg hc6n] | rw [if_neg (not_not_intro hc6n)]); (try first | rw [if_pos hc7n] | rw [if_neg hc7n] | rw [if_neg (not_not_intro hc7n)]); (try first | rw [if_pos hc8n] | rw [if_neg hc8n] | rw [if_neg (not_not_intro hc8n)]); (try first | rw [if_pos hc10n] | rw [if_neg hc10n] | rw [if_neg (not_not_intro hc10n)]); (try first | rw [if_pos hc12n] | rw [if_neg hc12n] | rw [if_neg (not_not_intro hc12n)]); (try first | rw [if_pos hc13n] | rw [if_neg hc13n] | rw [if_neg (not_not_intro hc13n)]); (try first | rw [if_pos hc15n] | rw [if_neg hc15n] | rw [if_neg (not_not_intro hc15n)]); (try first | rw [if_pos hc16n] | rw [if_neg hc16n] | rw [if_neg (not_not_intro hc16n)]); (try rw [tN_nI (by omega)]); first | done | rfl) hR
  · refine g_sipush (v := -10001) hX (dk DX12_of_0 4 rfl) (by decide) ?_
    refine g_ireturn hX (dk DX12_of_0 5 rfl) rfl (rfl) (by decide) (by decide) ?_
    exact qS_of hM hl (by unfold ofS; (try rw [tN_nI (by omega)]); (try first | rw [if_pos hc1] | rw [if_neg hc1] | rw [if_neg (not_not_intro hc1)]); (try rw [tN_nI (by omega)]); first | done | rfl) hR

set_option maxRecDepth 8000 in
set_option maxHeartbeats 4000000 in
theorem c_X12_said {G : Gt} (hG : Gok G) {I : It} {h : Ht} (hM : HM h) {E : It} (hE : Inv E) (hR : RM E I) {L : Nat → Int64} (hl : hL h 38 = L) {a y : Int32} : Con G (4) 0 0 mX12_said [.ref 0, .int a, .int y] I h (qS (saidS E a y) L) := by
  refine con_intro (own := RX12) (lo0 := [some (.ref 0), some (.int a), some (.int y)]) hG rfl pl_X12 (Nat.le_of_ble_eq_true rfl) rfl (fun X hX => ?_)
  refine g_aload_0 hX (dk DX12_said 0 rfl) ?_
  refine g_iload_1 hX (dk DX12_said 1 rfl) ?_
  refine g_c2I hX sX12_said_2 (by decide) (Nat.le_of_ble_eq_true rfl) (rc0 rfl (MLt hM (by decide)) (MC hM)) (by decide) (by decide) (cE_isDoing hG hM (RM.f hR 0 (by decide) (by decide))) ?_
  refine g_ifb_eq (tgt := 27) hX (dk DX12_said 3 rfl) (by decide) (fun hc1 => ?_) (fun hc1 => ?_)
  · refine g_iconst (v := -1) hX (dk DX12_said 15 rfl) (by decide) ?_
    refine g_ireturn hX (dk DX12_said 16 rfl) rfl (rfl) (by decide) (by decide) ?_
    exact qS_of hM hl (by unfold saidS; (try rw [tN_nI (by omega)]); (try first | rw [if_pos hc1] | rw [if_neg hc1] | rw [if_neg (not_not_intro hc1)]); (try rw [tN_nI (by omega)]); first | done | rfl) hR
  · refine g_aload_0 hX (dk DX12_said 4 rfl) ?_
    refine g_iload_2 hX (dk DX12_said 5 rfl) ?_
    refine g_c2I hX sX12_said_10 (by decide) (Nat.le_of_ble_eq_true rfl) (rc0 rfl (MLt hM (by decide)) (MC hM)) (by decide) (by decide) (c_X12_isWay hG hM) ?_
    refine g_ifb_eq (tgt := 27) hX (dk DX12_said 7 rfl) (by decide) (fun hc2 => ?_) (fun hc2 => ?_)
    · refine g_iconst (v := -1) hX (dk DX12_said 15 rfl) (by decide) ?_
      refine g_ireturn hX (dk DX12_said 16 rfl) rfl (rfl) (by decide) (by decide) ?_
      exact qS_of hM hl (by unfold saidS; (try rw [tN_nI (by omega)]); (try first | rw [if_pos hc1] | rw [if_neg hc1] | rw [if_neg (not_not_intro hc1)]); (try first | rw [if_pos hc2] | rw [if_neg hc2] | rw [if_neg (not_not_intro hc2)]); (try rw [tN_nI (by omega)]); first | done | rfl) hR
    · obtain ⟨d, hd, rfl⟩ := isD_of hE hc1
      have hd10 := Nat.lt_of_lt_of_le hd (inv_cnt hE).2
      refine g_aload_0 hX (dk DX12_said 8 rfl) ?_
      refine g_iconst (v := 0) hX (dk DX12_said 9 rfl) (by decide) ?_
      refine g_iload_1 hX (dk DX12_said 10 rfl) ?_
      refine g_iload_2 hX (dk DX12_said 11 rfl) ?_
      refine g_iconst (v := 0) hX (dk DX12_said 12 rfl) (by decide) ?_
      refine g_c5q hX sX12_said_21 (by decide) (Nat.le_of_ble_eq_true rfl) (rc0 rfl (MLt hM (by decide)) (MC hM)) (by decide) (by decide) (c_X12_sumOf hG hM hE (Ag.of hR (by decide) (by decide)) hd10 (Or.inl rfl)) ?_
      rintro _ J3 _ ⟨rfl, hfr, rfl⟩
      have hR := RM.keep hR hfr (by decide) (by decide) (by decide)
      refine g_goto (tgt := 28) hX (dk DX12_said 14 rfl) (by decide) ?_
      refine g_ireturn hX (dk DX12_said 16 rfl) rfl (rfl) (by decide) (by decide) ?_
      exact qS_of hM hl (by unfold saidS; (try rw [tN_nI (by omega)]); (try first | rw [if_pos hc1] | rw [if_neg hc1] | rw [if_neg (not_not_intro hc1)]); (try first | rw [if_pos hc2] | rw [if_neg hc2] | rw [if_neg (not_not_intro hc2)]); (try rw [tN_nI (by omega)]); first | done | rfl) hR

set_option maxRecDepth 8000 in
set_option maxHeartbeats 4000000 in
theorem c_X12_hand {G : Gt} (hG : Gok G) {I : It} {h : Ht} (hM : HM h) {E : It} (hE : Inv E) (hR : RM E I) {L : Nat → Int64} (hl : hL h 38 = L)  : Con G (5) 0 0 mX12_hand [.ref 0] I h (qS (handS E) L) := by
  refine con_intro (own := RX12) (lo0 := [some (.ref 0), none]) hG rfl pl_X12 (Nat.le_of_ble_eq_true rfl) rfl (fun X hX => ?_)
  refine g_aload_0 hX (dk DX12_hand 0 rfl) ?_
  refine g_c1v hX sX12_hand_1 (by decide) (Nat.le_of_ble_eq_true rfl) (rc0 rfl (MLt hM (by decide)) (MC hM)) (by decide) (by decide) (c_X12_laySaid hG hM hE (Ag.of hR (by decide) (by decide))) ?_
  rintro J2 _ ⟨hS, hfr, rfl⟩
  have hR := RM.keep hR hfr (by decide) (by decide) (by decide)
  refine g_aload_0 hX (dk DX12_hand 2 rfl) ?_
  refine g_aload_0 hX (dk DX12_hand 3 rfl) ?_
  refine g_getIv hX (dk DX12_hand 4 rfl) KX12 fX12_25 (by decide) rfl (MLt hM (by decide)) (MC hM) (RM.f hR 5 (by decide) (by decide)) ?_
  refine g_c2I hX sX12_hand_9 (by decide) (Nat.le_of_ble_eq_true rfl) (rc0 rfl (MLt hM (by decide)) (MC hM)) (by decide) (by decide) (cE_ones hG (inv_kn hE) (inv_cnt hE).2) ?_
  refine g_istore_1 hX (dk DX12_hand 6 rfl) (by decide) rfl ?_
  refine g_aload_0 hX (dk DX12_hand 7 rfl) ?_
  refine g_dup hX (dk DX12_hand 8 rfl) rfl ?_
  refine g_getIv hX (dk DX12_hand 9 rfl) KX12 fX12_25 (by decide) rfl (MLt hM (by decide)) (MC hM) (RM.f hR 5 (by decide) (by decide)) ?_
  refine g_aload_0 hX (dk DX12_hand 10 rfl) ?_
  refine g_c1I hX sX12_hand_19 (by decide) (Nat.le_of_ble_eq_true rfl) (rc0 rfl (MLt hM (by decide)) (MC hM)) (by decide) (by decide) (cE_over hG hM hE hR hS) ?_
  refine g_ior hX (dk DX12_hand 12 rfl) ?_
  refine g_putI hX (dk DX12_hand 13 rfl) KX12 fX12_25 (by decide) rfl (MLt hM (by decide)) (MC hM) (Or.inl rfl) (rfl) (rfl) ?_
  refine g_aload_0 hX (dk DX12_hand 14 rfl) ?_
  refine g_aload_0 hX (dk DX12_hand 15 rfl) ?_
  refine g_getIv hX (dk DX12_hand 16 rfl) KX12 fX12_25 (by decide) rfl (MLt hM (by decide)) (MC hM) (up0 _ _ _ _) ?_
  refine g_c2I hX sX12_hand_31 (by decide) (Nat.le_of_ble_eq_true rfl) (rc0 rfl (MLt hM (by decide)) (MC hM)) (by decide) (by decide) (cE_ones hG (kb_or (inv_kn hE) (kb_over _ (inv_cnt hE).2)) (inv_cnt hE).2) ?_
  refine g_iload_1 hX (dk DX12_hand 18 rfl) ?_
  refine g_isub hX (dk DX12_hand 19 rfl) ?_
  refine g_ireturn hX (dk DX12_hand 20 rfl) rfl (rfl) (by decide) (by decide) ?_
  exact qS_of hM hl rfl (RM.upf hR (by decide))

set_option maxRecDepth 8000 in
set_option maxHeartbeats 4000000 in
theorem c_X12_go {G : Gt} (hG : Gok G) {I : It} {h : Ht} (hM : HM h) {E : It} (hE : Inv E) (hR : RM E I) {L : Nat → Int64} (hl : hL h 38 = L) {n : Int32} : Con G (7) 0 0 mX12_go [.ref 0, .int n] I h (qS (goS E n) L) := by
  refine con_intro (own := RX12) (lo0 := [some (.ref 0), some (.int n)]) hG rfl pl_X12 (Nat.le_of_ble_eq_true rfl) rfl (fun X hX => ?_)
  refine g_aload_0 hX (dk DX12_go 0 rfl) ?_
  refine g_iload_1 hX (dk DX12_go 1 rfl) ?_
  refine g_iconst (v := 1) hX (dk DX12_go 2 rfl) (by decide) ?_
  refine g_bipush (v := 60) hX (dk DX12_go 3 rfl) (by decide) ?_
  refine g_c4I hX sX12_go_5 (by decide) (Nat.le_of_ble_eq_true rfl) (rc0 rfl (MLt hM (by decide)) (MC hM)) (by decide) (by decide) (c_X12_in hG ) ?_
  refine g_ifb_ne (tgt := 14) hX (dk DX12_go 5 rfl) (by decide) (fun hc1 => ?_) (fun hc1 => ?_)
  · obtain ⟨m, hm1, hm2, rfl⟩ := in1_of (c := 1) (b := 60) (by decide) (by decide) hc1
    refine g_aload_0 hX (dk DX12_go 8 rfl) ?_
    refine g_getIv hX (dk DX12_go 9 rfl) KX12 fX12_13 (by decide) rfl (MLt hM (by decide)) (MC hM) (RM.f hR 1 (by decide) (by decide)) ?_
    refine g_iload_1 hX (dk DX12_go 10 rfl) ?_
    refine g_iadd hX (dk DX12_go 11 rfl) ?_
    refine g_sipush (v := 9999) hX (dk DX12_go 12 rfl) (by decide) ?_
    refine g_icmp_le (tgt := 29) hX (dk DX12_go 13 rfl) (by decide) (fun hc2 => ?_) (fun hc2 => ?_)
    · refine g_aload_0 hX (dk DX12_go 16 rfl) ?_
      refine g_aload_0 hX (dk DX12_go 17 rfl) ?_
      refine g_getIv hX (dk DX12_go 18 rfl) KX12 fX12_25 (by decide) rfl (MLt hM (by decide)) (MC hM) (RM.f hR 5 (by decide) (by decide)) ?_
      refine g_aload_0 hX (dk DX12_go 19 rfl) ?_
      refine g_getIv hX (dk DX12_go 20 rfl) KX12 fX12_28 (by decide) rfl (MLt hM (by decide)) (MC hM) (RM.f hR 6 (by decide) (by decide)) ?_
      refine g_c3v hX sX12_go_38 (by decide) (Nat.le_of_ble_eq_true rfl) (rc0 rfl (MLt hM (by decide)) (MC hM)) (by decide) (by decide) (c_X12_begins hG hM) ?_
      rintro J1 _ ⟨hT, hfr, rfl⟩
      have hR := RM.keep hR hfr (by decide) (by decide) (by decide)
      refine g_aload_0 hX (dk DX12_go 22 rfl) ?_
      refine g_iload_1 hX (dk DX12_go 23 rfl) ?_
      refine g_c2v hX sX12_go_43 (by decide) (Nat.le_of_ble_eq_true rfl) (rc0 rfl (MLt hM (by decide)) (MC hM)) (by decide) (by decide) (c_X12_goWeeks hG hM hE (Ag.of hR (by decide) (by decide)) (by omega) hT) ?_
      rintro J2 _ ⟨hT, hfr, rfl⟩
      have hT := TS.all hT
      have hR := RM.keep hR hfr (by decide) (by decide) (by decide)
      refine g_aload_0 hX (dk DX12_go 25 rfl) ?_
      refine g_dup hX (dk DX12_go 26 rfl) rfl ?_
      refine g_getIv hX (dk DX12_go 27 rfl) KX12 fX12_13 (by decide) rfl (MLt hM (by decide)) (MC hM) (RM.f hR 1 (by decide) (by decide)) ?_
      refine g_iload_1 hX (dk DX12_go 28 rfl) ?_
      refine g_iadd hX (dk DX12_go 29 rfl) ?_
      refine g_putI hX (dk DX12_go 30 rfl) KX12 fX12_13 (by decide) rfl (MLt hM (by decide)) (MC hM) (Or.inl rfl) (rfl) (rfl) ?_
      refine g_aload_0 hX (dk DX12_go 31 rfl) ?_
      refine g_aload_0 hX (dk DX12_go 32 rfl) ?_
      refine g_getIv hX (dk DX12_go 33 rfl) KX12 fX12_114 (by decide) rfl (MLt hM (by decide)) (MC hM) (hT.1) ?_
      refine g_putI hX (dk DX12_go 34 rfl) KX12 fX12_25 (by decide) rfl (MLt hM (by decide)) (MC hM) (Or.inl rfl) (rfl) (rfl) ?_
      refine g_aload_0 hX (dk DX12_go 35 rfl) ?_
      refine g_dup hX (dk DX12_go 36 rfl) rfl ?_
      refine g_getIv hX (dk DX12_go 37 rfl) KX12 fX12_16 (by decide) rfl (MLt hM (by decide)) (MC hM) (RM.f hR 2 (by decide) (by decide)) ?_
      refine g_aload_0 hX (dk DX12_go 38 rfl) ?_
      refine g_getIv hX (dk DX12_go 39 rfl) KX12 fX12_120 (by decide) rfl (MLt hM (by decide)) (MC hM) (hT.2.2.1) ?_
      refine g_iadd hX (dk DX12_go 40 rfl) ?_
      refine g_putI hX (dk DX12_go 41 rfl) KX12 fX12_16 (by decide) rfl (MLt hM (by decide)) (MC hM) (Or.inl rfl) (rfl) (rfl) ?_
      refine g_aload_0 hX (dk DX12_go 42 rfl) ?_
      refine g_dup hX (dk DX12_go 43 rfl) rfl ?_
      refine g_getIv hX (dk DX12_go 44 rfl) KX12 fX12_19 (by decide) rfl (MLt hM (by decide)) (MC hM) (RM.f hR 3 (by decide) (by decide)) ?_
      refine g_aload_0 hX (dk DX12_go 45 rfl) ?_
      refine g_getIv hX (dk DX12_go 46 rfl) KX12 fX12_123 (by decide) rfl (MLt hM (by decide)) (MC hM) (hT.2.2.2.1) ?_
      refine g_iadd hX (dk DX12_go 47 rfl) ?_
      refine g_putI hX (dk DX12_go 48 rfl) KX12 fX12_19 (by decide) rfl (MLt hM (by decide)) (MC hM) (Or.inl rfl) (rfl) (rfl) ?_
      refine g_aload_0 hX (dk DX12_go 49 rfl) ?_
      refine g_dup hX (dk DX12_go 50 rfl) rfl ?_
      refine g_getIv hX (dk DX12_go 51 rfl) KX12 fX12_22 (by decide) rfl (MLt hM (by decide)) (MC hM) (RM.f hR 4 (by decide) (by decide)) ?_
      refine g_aload_0 hX (dk DX12_go 52 rfl) ?_
      refine g_getIv hX (dk DX12_go 53 rfl) KX12 fX12_126 (by decide) rfl (MLt hM (by decide)) (MC hM) (hT.2.2.2.2.1) ?_
      refine g_iadd hX (dk DX12_go 54 rfl) ?_
      refine g_putI hX (dk DX12_go 55 rfl) KX12 fX12_22 (by decide) rfl (MLt hM (by decide)) (MC hM) (Or.inl rfl) (rfl) (rfl) ?_
      refine g_aload_0 hX (dk DX12_go 56 rfl) ?_
      refine g_getIv hX (dk DX12_go 57 rfl) KX12 fX12_13 (by decide) rfl (MLt hM (by decide)) (MC hM) ((show _ = E 0 1 + nI m from rfl)) ?_
      refine g_ireturn hX (dk DX12_go 58 rfl) rfl (rfl) (by decide) (by decide) ?_
      exact qS_of hM hl (by unfold goS; (try first | rw [if_pos hc1] | rw [if_neg hc1] | rw [if_neg (not_not_intro hc1)]); (try first | rw [if_pos hc2] | rw [if_neg hc2] | rw [if_neg (not_not_intro hc2)]); rw [tN_nI (by omega)]; rfl) (RM.upf (RM.upf (RM.upf (RM.upf (RM.upf hR (by decide)) (by decide)) (by decide)) (by decide)) (by decide))
    · refine g_bipush (v := -3) hX (dk DX12_go 14 rfl) (by decide) ?_
      refine g_ireturn hX (dk DX12_go 15 rfl) rfl (rfl) (by decide) (by decide) ?_
      exact qS_of hM hl (by unfold goS; (try first | rw [if_pos hc1] | rw [if_neg hc1] | rw [if_neg (not_not_intro hc1)]); (try first | rw [if_pos hc2] | rw [if_neg hc2] | rw [if_neg (not_not_intro hc2)]); first | done | rfl) hR
  · refine g_bipush (v := -2) hX (dk DX12_go 6 rfl) (by decide) ?_
    refine g_ireturn hX (dk DX12_go 7 rfl) rfl (rfl) (by decide) (by decide) ?_
    exact qS_of hM hl (by unfold goS; (try first | rw [if_pos hc1] | rw [if_neg hc1] | rw [if_neg (not_not_intro hc1)]); first | done | rfl) hR

set_option maxRecDepth 8000 in
set_option maxHeartbeats 4000000 in
theorem c_X12_run {G : Gt} (hG : Gok G) {I : It} {h : Ht} (hM : HM h) {E : It} (hE : Inv E) (hR : RM E I) {L : Nat → Int64} (hl : hL h 38 = L) {n w : Int32} : Con G (7) 0 0 mX12_run [.ref 0, .int n, .int w] I h (qS (runS E n w) L) := by
  refine con_intro (own := RX12) (lo0 := [some (.ref 0), some (.int n), some (.int w)]) hG rfl pl_X12 (Nat.le_of_ble_eq_true rfl) rfl (fun X hX => ?_)
  refine g_aload_0 hX (dk DX12_run 0 rfl) ?_
  refine g_iload_2 hX (dk DX12_run 1 rfl) ?_
  refine g_iconst (v := 0) hX (dk DX12_run 2 rfl) (by decide) ?_
  refine g_iconst (v := 5) hX (dk DX12_run 3 rfl) (by decide) ?_
  refine g_c4I hX sX12_run_4 (by decide) (Nat.le_of_ble_eq_true rfl) (rc0 rfl (MLt hM (by decide)) (MC hM)) (by decide) (by decide) (c_X12_in hG ) ?_
  refine g_ifb_ne (tgt := 14) hX (dk DX12_run 5 rfl) (by decide) (fun hc1 => ?_) (fun hc1 => ?_)
  · refine g_aload_0 hX (dk DX12_run 8 rfl) ?_
    refine g_iload_1 hX (dk DX12_run 9 rfl) ?_
    refine g_iconst (v := 0) hX (dk DX12_run 10 rfl) (by decide) ?_
    refine g_sipush (v := 200) hX (dk DX12_run 11 rfl) (by decide) ?_
    refine g_c4I hX sX12_run_20 (by decide) (Nat.le_of_ble_eq_true rfl) (rc0 rfl (MLt hM (by decide)) (MC hM)) (by decide) (by decide) (c_X12_in hG ) ?_
    refine g_ifb_ne (tgt := 30) hX (dk DX12_run 13 rfl) (by decide) (fun hc2 => ?_) (fun hc2 => ?_)
    · obtain ⟨m, hm2, rfl⟩ := in_of (b := 200) (by decide) hc2
      refine g_aload_0 hX (dk DX12_run 16 rfl) ?_
      refine g_aload_0 hX (dk DX12_run 17 rfl) ?_
      refine g_getIv hX (dk DX12_run 18 rfl) KX12 fX12_25 (by decide) rfl (MLt hM (by decide)) (MC hM) (RM.f hR 5 (by decide) (by decide)) ?_
      refine g_aload_0 hX (dk DX12_run 19 rfl) ?_
      refine g_getIv hX (dk DX12_run 20 rfl) KX12 fX12_28 (by decide) rfl (MLt hM (by decide)) (MC hM) (RM.f hR 6 (by decide) (by decide)) ?_
      refine g_c3v hX sX12_run_39 (by decide) (Nat.le_of_ble_eq_true rfl) (rc0 rfl (MLt hM (by decide)) (MC hM)) (by decide) (by decide) (c_X12_begins hG hM) ?_
      rintro J1 _ ⟨hT, hfr, rfl⟩
      have hR := RM.keep hR hfr (by decide) (by decide) (by decide)
      refine g_aload_0 hX (dk DX12_run 22 rfl) ?_
      refine g_iload_1 hX (dk DX12_run 23 rfl) ?_
      refine g_c2v hX sX12_run_44 (by decide) (Nat.le_of_ble_eq_true rfl) (rc0 rfl (MLt hM (by decide)) (MC hM)) (by decide) (by decide) (c_X12_goWeeks hG hM hE (Ag.of hR (by decide) (by decide)) (by omega) hT) ?_
      rintro J2 _ ⟨hT, hfr, rfl⟩
      have hT := TS.all hT
      have hR := RM.keep hR hfr (by decide) (by decide) (by decide)
      refine g_iload_2 hX (dk DX12_run 25 rfl) ?_
      refine g_tswitch (dt := 113) hX [(0, 84), (1, 89), (2, 94), (3, 99), (4, 108)] (dk DX12_run 26 rfl) (by decide +kernel) ?_
      refine ⟨fun hc3 => ?_, fun hc3n => ?_⟩
      · show GG _ _ _ _ _ _ _ _ _ _ _ _ _
        refine g_aload_0 hX (dk DX12_run 27 rfl) ?_
        refine g_getIv hX (dk DX12_run 28 rfl) KX12 fX12_120 (by decide) rfl (MLt hM (by decide)) (MC hM) (hT.2.2.1) ?_
        refine g_ireturn hX (dk DX12_run 29 rfl) rfl (rfl) (by decide) (by decide) ?_
        exact qS_of hM hl (by unfold runS; (try rw [tN_nI (by omega)]); (try first | rw [if_pos hc1] | rw [if_neg hc1] | rw [if_neg (not_not_intro hc1)]); (try first | rw [if_pos hc2] | rw [if_neg hc2] | rw [if_neg (not_not_intro hc2)]); (try first | rw [if_pos hc3] | rw [if_neg hc3] | rw [if_neg (not_not_intro hc3)]); (try rw [tN_nI (by omega)]); first | done | rfl) hR
      refine ⟨fun hc4 => ?_, fun hc4n => ?_⟩
      · show GG _ _ _ _ _ _ _ _ _ _ _ _ _
        refine g_aload_0 hX (dk DX12_run 30 rfl) ?_
        refine g_getIv hX (dk DX12_run 31 rfl) KX12 fX12_123 (by decide) rfl (MLt hM (by decide)) (MC hM) (hT.2.2.2.1) ?_
        refine g_ireturn hX (dk DX12_run 32 rfl) rfl (rfl) (by decide) (by decide) ?_
        exact qS_of hM hl (by unfold runS; (try rw [tN_nI (by omega)]); (try first | rw [if_pos hc1] | rw [if_neg hc1] | rw [if_neg (not_not_intro hc1)]); (try first | rw [if_pos hc2] | rw [if_neg hc2] | rw [if_neg (not_not_intro hc2)]); (try first | rw [if_pos hc3n] | rw [if_neg hc3n] | rw [if_neg (not_not_intro hc3n)]); (try first | rw [if_pos hc4] | rw [if_neg hc4] | rw [if_neg (not_not_intro hc4)]); (try rw [tN_nI (by omega)]); first | done | rfl) hR
      refine ⟨fun hc5 => ?_, fun hc5n => ?_⟩
      · show GG _ _ _ _ _ _ _ _ _ _ _ _ _
        refine g_aload_0 hX (dk DX12_run 33 rfl) ?_
        refine g_getIv hX (dk DX12_run 34 rfl) KX12 fX12_126 (by decide) rfl (MLt hM (by decide)) (MC hM) (hT.2.2.2.2.1) ?_
        refine g_ireturn hX (dk DX12_run 35 rfl) rfl (rfl) (by decide) (by decide) ?_
        exact qS_of hM hl (by unfold runS; (try rw [tN_nI (by omega)]); (try first | rw [if_pos hc1] | rw [if_neg hc1] | rw [if_neg (not_not_intro hc1)]); (try first | rw [if_pos hc2] | rw [if_neg hc2] | rw [if_neg (not_not_intro hc2)]); (try first | rw [if_pos hc3n] | rw [if_neg hc3n] | rw [if_neg (not_not_intro hc3n)]); (try first | rw [if_pos hc4n] | rw [if_neg hc4n] | rw [if_neg (not_not_intro hc4n)]); (try first | rw [if_pos hc5] | rw [if_neg hc5] | rw [if_neg (not_not_intro hc5)]); (try rw [tN_nI (by omega)]); first | done | rfl) hR
      refine ⟨fun hc6 => ?_, fun hc6n => ?_⟩
      · show GG _ _ _ _ _ _ _ _ _ _ _ _ _
        refine g_aload_0 hX (dk DX12_run 36 rfl) ?_
        refine g_aload_0 hX (dk DX12_run 37 rfl) ?_
        refine g_getIv hX (dk DX12_run 38 rfl) KX12 fX12_114 (by decide) rfl (MLt hM (by decide)) (MC hM) (hT.1) ?_
        refine g_c2I hX sX12_run_104 (by decide) (Nat.le_of_ble_eq_true rfl) (rc0 rfl (MLt hM (by decide)) (MC hM)) (by decide) (by decide) (cE_ones hG (kb_run hE (inv_kn hE)) (inv_cnt hE).2) ?_
        refine g_ireturn hX (dk DX12_run 40 rfl) rfl (rfl) (by decide) (by decide) ?_
        exact qS_of hM hl (by unfold runS; (try rw [tN_nI (by omega)]); (try first | rw [if_pos hc1] | rw [if_neg hc1] | rw [if_neg (not_not_intro hc1)]); (try first | rw [if_pos hc2] | rw [if_neg hc2] | rw [if_neg (not_not_intro hc2)]); (try first | rw [if_pos hc3n] | rw [if_neg hc3n] | rw [if_neg (not_not_intro hc3n)]); (try first | rw [if_pos hc4n] | rw [if_neg hc4n] | rw [if_neg (not_not_intro hc4n)]); (try first | rw [if_pos hc5n] | rw [if_neg hc5n] | rw [if_neg (not_not_intro hc5n)]); (try first | rw [if_pos hc6] | rw [if_neg hc6] | rw [if_neg (not_not_intro hc6)]); (try rw [tN_nI (by omega)]); first | done | rfl) hR
      refine ⟨fun hc7 => ?_, fun hc7n => ?_⟩
      · show GG _ _ _ _ _ _ _ _ _ _ _ _ _
        refine g_aload_0 hX (dk DX12_run 41 rfl) ?_
        refine g_getIv hX (dk DX12_run 42 rfl) KX12 fX12_129 (by decide) rfl (MLt hM (by decide)) (MC hM) (hT.2.2.2.2.2.1) ?_
        refine g_ireturn hX (dk DX12_run 43 rfl) rfl (rfl) (by decide) (by decide) ?_
        exact qS_of hM hl (by unfold runS; (try rw [tN_nI (by omega)]); (try first | rw [if_pos hc1] | rw [if_neg hc1] | rw [if_neg (not_not_intro hc1)]); (try first | rw [if_pos hc2] | rw [if_neg hc2] | rw [if_neg (not_not_intro hc2)]); (try first | rw [if_pos hc3n] | rw [if_neg hc3n] | rw [if_neg (not_not_intro hc3n)]); (try first | rw [if_pos hc4n] | rw [if_neg hc4n] | rw [if_neg (not_not_intro hc4n)]); (try first | rw [if_pos hc5n] | rw [if_neg hc5n] | rw [if_neg (not_not_intro hc5n)]); (try first | rw [if_pos hc6n] | rw [if_neg hc6n] | rw [if_neg (not_not_intro hc6n)]); (try first | rw [if_pos hc7] | rw [if_neg hc7] | rw [if_neg (not_not_intro hc7)]); (try rw [tN_nI (by omega)]); first | done | rfl) hR
      show GG _ _ _ _ _ _ _ _ _ _ _ _ _
      refine g_aload_0 hX (dk DX12_run 44 rfl) ?_
      refine g_getIv hX (dk DX12_run 45 rfl) KX12 fX12_132 (by decide) rfl (MLt hM (by decide)) (MC hM) (hT.2.2.2.2.2.2) ?_
      refine g_ireturn hX (dk DX12_run 46 rfl) rfl (rfl) (by decide) (by decide) ?_
      exact qS_of hM hl (by unfold runS; (try rw [tN_nI (by omega)]); (try first | rw [if_pos hc1] | rw [if_neg hc1] | rw [if_neg (not_not_intro hc1)]); (try first | rw [if_pos hc2] | rw [if_neg hc2] | rw [if_neg (not_not_intro hc2)]); (try first | rw [if_pos hc3n] | rw [if_neg hc3n] | rw [if_neg (not_not_intro hc3n)]); (try first | rw [if_pos hc4n] | rw [if_neg hc4n] | rw [if_neg (not_not_intro hc4n)]); (try first | rw [if_pos hc5n] | rw [if_neg hc5n] | rw [if_neg (not_not_intro hc5n)]); (try first | rw [if_pos hc6n] | rw [if_neg hc6n] | rw [if_neg (not_not_intro hc6n)]); (try first | rw [if_pos hc7n] | rw [if_neg hc7n] | rw [if_neg (not_not_intro hc7n)]); (try rw [tN_nI (by omega)]); first | done | rfl) hR
    · refine g_sipush (v := -10002) hX (dk DX12_run 14 rfl) (by decide) ?_
      refine g_ireturn hX (dk DX12_run 15 rfl) rfl (rfl) (by decide) (by decide) ?_
      exact qS_of hM hl (by unfold runS; (try rw [tN_nI (by omega)]); (try first | rw [if_pos hc1] | rw [if_neg hc1] | rw [if_neg (not_not_intro hc1)]); (try first | rw [if_pos hc2] | rw [if_neg hc2] | rw [if_neg (not_not_intro hc2)]); (try rw [tN_nI (by omega)]); first | done | rfl) hR
  · refine g_sipush (v := -10001) hX (dk DX12_run 6 rfl) (by decide) ?_
    refine g_ireturn hX (dk DX12_run 7 rfl) rfl (rfl) (by decide) (by decide) ?_
    exact qS_of hM hl (by unfold runS; (try rw [tN_nI (by omega)]); (try first | rw [if_pos hc1] | rw [if_neg hc1] | rw [if_neg (not_not_intro hc1)]); (try rw [tN_nI (by omega)]); first | done | rfl) hR

