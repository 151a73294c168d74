section
def needlessS (E : It) (a z : Int32) : Int32 × It := if ¬ isD E a then (-1, E) else if hasI (E 0 6) a = 1 then (1, upI E 0 6 (withI (E 0 6) a z)) else (0, upI E 0 6 (withI (E 0 6) a z))
def learnS (E : It) (a z : Int32) : Int32 × It := if ¬ isD E a then (-1, E) else if hasI (E 0 5) a = 1 then (1, upI E 0 5 (withI (E 0 5) a z)) else (0, upI E 0 5 (withI (E 0 5) a z))
def oddsS (E : It) (a n : Int32) : Int32 × It := if ¬ isD E a then (-1, E) else if ¬ (0 ≤ n ∧ n ≤ 10) then (-2, E) else (E 7 (tN a), upI E 7 (tN a) n)
def hoursS (E : It) (a n : Int32) : Int32 × It := if ¬ (0 ≤ a ∧ a ≤ 3) then (-1, E) else if ¬ (0 ≤ n ∧ n ≤ 9) then (-2, E) else (E 8 (tN a), upI E 8 (tN a) n)
def feedS (E : It) (s : Int32) : Int32 × It := if ¬ (0 ≤ s ∧ s ≤ 127) then (-2, E) else if E 0 17 = 100 then (-4, E) else (E 0 17 + 1, upI (upI E 9 (tN (E 0 17)) s) 0 17 (E 0 17 + 1))
set_option maxRecDepth 8000 in
set_option maxHeartbeats 4000000 in
theorem c_X12_needless {G : Gt} (hG : Gok G) {I : It} {h : Ht} (hM : HM h) {E : It} (hE : Inv E) (hR : RM E I) {L : Nat → Int64} (hl : hL h 38 = L) {a z : Int32} : Con G (3) 0 0 mX12_needless [.ref 0, .int a, .int z] I h (qS (needlessS E a z) L) := by
  refine con_intro (own := RX12) (lo0 := [some (.ref 0), some (.int a), some (.int z), none]) hG rfl pl_X12 (Nat.le_of_ble_eq_true rfl) rfl (fun X hX => ?_)
  refine g_aload_0 hX (dk DX12_needless 0 rfl) ?_
  refine g_iload_1 hX (dk DX12_needless 1 rfl) ?_
  refine g_c2I hX sX12_needless_2 (by decide) (Nat.le_of_ble_eq_true rfl) (rc0 rfl (MLt hM (by decide)) (MC hM)) (by decide) (by decide) (cE_isDoing hG hM (RM.f hR 0 (by decide) (by decide))) ?_
  refine g_ifb_ne (tgt := 10) hX (dk DX12_needless 3 rfl) (by decide) (fun hc1 => ?_) (fun hc1 => ?_)
  · refine g_aload_0 hX (dk DX12_needless 6 rfl) ?_
    refine g_aload_0 hX (dk DX12_needless 7 rfl) ?_
    refine g_getIv hX (dk DX12_needless 8 rfl) KX12 fX12_28 (by decide) rfl (MLt hM (by decide)) (MC hM) (RM.f hR 6 (by decide) (by decide)) ?_
    refine g_iload_1 hX (dk DX12_needless 9 rfl) ?_
    refine g_c3I hX sX12_needless_16 (by decide) (Nat.le_of_ble_eq_true rfl) (rc0 rfl (MLt hM (by decide)) (MC hM)) (by decide) (by decide) (c_X12_has hG ) ?_
    refine g_ifb_eq (tgt := 26) hX (dk DX12_needless 11 rfl) (by decide) (fun hc2 => ?_) (fun hc2 => ?_)
    · refine g_iconst (v := 0) hX (dk DX12_needless 14 rfl) (by decide) ?_
      refine g_istore_3 hX (dk DX12_needless 15 rfl) (by decide) rfl ?_
      refine g_aload_0 hX (dk DX12_needless 16 rfl) ?_
      refine g_aload_0 hX (dk DX12_needless 17 rfl) ?_
      refine g_aload_0 hX (dk DX12_needless 18 rfl) ?_
      refine g_getIv hX (dk DX12_needless 19 rfl) KX12 fX12_28 (by decide) rfl (MLt hM (by decide)) (MC hM) (RM.f hR 6 (by decide) (by decide)) ?_
      refine g_iload_1 hX (dk DX12_needless 20 rfl) ?_
      refine g_iload_2 hX (dk DX12_needless 21 rfl) ?_
      refine g_c4I hX sX12_needless_36 (by decide) (Nat.le_of_ble_eq_true rfl) (rc0 rfl (MLt hM (by decide)) (MC hM)) (by decide) (by decide) (c_X12_with hG ) ?_
      refine g_putI hX (dk DX12_needless 23 rfl) KX12 fX12_28 (by decide) rfl (MLt hM (by decide)) (MC hM) (Or.inl rfl) (rfl) (rfl) ?_
      refine g_iload_3 hX (dk DX12_needless 24 rfl) ?_
      refine g_ireturn hX (dk DX12_needless 25 rfl) rfl (rfl) (by decide) (by decide) ?_
      exact qS_of hM hl (by unfold needlessS; (try first | rw [if_pos hc1] | rw [if_neg hc1] | rw [if_neg (not_not_intro hc1)]); (try first | rw [if_pos hc2] | rw [if_neg hc2] | rw [if_neg (not_not_intro hc2)]); first | done | rfl) (RM.upf hR (by decide))
    · refine g_iconst (v := 1) hX (dk DX12_needless 12 rfl) (by decide) ?_
      refine g_goto (tgt := 27) hX (dk DX12_needless 13 rfl) (by decide) ?_
      refine g_istore_3 hX (dk DX12_needless 15 rfl) (by decide) rfl ?_
      refine g_aload_0 hX (dk DX12_needless 16 rfl) ?_
      refine g_aload_0 hX (dk DX12_needless 17 rfl) ?_
      refine g_aload_0 hX (dk DX12_needless 18 rfl) ?_
      refine g_getIv hX (dk DX12_needless 19 rfl) KX12 fX12_28 (by decide) rfl (MLt hM (by decide)) (MC hM) (RM.f hR 6 (by decide) (by decide)) ?_
      refine g_iload_1 hX (dk DX12_needless 20 rfl) ?_
      refine g_iload_2 hX (dk DX12_needless 21 rfl) ?_
      refine g_c4I hX sX12_needless_36 (by decide) (Nat.le_of_ble_eq_true rfl) (rc0 rfl (MLt hM (by decide)) (MC hM)) (by decide) (by decide) (c_X12_with hG ) ?_
      refine g_putI hX (dk DX12_needless 23 rfl) KX12 fX12_28 (by decide) rfl (MLt hM (by decide)) (MC hM) (Or.inl rfl) (rfl) (rfl) ?_
      refine g_iload_3 hX (dk DX12_needless 24 rfl) ?_
      refine g_ireturn hX (dk DX12_needless 25 rfl) rfl (rfl) (by decide) (by decide) ?_
      exact qS_of hM hl (by unfold needlessS; (try first | rw [if_pos hc1] | rw [if_neg hc1] | rw [if_neg (not_not_intro hc1)]); (try first | rw [if_pos hc2] | rw [if_neg hc2] | rw [if_neg (not_not_intro hc2)]); first | done | rfl) (RM.upf hR (by decide))
  · refine g_iconst (v := -1) hX (dk DX12_needless 4 rfl) (by decide) ?_
    refine g_ireturn hX (dk DX12_needless 5 rfl) rfl (rfl) (by decide) (by decide) ?_
    exact qS_of hM hl (by unfold needlessS; (try first | rw [if_pos hc1] | rw [if_neg hc1] | rw [if_neg (not_not_intro hc1)]); first | done | rfl) hR

set_option maxRecDepth 8000 in
set_option maxHeartbeats 4000000 in
theorem c_X12_learn {G : Gt} (hG : Gok G) {I : It} {h : Ht} (hM : HM h) {E : It} (hE : Inv E) (hR : RM E I) {L : Nat → Int64} (hl : hL h 38 = L) {a z : Int32} : Con G (3) 0 0 mX12_learn [.ref 0, .int a, .int z] I h (qS (learnS E a z) L) := by
  refine con_intro (own := RX12) (lo0 := [some (.ref 0), some (.int a), some (.int z), none]) hG rfl pl_X12 (Nat.le_of_ble_eq_true rfl) rfl (fun X hX => ?_)
  refine g_aload_0 hX (dk DX12_learn 0 rfl) ?_
  refine g_iload_1 hX (dk DX12_learn 1 rfl) ?_
  refine g_c2I hX sX12_learn_2 (by decide) (Nat.le_of_ble_eq_true rfl) (rc0 rfl (MLt hM (by decide)) (MC hM)) (by decide) (by decide) (cE_isDoing hG hM (RM.f hR 0 (by decide) (by decide))) ?_
  refine g_ifb_ne (tgt := 10) hX (dk DX12_learn 3 rfl) (by decide) (fun hc1 => ?_) (fun hc1 => ?_)
  · refine g_aload_0 hX (dk DX12_learn 6 rfl) ?_
    refine g_aload_0 hX (dk DX12_learn 7 rfl) ?_
    refine g_getIv hX (dk DX12_learn 8 rfl) KX12 fX12_25 (by decide) rfl (MLt hM (by decide)) (MC hM) (RM.f hR 5 (by decide) (by decide)) ?_
    refine g_iload_1 hX (dk DX12_learn 9 rfl) ?_
    refine g_c3I hX sX12_learn_16 (by decide) (Nat.le_of_ble_eq_true rfl) (rc0 rfl (MLt hM (by decide)) (MC hM)) (by decide) (by decide) (c_X12_has hG ) ?_
    refine g_ifb_eq (tgt := 26) hX (dk DX12_learn 11 rfl) (by decide) (fun hc2 => ?_) (fun hc2 => ?_)
    · refine g_iconst (v := 0) hX (dk DX12_learn 14 rfl) (by decide) ?_
      refine g_istore_3 hX (dk DX12_learn 15 rfl) (by decide) rfl ?_
      refine g_aload_0 hX (dk DX12_learn 16 rfl) ?_
      refine g_aload_0 hX (dk DX12_learn 17 rfl) ?_
      refine g_aload_0 hX (dk DX12_learn 18 rfl) ?_
      refine g_getIv hX (dk DX12_learn 19 rfl) KX12 fX12_25 (by decide) rfl (MLt hM (by decide)) (MC hM) (RM.f hR 5 (by decide) (by decide)) ?_
      refine g_iload_1 hX (dk DX12_learn 20 rfl) ?_
      refine g_iload_2 hX (dk DX12_learn 21 rfl) ?_
      refine g_c4I hX sX12_learn_36 (by decide) (Nat.le_of_ble_eq_true rfl) (rc0 rfl (MLt hM (by decide)) (MC hM)) (by decide) (by decide) (c_X12_with hG ) ?_
      refine g_putI hX (dk DX12_learn 23 rfl) KX12 fX12_25 (by decide) rfl (MLt hM (by decide)) (MC hM) (Or.inl rfl) (rfl) (rfl) ?_
      refine g_iload_3 hX (dk DX12_learn 24 rfl) ?_
      refine g_ireturn hX (dk DX12_learn 25 rfl) rfl (rfl) (by decide) (by decide) ?_
      exact qS_of hM hl (by unfold learnS; (try first | rw [if_pos hc1] | rw [if_neg hc1] | rw [if_neg (not_not_intro hc1)]); (try first | rw [if_pos hc2] | rw [if_neg hc2] | rw [if_neg (not_not_intro hc2)]); first | done | rfl) (RM.upf hR (by decide))
    · refine g_iconst (v := 1) hX (dk DX12_learn 12 rfl) (by decide) ?_
      refine g_goto (tgt := 27) hX (dk DX12_learn 13 rfl) (by decide) ?_
      refine g_istore_3 hX (dk DX12_learn 15 rfl) (by decide) rfl ?_
      refine g_aload_0 hX (dk DX12_learn 16 rfl) ?_
      refine g_aload_0 hX (dk DX12_learn 17 rfl) ?_
      refine g_aload_0 hX (dk DX12_learn 18 rfl) ?_
      refine g_getIv hX (dk DX12_learn 19 rfl) KX12 fX12_25 (by decide) rfl (MLt hM (by decide)) (MC hM) (RM.f hR 5 (by decide) (by decide)) ?_
      refine g_iload_1 hX (dk DX12_learn 20 rfl) ?_
      refine g_iload_2 hX (dk DX12_learn 21 rfl) ?_
      refine g_c4I hX sX12_learn_36 (by decide) (Nat.le_of_ble_eq_true rfl) (rc0 rfl (MLt hM (by decide)) (MC hM)) (by decide) (by decide) (c_X12_with hG ) ?_
      refine g_putI hX (dk DX12_learn 23 rfl) KX12 fX12_25 (by decide) rfl (MLt hM (by decide)) (MC hM) (Or.inl rfl) (rfl) (rfl) ?_
      refine g_iload_3 hX (dk DX12_learn 24 rfl) ?_
      refine g_ireturn hX (dk DX12_learn 25 rfl) rfl (rfl) (by decide) (by decide) ?_
      exact qS_of hM hl (by unfold learnS; (try first | rw [if_pos hc1] | rw [if_neg hc1] | rw [if_neg (not_not_intro hc1)]); (try first | rw [if_pos hc2] | rw [if_neg hc2] | rw [if_neg (not_not_intro hc2)]); first | done | rfl) (RM.upf hR (by decide))
  · refine g_iconst (v := -1) hX (dk DX12_learn 4 rfl) (by decide) ?_
    refine g_ireturn hX (dk DX12_learn 5 rfl) rfl (rfl) (by decide) (by decide) ?_
    exact qS_of hM hl (by unfold learnS; (try first | rw [if_pos hc1] | rw [if_neg hc1] | rw [if_neg (not_not_intro hc1)]); first | done | rfl) hR

set_option maxRecDepth 8000 in
set_option maxHeartbeats 4000000 in
theorem c_X12_odds {G : Gt} (hG : Gok G) {I : It} {h : Ht} (hM : HM h) {E : It} (hE : Inv E) (hR : RM E I) {L : Nat → Int64} (hl : hL h 38 = L) {a n : Int32} : Con G (3) 0 0 mX12_odds [.ref 0, .int a, .int n] I h (qS (oddsS E a n) L) := by
  refine con_intro (own := RX12) (lo0 := [some (.ref 0), some (.int a), some (.int n), none]) hG rfl pl_X12 (Nat.le_of_ble_eq_true rfl) rfl (fun X hX => ?_)
  refine g_aload_0 hX (dk DX12_odds 0 rfl) ?_
  refine g_iload_1 hX (dk DX12_odds 1 rfl) ?_
  refine g_c2I hX sX12_odds_2 (by decide) (Nat.le_of_ble_eq_true rfl) (rc0 rfl (MLt hM (by decide)) (MC hM)) (by decide) (by decide) (cE_isDoing hG hM (RM.f hR 0 (by decide) (by decide))) ?_
  refine g_ifb_ne (tgt := 10) hX (dk DX12_odds 3 rfl) (by decide) (fun hc1 => ?_) (fun hc1 => ?_)
  · obtain ⟨d, hd, rfl⟩ := isD_of hE hc1
    have hd10 := Nat.lt_of_lt_of_le hd (inv_cnt hE).2
    refine g_aload_0 hX (dk DX12_odds 6 rfl) ?_
    refine g_iload_2 hX (dk DX12_odds 7 rfl) ?_
    refine g_iconst (v := 0) hX (dk DX12_odds 8 rfl) (by decide) ?_
    refine g_bipush (v := 10) hX (dk DX12_odds 9 rfl) (by decide) ?_
    refine g_c4I hX sX12_odds_15 (by decide) (Nat.le_of_ble_eq_true rfl) (rc0 rfl (MLt hM (by decide)) (MC hM)) (by decide) (by decide) (c_X12_in hG ) ?_
    refine g_ifb_ne (tgt := 24) hX (dk DX12_odds 11 rfl) (by decide) (fun hc2 => ?_) (fun hc2 => ?_)
    · refine g_aload_0 hX (dk DX12_odds 14 rfl) ?_
      refine g_getRs (r := 7) hX (dk DX12_odds 15 rfl) KX12 fX12_50 (by decide) rfl (MLt hM (by decide)) (MC hM) (MR hM 13 (by decide) rfl) ?_
      refine g_iload_1 hX (dk DX12_odds 16 rfl) ?_
      refine v_iaload hX (dk DX12_odds 17 rfl) (MLt hM (q := 7) (by decide)) (MS hM 7 (by decide) rfl) (⟨rfl, hd10, by decide⟩) (RM.c1 hR 7 _ (by decide) (by decide)) ?_
      refine g_istore_3 hX (dk DX12_odds 18 rfl) (by decide) rfl ?_
      refine g_aload_0 hX (dk DX12_odds 19 rfl) ?_
      refine g_getRs (r := 7) hX (dk DX12_odds 20 rfl) KX12 fX12_50 (by decide) rfl (MLt hM (by decide)) (MC hM) (MR hM 13 (by decide) rfl) ?_
      refine g_iload_1 hX (dk DX12_odds 21 rfl) ?_
      refine g_iload_2 hX (dk DX12_odds 22 rfl) ?_
      refine i_iastore hX (dk DX12_odds 23 rfl) (MLt hM (q := 7) (by decide)) (MS hM 7 (by decide) rfl) (⟨rfl, hd10, by decide⟩) ?_
      refine g_iload_3 hX (dk DX12_odds 24 rfl) ?_
      refine g_ireturn hX (dk DX12_odds 25 rfl) rfl (rfl) (by decide) (by decide) ?_
      exact qS_of hM hl (by unfold oddsS; (try first | rw [if_pos hc1] | rw [if_neg hc1] | rw [if_neg (not_not_intro hc1)]); (try first | rw [if_pos hc2] | rw [if_neg hc2] | rw [if_neg (not_not_intro hc2)]); rw [tN_nI (by omega)]) (RM.upc hR (by decide))
    · refine g_bipush (v := -2) hX (dk DX12_odds 12 rfl) (by decide) ?_
      refine g_ireturn hX (dk DX12_odds 13 rfl) rfl (rfl) (by decide) (by decide) ?_
      exact qS_of hM hl (by unfold oddsS; (try first | rw [if_pos hc1] | rw [if_neg hc1] | rw [if_neg (not_not_intro hc1)]); (try first | rw [if_pos hc2] | rw [if_neg hc2] | rw [if_neg (not_not_intro hc2)]); first | done | rfl) hR
  · refine g_iconst (v := -1) hX (dk DX12_odds 4 rfl) (by decide) ?_
    refine g_ireturn hX (dk DX12_odds 5 rfl) rfl (rfl) (by decide) (by decide) ?_
    exact qS_of hM hl (by unfold oddsS; (try first | rw [if_pos hc1] | rw [if_neg hc1] | rw [if_neg (not_not_intro hc1)]); first | done | rfl) hR

set_option maxRecDepth 8000 in
set_option maxHeartbeats 4000000 in
theorem c_X12_hours {G : Gt} (hG : Gok G) {I : It} {h : Ht} (hM : HM h) {E : It} (hE : Inv E) (hR : RM E I) {L : Nat → Int64} (hl : hL h 38 = L) {a n : Int32} : Con G (3) 0 0 mX12_hours [.ref 0, .int a, .int n] I h (qS (hoursS E a n) L) := by
  refine con_intro (own := RX12) (lo0 := [some (.ref 0), some (.int a), some (.int n), none]) hG rfl pl_X12 (Nat.le_of_ble_eq_true rfl) rfl (fun X hX => ?_)
  refine g_aload_0 hX (dk DX12_hours 0 rfl) ?_
  refine g_iload_1 hX (dk DX12_hours 1 rfl) ?_
  refine g_c2I hX sX12_hours_2 (by decide) (Nat.le_of_ble_eq_true rfl) (rc0 rfl (MLt hM (by decide)) (MC hM)) (by decide) (by decide) (c_X12_isWay hG hM) ?_
  refine g_ifb_ne (tgt := 10) hX (dk DX12_hours 3 rfl) (by decide) (fun hc1 => ?_) (fun hc1 => ?_)
  · obtain ⟨y, hy, rfl⟩ := in_of (b := 3) (by decide) hc1
    refine g_aload_0 hX (dk DX12_hours 6 rfl) ?_
    refine g_iload_2 hX (dk DX12_hours 7 rfl) ?_
    refine g_iconst (v := 0) hX (dk DX12_hours 8 rfl) (by decide) ?_
    refine g_bipush (v := 9) hX (dk DX12_hours 9 rfl) (by decide) ?_
    refine g_c4I hX sX12_hours_15 (by decide) (Nat.le_of_ble_eq_true rfl) (rc0 rfl (MLt hM (by decide)) (MC hM)) (by decide) (by decide) (c_X12_in hG ) ?_
    refine g_ifb_ne (tgt := 24) hX (dk DX12_hours 11 rfl) (by decide) (fun hc2 => ?_) (fun hc2 => ?_)
    · refine g_aload_0 hX (dk DX12_hours 14 rfl) ?_
      refine g_getRs (r := 8) hX (dk DX12_hours 15 rfl) KX12 fX12_53 (by decide) rfl (MLt hM (by decide)) (MC hM) (MR hM 14 (by decide) rfl) ?_
      refine g_iload_1 hX (dk DX12_hours 16 rfl) ?_
      refine v_iaload hX (dk DX12_hours 17 rfl) (MLt hM (q := 8) (by decide)) (MS hM 8 (by decide) rfl) (⟨rfl, by omega, by decide⟩) (RM.c1 hR 8 _ (by decide) (by decide)) ?_
      refine g_istore_3 hX (dk DX12_hours 18 rfl) (by decide) rfl ?_
      refine g_aload_0 hX (dk DX12_hours 19 rfl) ?_
      refine g_getRs (r := 8) hX (dk DX12_hours 20 rfl) KX12 fX12_53 (by decide) rfl (MLt hM (by decide)) (MC hM) (MR hM 14 (by decide) rfl) ?_
      refine g_iload_1 hX (dk DX12_hours 21 rfl) ?_
      refine g_iload_2 hX (dk DX12_hours 22 rfl) ?_
      refine i_iastore hX (dk DX12_hours 23 rfl) (MLt hM (q := 8) (by decide)) (MS hM 8 (by decide) rfl) (⟨rfl, by omega, by decide⟩) ?_
      refine g_iload_3 hX (dk DX12_hours 24 rfl) ?_
      refine g_ireturn hX (dk DX12_hours 25 rfl) rfl (rfl) (by decide) (by decide) ?_
      exact qS_of hM hl (by unfold hoursS; (try first | rw [if_pos hc1] | rw [if_neg hc1] | rw [if_neg (not_not_intro hc1)]); (try first | rw [if_pos hc2] | rw [if_neg hc2] | rw [if_neg (not_not_intro hc2)]); rw [tN_nI (by omega)]) (RM.upc hR (by decide))
    · refine g_bipush (v := -2) hX (dk DX12_hours 12 rfl) (by decide) ?_
      refine g_ireturn hX (dk DX12_hours 13 rfl) rfl (rfl) (by decide) (by decide) ?_
      exact qS_of hM hl (by unfold hoursS; (try first | rw [if_pos hc1] | rw [if_neg hc1] | rw [if_neg (not_not_intro hc1)]); (try first | rw [if_pos hc2] | rw [if_neg hc2] | rw [if_neg (not_not_intro hc2)]); first | done | rfl) hR
  · refine g_iconst (v := -1) hX (dk DX12_hours 4 rfl) (by decide) ?_
    refine g_ireturn hX (dk DX12_hours 5 rfl) rfl (rfl) (by decide) (by decide) ?_
    exact qS_of hM hl (by unfold hoursS; (try first | rw [if_pos hc1] | rw [if_neg hc1] | rw [if_neg (not_not_intro hc1)]); first | done | rfl) hR

set_option maxRecDepth 8000 in
set_option maxHeartbeats 4000000 in
theorem c_X12_feed {G : Gt} (hG : Gok G) {I : It} {h : Ht} (hM : HM h) {E : It} (hE : Inv E) (hR : RM E I) {L : Nat → Int64} (hl : hL h 38 = L) {s : Int32} : Con G (2) 0 0 mX12_feed [.ref 0, .int s] I h (qS (feedS E s) L) := by
  refine con_intro (own := RX12) (lo0 := [some (.ref 0), some (.int s)]) hG rfl pl_X12 (Nat.le_of_ble_eq_true rfl) rfl (fun X hX => ?_)
  refine g_aload_0 hX (dk DX12_feed 0 rfl) ?_
  refine g_iload_1 hX (dk DX12_feed 1 rfl) ?_
  refine g_iconst (v := 0) hX (dk DX12_feed 2 rfl) (by decide) ?_
  refine g_bipush (v := 127) hX (dk DX12_feed 3 rfl) (by decide) ?_
  refine g_c4I hX sX12_feed_5 (by decide) (Nat.le_of_ble_eq_true rfl) (rc0 rfl (MLt hM (by decide)) (MC hM)) (by decide) (by decide) (c_X12_in hG ) ?_
  refine g_ifb_ne (tgt := 14) hX (dk DX12_feed 5 rfl) (by decide) (fun hc1 => ?_) (fun hc1 => ?_)
  · refine g_aload_0 hX (dk DX12_feed 8 rfl) ?_
    refine g_getIv hX (dk DX12_feed 9 rfl) KX12 fX12_62 (by decide) rfl (MLt hM (by decide)) (MC hM) (RM.f hR 17 (by decide) (by decide)) ?_
    refine g_bipush (v := 100) hX (dk DX12_feed 10 rfl) (by decide) ?_
    refine g_icmp_ne (tgt := 26) hX (dk DX12_feed 11 rfl) (by decide) (fun hc2 => ?_) (fun hc2 => ?_)
    · have hf := fed_ix hE hc2
      refine g_aload_0 hX (dk DX12_feed 14 rfl) ?_
      refine g_getRs (r := 9) hX (dk DX12_feed 15 rfl) KX12 fX12_71 (by decide) rfl (MLt hM (by decide)) (MC hM) (MR hM 20 (by decide) rfl) ?_
      refine g_aload_0 hX (dk DX12_feed 16 rfl) ?_
      refine g_getIv hX (dk DX12_feed 17 rfl) KX12 fX12_62 (by decide) rfl (MLt hM (by decide)) (MC hM) (RM.f hR 17 (by decide) (by decide)) ?_
      refine g_iload_1 hX (dk DX12_feed 18 rfl) ?_
      refine i_iastore hX (dk DX12_feed 19 rfl) (MLt hM (q := 9) (by decide)) (MS hM 9 (by decide) rfl) (hf) ?_
      refine g_aload_0 hX (dk DX12_feed 20 rfl) ?_
      refine g_dup hX (dk DX12_feed 21 rfl) rfl ?_
      refine g_getIv hX (dk DX12_feed 22 rfl) KX12 fX12_62 (by decide) rfl (MLt hM (by decide)) (MC hM) (RM.f hR 17 (by decide) (by decide)) ?_
      refine g_iconst (v := 1) hX (dk DX12_feed 23 rfl) (by decide) ?_
      refine g_iadd hX (dk DX12_feed 24 rfl) ?_
      refine g_putI hX (dk DX12_feed 25 rfl) KX12 fX12_62 (by decide) rfl (MLt hM (by decide)) (MC hM) (Or.inl rfl) (rfl) (rfl) ?_
      refine g_aload_0 hX (dk DX12_feed 26 rfl) ?_
      refine g_getIv hX (dk DX12_feed 27 rfl) KX12 fX12_62 (by decide) rfl (MLt hM (by decide)) (MC hM) (up0 _ _ _ _) ?_
      refine g_ireturn hX (dk DX12_feed 28 rfl) rfl (rfl) (by decide) (by decide) ?_
      exact qS_of hM hl (by unfold feedS; (try first | rw [if_pos hc1] | rw [if_neg hc1] | rw [if_neg (not_not_intro hc1)]); (try first | rw [if_pos hc2] | rw [if_neg hc2] | rw [if_neg (not_not_intro hc2)]); first | done | rfl) (RM.upf (RM.upc hR (by decide)) (by decide))
    · refine g_bipush (v := -4) hX (dk DX12_feed 12 rfl) (by decide) ?_
      refine g_ireturn hX (dk DX12_feed 13 rfl) rfl (rfl) (by decide) (by decide) ?_
      exact qS_of hM hl (by unfold feedS; (try first | rw [if_pos hc1] | rw [if_neg hc1] | rw [if_neg (not_not_intro hc1)]); (try first | rw [if_pos hc2] | rw [if_neg hc2] | rw [if_neg (not_not_intro hc2)]); first | done | rfl) hR
  · refine g_bipush (v := -2) hX (dk DX12_feed 6 rfl) (by decide) ?_
    refine g_ireturn hX (dk DX12_feed 7 rfl) rfl (rfl) (by decide) (by decide) ?_
    exact qS_of hM hl (by unfold feedS; (try first | rw [if_pos hc1] | rw [if_neg hc1] | rw [if_neg (not_not_intro hc1)]); first | done | rfl) hR

def toldS (E : It) (w : Int32) : Int32 × It := if 10 ≤ w ∧ w ≤ 13 then (E 8 (tN (w - 10)), E) else if w = 0 then (callF E, E) else if w = 1 then (fadeF E, E) else if w = 2 then (E 0 1, E) else if w = 3 then (E 0 2, E) else if w = 4 then (E 0 3, E) else if w = 5 then (E 0 4, E) else (-1, E)
def ofS (E : It) (a w : Int32) : Int32 × It := if ¬ isD E a then (-10001, E) else if w = 0 then (E 1 (tN a), E) else if w = 1 then (E 2 (tN a), E) else if w = 2 then (E 3 (tN a), E) else if w = 3 then (E 4 (tN a), E) else if w = 4 then (E 5 (tN a), E) else if w = 5 then (E 6 (tN a), E)
  else if w = 6 then (if hasI (E 0 6) a = 1 then (1, E) else (0, E)) else if w = 7 then (if hasI (E 0 5) a = 1 then (1, E) else (0, E)) else if w = 8 then (saidF E (E 8) (tN a), E)
  else if w = 9 then (if saidF E (E 8) (tN a) < E 6 (tN a) then (0, E) else (1, E)) else if w = 10 then (dearF E (tN a) (E 0 1), E) else if w = 11 then (E 7 (tN a), E) else (-10001, E)
def saidS (E : It) (a y : Int32) : Int32 × It := if ¬ isD E a then (-1, E) else if ¬ (0 ≤ y ∧ y ≤ 3) then (-1, E) else (sayF E (tN a) y, E)
def handS (E : It) : Int32 × It := (onesI (E 0 5 ||| overF E (E 8)) - onesI (E 0 5), upI E 0 5 (E 0 5 ||| overF E (E 8)))
def goE (E : It) (R : WS) (n : Int32) : It := upI (upI (upI (upI (upI E 0 1 (E 0 1 + n)) 0 5 R.2.1) 0 2 (E 0 2 + R.2.2.1)) 0 3 (E 0 3 + R.2.2.2.1)) 0 4 (E 0 4 + R.2.2.2.2.1)
def goS (E : It) (n : Int32) : Int32 × It := if ¬ (1 ≤ n ∧ n ≤ 60) then (-2, E) else if ¬ E 0 1 + n ≤ 9999 then (-3, E) else (E 0 1 + n, goE E (runF E (E 0 5) (E 0 6) (tN n)) n)
def runS (E : It) (n w : Int32) : Int32 × It := if ¬ (0 ≤ w ∧ w ≤ 5) then (-10001, E) else if ¬ (0 ≤ n ∧ n ≤ 200) then (-10002, E) else if w = 0 then ((runF E (E 0 5) (E 0 6) (tN n)).2.2.1, E) else if w = 1 then ((runF E (E 0 5) (E 0 6) (tN n)).2.2.2.1, E)
  else if w = 2 then ((runF E (E 0 5) (E 0 6) (tN n)).2.2.2.2.1, E) else if w = 3 then (onesI (runF E (E 0 5) (E 0 6) (tN n)).2.1, E) else if w = 4 then ((runF E (E 0 5) (E 0 6) (tN n)).2.2.2.2.2.1, E) else ((runF E (E 0 5) (E 0 6) (tN n)).2.2.2.2.2.2, E)
theorem TS.all {J : It} {idl : Int32} {a : WS} (h : TS J idl a) : J 0 34 = a.2.1 ∧ J 0 35 = idl ∧ J 0 36 = a.2.2.1 ∧ J 0 37 = a.2.2.2.1 ∧ J 0 38 = a.2.2.2.2.1 ∧ J 0 39 = a.2.2.2.2.2.1 ∧ J 0 40 = a.2.2.2.2.2.2 := by
  obtain ⟨had, kn, co, st, ca, fw, fd⟩ := a
  exact h
set_option maxRecDepth 8000 in
set_option maxHeartbeats 4000000 in
theorem c_X12_told {G : Gt} (hG : Gok G) {I : It} {h : Ht} (hM : HM h) {E : It} (hE : Inv E) (hR : RM E I) {L : Nat → Int64} (hl : hL h 38 = L) {w : Int32} : Con G (3) 0 0 mX12_told [.ref 0, .int w] I h (qS (toldS E w) L) := by
  refine con_intro (own := RX12) (lo0 := [some (.ref 0), some (.int w)]) hG rfl pl_X12 (Nat.le_of_ble_eq_true rfl) rfl (fun X hX => ?_)
  refine g_aload_0 hX (dk DX12_told 0 rfl) ?_
  refine g_iload_1 hX (dk DX12_told 1 rfl) ?_
  refine g_bipush (v := 10) hX (dk DX12_told 2 rfl) (by decide) ?_
  refine g_bipush (v := 13) hX (dk DX12_told 3 rfl) (by decide) ?_
  refine g_c4I hX sX12_told_6 (by decide) (Nat.le_of_ble_eq_true rfl) (rc0 rfl (MLt hM (by decide)) (MC hM)) (by decide) (by decide) (c_X12_in hG ) ?_
  refine g_ifb_eq (tgt := 22) hX (dk DX12_told 5 rfl) (by decide) (fun hc1 => ?_) (fun hc1 => ?_)
  · refine g_iload_1 hX (dk DX12_told 13 rfl) ?_
    refine g_tswitch (dt := 95) hX [(0, 60), (1, 68), (2, 75), (3, 80), (4, 85), (5, 90)] (dk DX12_told 14 rfl) (by decide +kernel) ?_
    refine ⟨fun hc2 => ?_, fun hc2n => ?_⟩
    · show GG _ _ _ _ _ _ _ _ _ _ _ _ _
      refine g_aload_0 hX (dk DX12_told 15 rfl) ?_
      refine g_iconst (v := 2) hX (dk DX12_told 16 rfl) (by decide) ?_
      refine g_bipush (v := 7) hX (dk DX12_told 17 rfl) (by decide) ?_
      refine g_c3I hX sX12_told_64 (by decide) (Nat.le_of_ble_eq_true rfl) (rc0 rfl (MLt hM (by decide)) (MC hM)) (by decide) (by decide) (c_X12_lastOf hG hM hE (Ag.of hR (by decide) (by decide))) ?_
      refine g_ireturn hX (dk DX12_told 19 rfl) rfl (rfl) (by decide) (by decide) ?_
      exact qS_of hM hl (by unfold toldS; (try first | rw [if_pos hc1] | rw [if_neg hc1] | rw [if_neg (not_not_intro hc1)]); (try first | rw [if_pos hc2] | rw [if_neg hc2] | rw [if_neg (not_not_intro hc2)]); first | done | rfl) hR
    refine ⟨fun hc3 => ?_, fun hc3n => ?_⟩
    · show GG _ _ _ _ _ _ _ _ _ _ _ _ _
      refine g_aload_0 hX (dk DX12_told 20 rfl) ?_
      refine g_iconst (v := 3) hX (dk DX12_told 21 rfl) (by decide) ?_
      refine g_iconst (v := 1) hX (dk DX12_told 22 rfl) (by decide) ?_
      refine g_c3I hX sX12_told_71 (by decide) (Nat.le_of_ble_eq_true rfl) (rc0 rfl (MLt hM (by decide)) (MC hM)) (by decide) (by decide) (c_X12_lastOf hG hM hE (Ag.of hR (by decide) (by decide))) ?_
      refine g_ireturn hX (dk DX12_told 24 rfl) rfl (rfl) (by decide) (by decide) ?_
      exact qS_of hM hl (by unfold toldS; (try first | rw [if_pos hc1] | rw [if_neg hc1] | rw [if_neg (not_not_intro hc1)]); (try first | rw [if_pos hc2n] | rw [if_neg hc2n] | rw [if_neg (not_not_intro hc2n)]); (try first | rw [if_pos hc3] | rw [if_neg hc3] | rw [if_neg (not_not_intro hc3)]); first | done | rfl) hR
    refine ⟨fun hc4 => ?_, fun hc4n => ?_⟩
    · show GG _ _ _ _ _ _ _ _ _ _ _ _ _
      refine g_aload_0 hX (dk DX12_told 25 rfl) ?_
      refine g_getIv hX (dk DX12_told 26 rfl) KX12 fX12_13 (by decide) rfl (MLt hM (by decide)) (MC hM) (RM.f hR 1 (by decide) (by decide)) ?_
      refine g_ireturn hX (dk DX12_told 27 rfl) rfl (rfl) (by decide) (by decide) ?_
      exact qS_of hM hl (by unfold toldS; (try first | rw [if_pos hc1] | rw [if_neg hc1] | rw [if_neg (not_not_intro hc1)]); (try first | rw [if_pos hc2n] | rw [if_neg hc2n] | rw [if_neg (not_not_intro hc2n)]); (try first | rw [if_pos hc3n] | rw [if_neg hc3n] | rw [if_neg (not_not_intro hc3n)]); (try first | rw [if_pos hc4] | rw [if_neg hc4] | rw [if_neg (not_not_intro hc4)]); first | done | rfl) hR
    refine ⟨fun hc5 => ?_, fun hc5n => ?_⟩
    · show GG _ _ _ _ _ _ _ _ _ _ _ _ _
      refine g_aload_0 hX (dk DX12_told 28 rfl) ?_
      refine g_getIv hX (dk DX12_told 29 rfl) KX12 fX12_16 (by decide) rfl (MLt hM (by decide)) (MC hM) (RM.f hR 2 (by decide) (by decide)) ?_
      refine g_ireturn hX (dk DX12_told 30 rfl) rfl (rfl) (by decide) (by decide) ?_
      exact qS_of hM hl (by unfold toldS; (try first | rw [if_pos hc1] | rw [if_neg hc1] | rw [if_neg (not_not_intro hc1)]); (try first | rw [if_pos hc2n] | rw [if_neg hc2n] | rw [if_neg (not_not_intro hc2n)]); (try first | rw [if_pos hc3n] | rw [if_neg hc3n] | rw [if_neg (not_not_intro hc3n)]); (try first | rw [if_pos hc4n] | rw [if_neg hc4n] | rw [if_neg (not_not_intro hc4n)]); (try first | rw [if_pos hc5] | rw [if_neg hc5] | rw [if_neg (not_not_intro hc5)]); first | done | rfl) hR
    refine ⟨fun hc6 => ?_, fun hc6n => ?_⟩
    · show GG _ _ _ _ _ _ _ _ _ _ _ _ _
      refine g_aload_0 hX (dk DX12_told 31 rfl) ?_
      refine g_getIv hX (dk DX12_told 32 rfl) KX12 fX12_19 (by decide) rfl (MLt hM (by decide)) (MC hM) (RM.f hR 3 (by decide) (by decide)) ?_
      refine g_ireturn hX (dk DX12_told 33 rfl) rfl (rfl) (by decide) (by decide) ?_
      exact qS_of hM hl (by unfold toldS; (try first | rw [if_pos hc1] | rw [if_neg hc1] | rw [if_neg (not_not_intro hc1)]); (try first | rw [if_pos hc2n] | rw [if_neg hc2n] | rw [if_neg (not_not_intro hc2n)]); (try first | rw [if_pos hc3n] | rw [if_neg hc3n] | rw [if_neg (not_not_intro hc3n)]); (try first | rw [if_pos hc4n] | rw [if_neg hc4n] | rw [if_neg (not_not_intro hc4n)]); (try first | rw [if_pos hc5n] | rw [if_neg hc5n] | rw [if_neg (not_not_intro hc5n)]); (try first | rw [if_pos hc6] | rw [if_neg hc6] | rw [if_neg (not_not_intro hc6)]); first | done | rfl) hR
    refine ⟨fun hc7 => ?_, fun hc7n => ?_⟩
    · show GG _ _ _ _ _ _ _ _ _ _ _ _ _
      refine g_aload_0 hX (dk DX12_told 34 rfl) ?_
      refine g_getIv hX (dk DX12_told 35 rfl) KX12 fX12_22 (by decide) rfl (MLt hM (by decide)) (MC hM) (RM.f hR 4 (by decide) (by decide)) ?_
      refine g_ireturn hX (dk DX12_told 36 rfl) rfl (rfl) (by decide) (by decide) ?_
      exact qS_of hM hl (by unfold toldS; (try first | rw [if_pos hc1] | rw [if_neg hc1] | rw [if_neg (not_not_intro hc1)]); (try first | rw [if_pos hc2n] | rw [if_neg hc2n] | rw [if_neg (not_not_intro hc2n)]); (try first | rw [if_pos hc3n] | rw [if_neg hc3n] | rw [if_neg (not_not_intro hc3n)]); (try first | rw [if_pos hc4n] | rw [if_neg hc4n] | rw [if_neg (not_not_intro hc4n)]); (try first | rw [if_pos hc5n] | rw [if_neg hc5n] | rw [if_neg (not_not_intro hc5n)]); (try first | rw [if_pos hc6n] | rw [if_neg hc6n] | rw [if_neg (not_not_intro hc6n)]); (try first | rw [if_pos hc7] | rw [if_neg hc7] | rw [if_neg (not_not_intro hc7)]); first | done | rfl) hR
    show GG _ _ _ _ _ _ _ _ _ _ _ _ _
    refine g_iconst (v := -1) hX (dk DX12_told 37 rfl) (by decide) ?_
    refine g_ireturn hX (dk DX12_told 38 rfl) rfl (rfl) (by decide) (by decide) ?_
    exact qS_of hM hl (by unfold toldS; (try first | rw [if_pos hc1] | rw [if_neg hc1] | rw [if_neg (not_not_intro hc1)]); (try first | rw [if_pos hc2n] | rw [if_neg hc2n] | rw [if_neg (not_not_intro hc2n)]); (try first | rw [if_pos hc3n] | rw [if_neg hc3n] | rw [if_neg (not_not_intro hc3n)]); (try first | rw [if_pos hc4n] | rw [if_neg hc4n] | rw [if_neg (not_not_intro hc4n)]); (try first | rw [if_pos hc5n] | rw [if_neg hc5n] | rw [if_neg (not_not_intro hc5n)]); (try first | rw [if_pos hc6n] | rw [if_neg hc6n] | rw [if_neg (not_not_intro hc6n)]); (try first | rw [if_pos hc7n] | rw [if_neg hc7n] | rw [if_neg (not_not_intro hc7n)]); first | done | rfl) hR
  · obtain ⟨j, hj1, hj2, rfl⟩ := in1_of (c := 10) (b := 13) (by decide) (by decide) hc1
    have hs : nI j - 10 = nI (j - 10) := pk_sub hj1
    refine g_aload_0 hX (dk DX12_told 6 rfl) ?_
    refine g_getRs (r := 8) hX (dk DX12_told 7 rfl) KX12 fX12_53 (by decide) rfl (MLt hM (by decide)) (MC hM) (MR hM 14 (by decide) rfl) ?_
    refine g_iload_1 hX (dk DX12_told 8 rfl) ?_
    refine g_bipush (v := 10) hX (dk DX12_told 9 rfl) (by decide) ?_
    refine g_isub hX (dk DX12_told 10 rfl) ?_
    refine v_iaload hX (dk DX12_told 11 rfl) (MLt hM (q := 8) (by decide)) (MS hM 8 (by decide) rfl) (⟨hs, by omega, by decide⟩) (RM.c1 hR 8 _ (by decide) (by decide)) ?_
    refine g_ireturn hX (dk DX12_told 12 rfl) rfl (rfl) (by decide) (by decide) ?_
    exact qS_of hM hl (by unfold toldS; (try first | rw [if_pos hc1] | rw [if_neg hc1] | rw [if_neg (not_not_intro hc1)]); rw [hs, tN_nI (by omega)]; first | done | rfl) hR

set_option maxRecDepth 8000 in
set_option maxHeartbeats 4000000 in
theorem c_X12_of {G : Gt} (hG : Gok G) {I : It} {h : Ht} (hM : HM h) {E : It} (hE : Inv E) (hR : RM E I) {L : Nat → Int64} (hl : hL h 38 = L) {a w : Int32} : Con G (6) 0 0 mX12_of [.ref 0, .int a, .int w] I h (qS (ofS E a w) L) := by
  refine con_intro (own := RX12) (lo0 := [some (.ref 0), some (.int a), some (.int w)]) hG rfl pl_X12 (Nat.le_of_ble_eq_true rfl) rfl (fun X hX => ?_)
  refine g_aload_0 hX (dk DX12_of_0 0 rfl) ?_
  refine g_iload_1 hX (dk DX12_of_0 1 rfl) ?_
  refine g_c2I hX sX12_of_2 (by decide) (Nat.le_of_ble_eq_true rfl) (rc0 rfl (MLt hM (by decide)) (MC hM)) (by decide) (by decide) (cE_isDoing hG hM (RM.f hR 0 (by decide) (by decide))) ?_
  refine g_ifb_ne (tgt := 12) hX (dk DX12_of_0 3 rfl) (by decide) (fun hc1 => ?_) (fun hc1 => ?_)
  · obtain ⟨d, hd, rfl⟩ := isD_of hE hc1
    have hd10 := Nat.lt_of_lt_of_le hd (inv_cnt hE).2
    refine g_aload_0 hX (dk DX12_of_0 6 rfl) ?_
    refine g_c1v hX sX12_of_13 (by decide) (Nat.le_of_ble_eq_true rfl) (rc0 rfl (MLt hM (by decide)) (MC hM)) (by decide) (by decide) (c_X12_laySaid hG hM hE (Ag.of hR (by decide) (by decide))) ?_
    rintro J2 _ ⟨hS, hfr, rfl⟩
    have hR := RM.keep hR hfr (by decide) (by decide) (by decide)
    refine g_iload_2 hX (dk DX12_of_0 8 rfl) ?_
    refine g_tswitch (dt := 201) hX [(0, 80), (1, 87), (2, 94), (3, 101), (4, 108), (5, 115), (6, 122), (7, 140), (8, 158), (9, 164), (10, 184), (11, 194)] (dk DX12_of_0 9 rfl) (by decide +kernel) ?_
    refine ⟨fun hc2 => ?_, fun hc2n => ?_⟩
    · show GG _ _ _ _ _ _ _ _ _ _ _ _ _
      refine g_aload_0 hX (dk DX12_of_0 10 rfl) ?_
      refine g_getRs (r := 1) hX (dk DX12_of_0 11 rfl) KX12 fX12_31 (by decide) rfl (MLt hM (by decide)) (MC hM) (MR hM 7 (by decide) rfl) ?_
      refine g_iload_1 hX (dk DX12_of_0 12 rfl) ?_
      refine v_iaload hX (dk DX12_of_0 13 rfl) (MLt hM (q := 1) (by decide)) (MS hM 1 (by decide) rfl) (⟨rfl, hd10, by decide⟩) (RM.c1 hR 1 _ (by decide) (by decide)) ?_
      refine g_ireturn hX (dk DX12_of_0 14 rfl) rfl (rfl) (by decide) (by decide) ?_
      exact qS_of hM hl (by unfold ofS; (try rw [tN_nI (by omega)]); (try first | rw [if_pos hc1] | rw [if_neg hc1] | rw [if_neg (not_not_intro hc1)]); (try first | rw [if_pos hc2] | rw [if_neg hc2] | rw [if_neg (not_not_intro hc2)]); (try rw [tN_nI (by omega)]); first | done | rfl) hR
    refine ⟨fun hc3 => ?_, fun hc3n => ?_⟩
    · show GG _ _ _ _ _ _ _ _ _ _ _ _ _
      refine g_aload_0 hX (dk DX12_of_0 15 rfl) ?_
      refine g_getRs (r := 2) hX (dk DX12_of_0 16 rfl) KX12 fX12_35 (by decide) rfl (MLt hM (by decide)) (MC hM) (MR hM 8 (by decide) rfl) ?_
      refine g_iload_1 hX (dk DX12_of_0 17 rfl) ?_
      refine v_iaload hX (dk DX12_of_0 18 rfl) (MLt hM (q := 2) (by decide)) (MS hM 2 (by decide) rfl) (⟨rfl, hd10, by decide⟩) (RM.c1 hR 2 _ (by decide) (by decide)) ?_
      refine g_ireturn hX (dk DX12_of_0 19 rfl) rfl (rfl) (by decide) (by decide) ?_
      exact qS_of hM hl (by unfold ofS; (try rw [tN_nI (by omega)]); (try first | rw [if_pos hc1] | rw [if_neg hc1] | rw [if_neg (not_not_intro hc1)]); (try first | rw [if_pos hc2n] | rw [if_neg hc2n] | rw [if_neg (not_not_intro hc2n)]); (try first | rw [if_pos hc3] | rw [if_neg hc3] | rw [if_neg (not_not_intro hc3)]); (try rw [tN_nI (by omega)]); first | done | rfl) hR
    refine ⟨fun hc4 => ?_, fun hc4n => ?_⟩
    · show GG _ _ _ _ _ _ _ _ _ _ _ _ _
      refine g_aload_0 hX (dk DX12_of_0 20 rfl) ?_
      refine g_getRs (r := 3) hX (dk DX12_of_0 21 rfl) KX12 fX12_38 (by decide) rfl (MLt hM (by decide)) (MC hM) (MR hM 9 (by decide) rfl) ?_
      refine g_iload_1 hX (dk DX12_of_0 22 rfl) ?_
      refine v_iaload hX (dk DX12_of_0 23 rfl) (MLt hM (q := 3) (by decide)) (MS hM 3 (by decide) rfl) (⟨rfl, hd10, by decide⟩) (RM.c1 hR 3 _ (by decide) (by decide)) ?_
      refine g_ireturn hX (dk DX12_of_0 24 rfl) rfl (rfl) (by decide) (by decide) ?_
      exact qS_of hM hl (by unfold ofS; (try rw [tN_nI (by omega)]); (try first | rw [if_pos hc1] | rw [if_neg hc1] | rw [if_neg (not_not_intro hc1)]); (try first | rw [if_pos hc2n] | rw [if_neg hc2n] | rw [if_neg (not_not_intro hc2n)]); (try first | rw [if_pos hc3n] | rw [if_neg hc3n] | rw [if_neg (not_not_intro hc3n)]); (try first | rw [if_pos hc4] | rw [if_neg hc4] | rw [if_neg (not_not_intro hc4)]); (try rw [tN_nI (by omega)]); first | done | rfl) hR
    refine ⟨fun hc5 => ?_, fun hc5n => ?_⟩
    · show GG _ _ _ _ _ _ _ _ _ _ _ _ _
      refine g_aload_0 hX (dk DX12_of_0 25 rfl) ?_
      refine g_getRs (r := 4) hX (dk DX12_of_0 26 rfl) KX12 fX12_41 (by decide) rfl (MLt hM (by decide)) (MC hM) (MR hM 10 (by decide) rfl) ?_
      refine g_iload_1 hX (dk DX12_of_0 27 rfl) ?_
      refine v_iaload hX (dk DX12_of_0 28 rfl) (MLt hM (q := 4) (by decide)) (MS hM 4 (by decide) rfl) (⟨rfl, hd10, by decide⟩) (RM.c1 hR 4 _ (by decide) (by decide)) ?_
      refine g_ireturn hX (dk DX12_of_0 29 rfl) rfl (rfl) (by decide) (by decide) ?_
      exact qS_of hM hl (by unfold ofS; (try rw [tN_nI (by omega)]); (try first | rw [if_pos hc1] | rw [if_neg hc1] | rw [if_neg (not_not_intro hc1)]); (try first | rw [if_pos hc2n] | rw [if_neg hc2n] | rw [if_neg (not_not_intro hc2n)]); (try first | rw [if_pos hc3n] | rw [if_neg hc3n] | rw [if_neg (not_not_intro hc3n)]); (try first | rw [if_pos hc4n] | rw [if_neg hc4n] | rw [if_neg (not_not_intro hc4n)]); (try first | rw [if_pos hc5] | rw [if_neg hc5] | rw [if_neg (not_not_intro hc5)]); (try rw [tN_nI (by omega)]); first | done | rfl) hR
    refine ⟨fun hc6 => ?_, fun hc6n => ?_⟩
    · show GG _ _ _ _ _ _ _ _ _ _ _ _ _
      refine g_aload_0 hX (dk DX12_of_0 30 rfl) ?_
      refine g_getRs (r := 5) hX (dk DX12_of_0 31 rfl) KX12 fX12_44 (by decide) rfl (MLt hM (by decide)) (MC hM) (MR hM 11 (by decide) rfl) ?_
      refine g_iload_1 hX (dk DX12_of_0 32 rfl) ?_
      refine v_iaload hX (dk DX12_of_0 33 rfl) (MLt hM (q := 5) (by decide)) (MS hM 5 (by decide) rfl) (⟨rfl, hd10, by decide⟩) (RM.c1 hR 5 _ (by decide) (by decide)) ?_
      refine g_ireturn hX (dk DX12_of_0 34 rfl) rfl (rfl) (by decide) (by decide) ?_
      exact qS_of hM hl (by unfold ofS; (try rw [tN_nI (by omega)]); (try first | rw [if_pos hc1] | rw [if_neg hc1] | rw [if_neg (not_not_intro hc1)]); (try first | rw [if_pos hc2n] | rw [if_neg hc2n] | rw [if_neg (not_not_intro hc2n)]); (try first | rw [if_pos hc3n] | rw [if_neg hc3n] | rw [if_neg (not_not_intro hc3n)]); (try first | rw [if_pos hc4n] | rw [if_neg hc4n] | rw [if_neg (not_not_intro hc4n)]); (try first | rw [if_pos hc5n] | rw [if_neg hc5n] | rw [if_neg (not_not_intro hc5n)]); (try first | rw [if_pos hc6] | rw [if_neg hc6] | rw [if_neg (not_not_intro hc6)]); (try rw [tN_nI (by omega)]); first | done | rfl) hR
    refine ⟨fun hc7 => ?_, fun hc7n => ?_⟩
    · show GG _ _ _ _ _ _ _ _ _ _ _ _ _
      refine g_aload_0 hX (dk DX12_of_0 35 rfl) ?_
      refine g_getRs (r := 6) hX (dk DX12_of_0 36 rfl) KX12 fX12_47 (by decide) rfl (MLt hM (by decide)) (MC hM) (MR hM 12 (by decide) rfl) ?_
      refine g_iload_1 hX (dk DX12_of_0 37 rfl) ?_
      refine v_iaload hX (dk DX12_of_0 38 rfl) (MLt hM (q := 6) (by decide)) (MS hM 6 (by decide) rfl) (⟨rfl, hd10, by decide⟩) (RM.c1 hR 6 _ (by decide) (by decide)) ?_
      refine g_ireturn hX (dk DX12_of_0 39 rfl) rfl (rfl) (by decide) (by decide) ?_
      exact qS_of hM hl (by unfold ofS; (try rw [tN_nI (by omega)]); (try first | rw [if_pos hc1] | rw [if_neg hc1] | rw [if_neg (not_not_intro hc1)]); (try first | rw [if_pos hc2n] | rw [if_neg hc2n] | rw [if_neg (not_not_intro hc2n)]); (try first | rw [if_pos hc3n] | rw [if_neg hc3n] | rw [if_neg (not_not_intro hc3n)]); (try first | rw [if_pos hc4n] | rw [if_neg hc4n] | rw [if_neg (not_not_intro hc4n)]); (try first | rw [if_pos hc5n] | rw [if_neg hc5n] | rw [if_neg (not_not_intro hc5n)]); (try first | rw [if_pos hc6n] | rw [if_neg hc6n] | rw [if_neg (not_not_intro hc6n)]); (try first | rw [if_pos hc7] | rw [if_neg hc7] | rw [if_neg (not_not_intro hc7)]); (try rw [tN_nI (by omega)]); first | done | rfl) hR
    refine ⟨fun hc8 => ?_, fun hc8n => ?_⟩
    · show GG _ _ _ _ _ _ _ _ _ _ _ _ _
      refine g_aload_0 hX (dk DX12_of_0 40 rfl) ?_
      refine g_aload_0 hX (dk DX12_of_0 41 rfl) ?_
      refine g_getIv hX (dk DX12_of_0 42 rfl) KX12 fX12_28 (by decide) rfl (MLt hM (by decide)) (MC hM) (RM.f hR 6 (by decide) (by decide)) ?_
      refine g_iload_1 hX (dk DX12_of_0 43 rfl) ?_
      refine g_c3I hX sX12_of_128 (by decide) (Nat.le_of_ble_eq_true rfl) (rc0 rfl (MLt hM (by decide)) (MC hM)) (by decide) (by decide) (c_X12_has hG ) ?_
      refine g_ifb_eq (tgt := 138) hX (dk DX12_of_0 45 rfl) (by decide) (fun hc9 => ?_) (fun hc9 => ?_)
      · refine g_iconst (v := 0) hX (dk DX12_of_0 48 rfl) (by decide) ?_
        refine g_ireturn hX (dk DX12_of_0 49 rfl) rfl (rfl) (by decide) (by decide) ?_
        exact qS_of hM hl (by unfold ofS; (try rw [tN_nI (by omega)]); (try first | rw [if_pos hc1] | rw [if_neg hc1] | rw [if_neg (not_not_intro hc1)]); (try first | rw [if_pos hc2n] | rw [if_neg hc2n] | rw [if_neg (not_not_intro hc2n)]); (try first | rw [if_pos hc3n] | rw [if_neg hc3n] | rw [if_neg (not_not_intro hc3n)]); (try first | rw [if_pos hc4n] | rw [if_neg hc4n] | rw [if_neg (not_not_intro hc4n)]); (try first | rw [if_pos hc5n] | rw [if_neg hc5n] | rw [if_neg (not_not_intro hc5n)]); (try first | rw [if_pos hc6n] | rw [if_neg hc6n] | rw [if_neg (not_not_intro hc6n)]); (try first | rw [if_pos hc7n] | rw [if_neg hc7n] | rw [if_neg (not_not_intro hc7n)]); (try first | rw [if_pos hc8] | rw [if_neg hc8] | rw [if_neg (not_not_intro hc8)]); (try first | rw [if_pos hc9] | rw [if_neg hc9] | rw [if_neg (not_not_intro hc9)]); (try rw [tN_nI (by omega)]); first | done | rfl) hR
      · refine g_iconst (v := 1) hX (dk DX12_of_0 46 rfl) (by decide) ?_
        refine g_goto (tgt := 139) hX (dk DX12_of_0 47 rfl) (by decide) ?_
        refine g_ireturn hX (dk DX12_of_0 49 rfl) rfl (rfl) (by decide) (by decide) ?_
        exact qS_of hM hl (by unfold ofS; (try rw [tN_nI (by omega)]); (try first | rw [if_pos hc1] | rw [if_neg hc1] | rw [if_neg (not_not_intro hc1)]); (try first | rw [if_pos hc2n] | rw [if_neg hc2n] | rw [if_neg (not_not_intro hc2n)]); (try first | rw [if_pos hc3n] | rw [if_neg hc3n] | rw [if_neg (not_not_intro hc3n)]); (try first | rw [if_pos hc4n] | rw [if_neg hc4n] | rw [if_neg (not_not_intro hc4n)]); (try first | rw [if_pos hc5n] | rw [if_neg hc5n] | rw [if_neg (not_not_intro hc5n)]); (try first | rw [if_pos hc6n] | rw [if_neg hc6n] | rw [if_neg (not_not_intro hc6n)]); (try first | rw [if_pos hc7n] | rw [if_neg hc7n] | rw [if_neg (not_not_intro hc7n)]); (try first | rw [if_pos hc8] | rw [if_neg hc8] | rw [if_neg (not_not_intro hc8)]); (try first | rw [if_pos hc9] | rw [if_neg hc9] | rw [if_neg (not_not_intro hc9)]); (try rw [tN_nI (by omega)]); first | done | rfl) hR
    refine ⟨fun hc10 => ?_, fun hc10n => ?_⟩
    · show GG _ _ _ _ _ _ _ _ _ _ _ _ _
      refine g_aload_0 hX (dk DX12_of_0 50 rfl) ?_
      refine g_aload_0 hX (dk DX12_of_0 51 rfl) ?_
      refine g_getIv hX (dk DX12_of_0 52 rfl) KX12 fX12_25 (by decide) rfl (MLt hM (by decide)) (MC hM) (RM.f hR 5 (by decide) (by decide)) ?_
      refine g_iload_1 hX (dk DX12_of_0 53 rfl) ?_
      refine g_c3I hX sX12_of_146 (by decide) (Nat.le_of_ble_eq_true rfl) (rc0 rfl (MLt hM (by decide)) (MC hM)) (by decide) (by decide) (c_X12_has hG ) ?_
      refine g_ifb_eq (tgt := 156) hX (dk DX12_of_0 55 rfl) (by decide) (fun hc11 => ?_) (fun hc11 => ?_)
      · refine g_iconst (v := 0) hX (dk DX12_of_0 58 rfl) (by decide) ?_
        refine g_ireturn hX (dk DX12_of_0 59 rfl) rfl (rfl) (by decide) (by decide) ?_
        exact qS_of hM hl (by unfold ofS; (try rw [tN_nI (by omega)]); (try first | rw [if_pos hc1] | rw [if_neg hc1] | rw [if_neg (not_not_intro hc1)]); (try first | rw [if_pos hc2n] | rw [if_neg hc2n] | rw [if_neg (not_not_intro hc2n)]); (try first | rw [if_pos hc3n] | rw [if_neg hc3n] | rw [if_neg (not_not_intro hc3n)]); (try first | rw [if_pos hc4n] | rw [if_neg hc4n] | rw [if_neg (not_not_intro hc4n)]); (try first | rw [if_pos hc5n] | rw [if_neg hc5n] | rw [if_neg (not_not_intro hc5n)]); (try first | rw [if_pos hc6n] | rw [if_neg hc6n] | rw [if_neg (not_not_intro hc6n)]); (try first | rw [if_pos hc7n] | rw [if_neg hc7n] | rw [if_neg (not_not_intro hc7n)]); (try first | rw [if_pos hc8n] | rw [if_neg hc8n] | rw [if_neg (not_not_intro hc8n)]); (try first | rw [if_pos hc10] | rw [if_neg hc10] | rw [if_neg (not_not_intro hc10)]); (try first | rw [if_pos hc11] | rw [if_neg hc11] | rw [if_neg (not_not_intro hc11)]); (try rw [tN_nI (by omega)]); first | done | rfl) hR
      · refine g_iconst (v := 1) hX (dk DX12_of_0 56 rfl) (by decide) ?_
        refine g_goto (tgt := 157) hX (dk DX12_of_0 57 rfl) (by decide) ?_
        refine g_ireturn hX (dk DX12_of_0 59 rfl) rfl (rfl) (by decide) (by decide) ?_
        exact qS_of hM hl (by unfold ofS; (try rw [tN_nI (by omega)]); (try first | rw [if_pos hc1] | rw [if_neg hc1] | rw [if_neg (not_not_intro hc1)]); (try first | rw [if_pos hc2n] | rw [if_neg hc2n] | rw [if_neg (not_not_intro hc2n)]); (try first | rw [if_pos hc3n] | rw [if_neg hc3n] | rw [if_neg (not_not_intro hc3n)]); (try first | rw [if_pos hc4n] | rw [if_neg hc4n] | rw [if_neg (not_not_intro hc4n)]); (try first | rw [if_pos hc5n] | rw [if_neg hc5n] | rw [if_neg (not_not_intro hc5n)]); (try first | rw [if_pos hc6n] | rw [if_neg hc6n] | rw [if_neg (not_not_intro hc6n)]); (try first | rw [if_pos hc7n] | rw [if_neg hc7n] | rw [if_neg (not_not_intro hc7n)]); (try first | rw [if_pos hc8n] | rw [if_neg hc8n] | rw [if_neg (not_not_intro hc8n)]); (try first | rw [if_pos hc10] | rw [if_neg hc10] | rw [if_neg (not_not_intro hc10)]); (try first | rw [if_pos hc11] | rw [if_neg hc11] | rw [if_neg (not_not_intro hc11)]); (try rw [tN_nI (by omega)]); first | done | rfl) hR
    refine ⟨fun hc12 => ?_, fun hc12n => ?_⟩
    · show GG _ _ _ _ _ _ _ _ _ _ _ _ _
      refine g_aload_0 hX (dk DX12_of_1 0 rfl) ?_
      refine g_iload_1 hX (dk DX12_of_1 1 rfl) ?_
      refine g_c2I hX sX12_of_160 (by decide) (Nat.le_of_ble_eq_true rfl) (rc0 rfl (MLt hM (by decide)) (MC hM)) (by decide) (by decide) (cE_saidOf hG hM hE hR hd hS) ?_
      refine g_ireturn hX (dk DX12_of_1 3 rfl) rfl (rfl) (by decide) (by decide) ?_
      exact qS_of hM hl (by unfold ofS; (try rw [tN_nI (by omega)]); (try first | rw [if_pos hc1] | rw [if_neg hc1] | rw [if_neg (not_not_intro hc1)]); (try first | rw [if_pos hc2n] | rw [if_neg hc2n] | rw [if_neg (not_not_intro hc2n)]); (try first | rw [if_pos hc3n] | rw [if_neg hc3n] | rw [if_neg (not_not_intro hc3n)]); (try first | rw [if_pos hc4n] | rw [if_neg hc4n] | rw [if_neg (not_not_intro hc4n)]); (try first | rw [if_pos hc5n] | rw [if_neg hc5n] | rw [if_neg (not_not_intro hc5n)]); (try first | rw [if_pos hc6n] | rw [if_neg hc6n] | rw [if_neg (not_not_intro hc6n)]); (try first | rw [if_pos hc7n] | rw [if_neg hc7n] | rw [if_neg (not_not_intro hc7n)]); (try first | rw [if_pos hc8n] | rw [if_neg hc8n] | rw [if_neg (not_not_intro hc8n)]); (try first | rw [if_pos hc10n] | rw [if_neg hc10n] | rw [if_neg (not_not_intro hc10n)]); (try first | rw [if_pos hc12] | rw [if_neg hc12] | rw [if_neg (not_not_intro hc12)]); (try rw [tN_nI (by omega)]); first | done | rfl) hR
    refine ⟨fun hc13 => ?_, fun hc13n => ?_⟩
    · show GG _ _ _ _ _ _ _ _ _ _ _ _ _
      refine g_aload_0 hX (dk DX12_of_1 4 rfl) ?_
      refine g_iload_1 hX (dk DX12_of_1 5 rfl) ?_
      refine g_c2I hX sX12_of_166 (by decide) (Nat.le_of_ble_eq_true rfl) (rc0 rfl (MLt hM (by decide)) (MC hM)) (by decide) (by decide) (cE_saidOf hG hM hE hR hd hS) ?_
      refine g_aload_0 hX (dk DX12_of_1 7 rfl) ?_
      refine g_getRs (r := 6) hX (dk DX12_of_1 8 rfl) KX12 fX12_47 (by decide) rfl (MLt hM (by decide)) (MC hM) (MR hM 12 (by decide) rfl) ?_
      refine g_iload_1 hX (dk DX12_of_1 9 rfl) ?_
      refine v_iaload hX (dk DX12_of_1 10 rfl) (MLt hM (q := 6) (by decide)) (MS hM 6 (by decide) rfl) (⟨rfl, hd10, by decide⟩) (RM.c1 hR 6 _ (by decide) (by decide)) ?_
      refine g_icmp_lt (tgt := 182) hX (dk DX12_of_1 11 rfl) (by decide) (fun hc14 => ?_) (fun hc14 => ?_)
      · refine g_iconst (v := 0) hX (dk DX12_of_1 14 rfl) (by decide) ?_
        refine g_ireturn hX (dk DX12_of_1 15 rfl) rfl (rfl) (by decide) (by decide) ?_
        exact qS_of hM hl (by unfold ofS; (try rw [tN_nI (by omega)]); (try first | rw [if_pos hc1] | rw [if_neg hc1] | rw [if_neg (not_not_intro hc1)]); (try first | rw [if_pos hc2n] | rw [if_neg hc2n] | rw [if_neg (not_not_intro hc2n)]); (try first | rw [if_pos hc3n] | rw [if_neg hc3n] | rw [if_neg (not_not_intro hc3n)]); (try first | rw [if_pos hc4n] | rw [if_neg hc4n] | rw [if_neg (not_not_intro hc4n)]); (try first | rw [if_pos hc5n] | rw [if_neg hc5n] | rw [if_neg (not_not_intro hc5n)]); (try first | rw [if_pos hc6n] | rw [if_neg hc6n] | rw [if_neg (not_not_intro hc6n)]); (try first | rw [if_pos hc7n] | rw [if_neg hc7n] | rw [if_neg (not_not_intro hc7n)]); (try first | rw [if_pos hc8n] | rw [if_neg hc8n] | rw [if_neg (not_not_intro hc8n)]); (try first | rw [if_pos hc10n] | rw [if_neg hc10n] | rw [if_neg (not_not_intro hc10n)]); (try first | rw [if_pos hc12n] | rw [if_neg hc12n] | rw [if_neg (not_not_intro hc12n)]); (try first | rw [if_pos hc13] | rw [if_neg hc13] | rw [if_neg (not_not_intro hc13)]); (try first | rw [if_pos hc14] | rw [if_neg hc14] | rw [if_neg (not_not_intro hc14)]); (try rw [tN_nI (by omega)]); first | done | rfl) hR
      · refine g_iconst (v := 1) hX (dk DX12_of_1 12 rfl) (by decide) ?_
        refine g_goto (tgt := 183) hX (dk DX12_of_1 13 rfl) (by decide) ?_
        refine g_ireturn hX (dk DX12_of_1 15 rfl) rfl (rfl) (by decide) (by decide) ?_
        exact qS_of hM hl (by unfold ofS; (try rw [tN_nI (by omega)]); (try first | rw [if_pos hc1] | rw [if_neg hc1] | rw [if_neg (not_not_intro hc1)]); (try first | rw [if_pos hc2n] | rw [if_neg hc2n] | rw [if_neg (not_not_intro hc2n)]); (try first | rw [if_pos hc3n] | rw [if_neg hc3n] | rw [if_neg (not_not_intro hc3n)]); (try first | rw [if_pos hc4n] | rw [if_neg hc4n] | rw [if_neg (not_not_intro hc4n)]); (try first | rw [if_pos hc5n] | rw [if_neg hc5n] | rw [if_neg (not_not_intro hc5n)]); (try first | rw [if_pos hc6n] | rw [if_neg hc6n] | rw [if_neg (not_not_intro hc6n)]); (try first | rw [if_pos hc7n] | rw [if_neg hc7n] | rw [if_neg (not_not_intro hc7n)]); (try first | rw [if_pos hc8n] | rw [if_neg hc8n] | rw [if_neg (not_not_intro hc8n)]); (try first | rw [if_pos hc10n] | rw [if_neg hc10n] | rw [if_neg (not_not_intro hc10n)]); (try first | rw [if_pos hc12n] | rw [if_neg hc12n] | rw [if_neg (not_not_intro hc12n)]); (try first | rw [if_pos hc13] | rw [if_neg hc13] | rw [if_neg (not_not_intro hc13)]); (try first | rw [if_pos hc14] | rw [if_neg hc14] | rw [if_neg (not_not_intro hc14)]); (try rw [tN_nI (by omega)]); first | done | rfl) hR
    refine ⟨fun hc15 => ?_, fun hc15n => ?_⟩
    · show GG _ _ _ _ _ _ _ _ _ _ _ _ _
      refine g_aload_0 hX (dk DX12_of_1 16 rfl) ?_
      refine g_iload_1 hX (dk DX12_of_1 17 rfl) ?_
      refine g_aload_0 hX (dk DX12_of_1 18 rfl) ?_
      refine g_getIv hX (dk DX12_of_1 19 rfl) KX12 fX12_13 (by decide) rfl (MLt hM (by decide)) (MC hM) (RM.f hR 1 (by decide) (by decide)) ?_
      refine g_c3q hX sX12_of_190 (by decide) (Nat.le_of_ble_eq_true rfl) (rc0 rfl (MLt hM (by decide)) (MC hM)) (by decide) (by decide) (c_X12_dear hG hM hE (Ag.of hR (by decide) (by decide)) hd10) ?_
      rintro _ J3 _ ⟨rfl, hfr, rfl⟩
      have hR := RM.keep hR hfr (by decide) (by decide) (by decide)
      refine g_ireturn hX (dk DX12_of_1 21 rfl) rfl (rfl) (by decide) (by decide) ?_
      exact qS_of hM hl (by unfold ofS; (try rw [tN_nI (by omega)]); (try first | rw [if_pos hc1] | rw [if_neg hc1] | rw [if_neg (not_not_intro hc1)]); (try first | rw [if_pos hc2n] | rw [if_neg hc2n] | rw [if_neg (not_not_intro hc2n)]); (try first | rw [if_pos hc3n] | rw [if_neg hc3n] | rw [if_neg (not_not_intro hc3n)]); (try first | rw [if_pos hc4n] | rw [if_neg hc4n] | rw [if_neg (not_not_intro hc4n)]); (try first | rw [if_pos hc5n] | rw [if_neg hc5n] | rw [if_neg (not_not_intro hc5n)]); (try first | rw [if_pos hc6n] | rw [if_neg hc6n] | rw [if_neg (not_not_intro hc6n)]); (try first | rw [if_pos hc7n] | rw [if_neg hc7n] | rw [if_neg (not_not_intro hc7n)]); (try first | rw [if_pos hc8n] | rw [if_neg hc8n] | rw [if_neg (not_not_intro hc8n)]); (try first | rw [if_pos hc10n] | rw [if_neg hc10n] | rw [if_neg (not_not_intro hc10n)]); (try first | rw [if_pos hc12n] | rw [if_neg hc12n] | rw [if_neg (not_not_intro hc12n)]); (try first | rw [if_pos hc13n] | rw [if_neg hc13n] | rw [if_neg (not_not_intro hc13n)]); (try first | rw [if_pos hc15] | rw [if_neg hc15] | rw [if_neg (not_not_intro hc15)]); (try rw [tN_nI (by omega)]); first | done | rfl) hR
    refine ⟨fun hc16 => ?_, fun hc16n => ?_⟩
    · show GG _ _ _ _ _ _ _ _ _ _ _ _ _
      refine g_aload_0 hX (dk DX12_of_1 22 rfl) ?_
      refine g_getRs (r := 7) hX (dk DX12_of_1 23 rfl) KX12 fX12_50 (by decide) rfl (MLt hM (by decide)) (MC hM) (MR hM 13 (by decide) rfl) ?_
      refine g_iload_1 hX (dk DX12_of_1 24 rfl) ?_
      refine v_iaload hX (dk DX12_of_1 25 rfl) (MLt hM (q := 7) (by decide)) (MS hM 7 (by decide) rfl) (⟨rfl, hd10, by decide⟩) (RM.c1 hR 7 _ (by decide) (by decide)) ?_
      refine g_ireturn hX (dk DX12_of_1 26 rfl) rfl (rfl) (by decide) (by decide) ?_
      exact qS_of hM hl (by unfold ofS; (try rw [tN_nI (by omega)]); (try first | rw [if_pos hc1] | rw [if_neg hc1] | rw [if_neg (not_not_intro hc1)]); (try first | rw [if_pos hc2n] | rw [if_neg hc2n] | rw [if_neg (not_not_intro hc2n)]); (try first | rw [if_pos hc3n] | rw [if_neg hc3n] | rw [if_neg (not_not_intro hc3n)]); (try first | rw [if_pos hc4n] | rw [if_neg hc4n] | rw [if_neg (not_not_intro hc4n)]); (try first | rw [if_pos hc5n] | rw [if_neg hc5n] | rw [if_neg (not_not_intro hc5n)]); (try first | rw [if_pos hc6n] | rw [if_neg hc6n] | rw [if_neg (not_not_intro hc6n)]); (try first | rw [if_pos hc7n] | rw [if_neg hc7n] | rw [if_neg (not_not_intro hc7n)]); (try first | rw [if_pos hc8n] | rw [if_neg hc8n] | rw [if_neg (not_not_intro hc8n)]); (try first | rw [if_pos hc10n] | rw [if_neg hc10n] | rw [if_neg (not_not_intro hc10n)]); (try first | rw [if_pos hc12n] | rw [if_neg hc12n] | rw [if_neg (not_not_intro hc12n)]); (try first | rw [if_pos hc13n] | rw [if_neg hc13n] | rw [if_neg (not_not_intro hc13n)]); (try first | rw [if_pos hc15n] | rw [if_neg hc15n] | rw [if_neg (not_not_intro hc15n)]); (try first | rw [if_pos hc16] | rw [if_neg hc16] | rw [if_neg (not_not_intro hc16)]); (try rw [tN_nI (by omega)]); first | done | rfl) hR
    show GG _ _ _ _ _ _ _ _ _ _ _ _ _
    refine g_sipush (v := -10001) hX (dk DX12_of_1 27 rfl) (by decide) ?_
    refine g_ireturn hX (dk DX12_of_1 28 rfl) rfl (rfl) (by decide) (by decide) ?_
    exact qS_of hM hl (by unfold ofS; (try rw [tN_nI (by omega)]); (try first | rw [if_pos hc1] | rw [if_neg hc1] | rw [if_neg (not_not_intro hc1)]); (try first | rw [if_pos hc2n] | rw [if_neg hc2n] | rw [if_neg (not_not_intro hc2n)]); (try first | rw [if_pos hc3n] | rw [if_neg hc3n] | rw [if_neg (not_not_intro hc3n)]); (try first | rw [if_pos hc4n] | rw [if_neg hc4n] | rw [if_neg (not_not_intro hc4n)]); (try first | rw [if_pos hc5n] | rw [if_neg hc5n] | rw [if_neg (not_not_intro hc5n)]); (try first | rw [if_pos hc6n] | rw [if_neg hc6n] | rw [if_neg (not_not_intro hc6n)]); (try first | rw [if_pos hc7n] | rw [if_neg hc7n] | rw [if_neg (not_not_intro hc7n)]); (try first | rw [if_pos hc8n] | rw [if_neg hc8n] | rw [if_neg (not_not_intro hc8n)]); (try first | rw [if_pos hc10n] | rw [if_neg hc10n] | rw [if_neg (not_not_intro hc10n)]); (try first | rw [if_pos hc12n] | rw [if_neg hc12n] | rw [if_neg (not_not_intro hc12n)]); (try first | rw [if_pos hc13n] | rw [if_neg hc13n] | rw [if_neg (not_not_intro hc13n)]); (try first | rw [if_pos hc15n] | rw [if_neg hc15n] | rw [if_neg (not_not_intro hc15n)]); (try first | rw [if_pos hc16n] | rw [if_neg hc16n] | rw [if_neg (not_not_intro hc16n)]); (try rw [tN_nI (by omega)]); first | done | rfl) hR
  · refine g_sipush (v := -10001) hX (dk DX12_of_0 4 rfl) (by decide) ?_
    refine g_ireturn hX (dk DX12_of_0 5 rfl) rfl (rfl) (by decide) (by decide) ?_
    exact qS_of hM hl (by unfold ofS; (try rw [tN_nI (by omega)]); (try first | rw [if_pos hc1] | rw [if_neg hc1] | rw [if_neg (not_not_intro hc1)]); (try rw [tN_nI (by omega)]); first | done | rfl) hR

set_option maxRecDepth 8000 in
set_option maxHeartbeats 4000000 in
theorem c_X12_said {G : Gt} (hG : Gok G) {I : It} {h : Ht} (hM : HM h) {E : It} (hE : Inv E) (hR : RM E I) {L : Nat → Int64} (hl : hL h 38 = L) {a y : Int32} : Con G (4) 0 0 mX12_said [.ref 0, .int a, .int y] I h (qS (saidS E a y) L) := by
  refine con_intro (own := RX12) (lo0 := [some (.ref 0), some (.int a), some (.int y)]) hG rfl pl_X12 (Nat.le_of_ble_eq_true rfl) rfl (fun X hX => ?_)
  refine g_aload_0 hX (dk DX12_said 0 rfl) ?_
  refine g_iload_1 hX (dk DX12_said 1 rfl) ?_
  refine g_c2I hX sX12_said_2 (by decide) (Nat.le_of_ble_eq_true rfl) (rc0 rfl (MLt hM (by decide)) (MC hM)) (by decide) (by decide) (cE_isDoing hG hM (RM.f hR 0 (by decide) (by decide))) ?_
  refine g_ifb_eq (tgt := 27) hX (dk DX12_said 3 rfl) (by decide) (fun hc1 => ?_) (fun hc1 => ?_)
  · refine g_iconst (v := -1) hX (dk DX12_said 15 rfl) (by decide) ?_
    refine g_ireturn hX (dk DX12_said 16 rfl) rfl (rfl) (by decide) (by decide) ?_
    exact qS_of hM hl (by unfold saidS; (try rw [tN_nI (by omega)]); (try first | rw [if_pos hc1] | rw [if_neg hc1] | rw [if_neg (not_not_intro hc1)]); (try rw [tN_nI (by omega)]); first | done | rfl) hR
  · refine g_aload_0 hX (dk DX12_said 4 rfl) ?_
    refine g_iload_2 hX (dk DX12_said 5 rfl) ?_
    refine g_c2I hX sX12_said_10 (by decide) (Nat.le_of_ble_eq_true rfl) (rc0 rfl (MLt hM (by decide)) (MC hM)) (by decide) (by decide) (c_X12_isWay hG hM) ?_
    refine g_ifb_eq (tgt := 27) hX (dk DX12_said 7 rfl) (by decide) (fun hc2 => ?_) (fun hc2 => ?_)
    · refine g_iconst (v := -1) hX (dk DX12_said 15 rfl) (by decide) ?_
      refine g_ireturn hX (dk DX12_said 16 rfl) rfl (rfl) (by decide) (by decide) ?_
      exact qS_of hM hl (by unfold saidS; (try rw [tN_nI (by omega)]); (try first | rw [if_pos hc1] | rw [if_neg hc1] | rw [if_neg (not_not_intro hc1)]); (try first | rw [if_pos hc2] | rw [if_neg hc2] | rw [if_neg (not_not_intro hc2)]); (try rw [tN_nI (by omega)]); first | done | rfl) hR
    · obtain ⟨d, hd, rfl⟩ := isD_of hE hc1
      have hd10 := Nat.lt_of_lt_of_le hd (inv_cnt hE).2
      refine g_aload_0 hX (dk DX12_said 8 rfl) ?_
      refine g_iconst (v := 0) hX (dk DX12_said 9 rfl) (by decide) ?_
      refine g_iload_1 hX (dk DX12_said 10 rfl) ?_
      refine g_iload_2 hX (dk DX12_said 11 rfl) ?_
      refine g_iconst (v := 0) hX (dk DX12_said 12 rfl) (by decide) ?_
      refine g_c5q hX sX12_said_21 (by decide) (Nat.le_of_ble_eq_true rfl) (rc0 rfl (MLt hM (by decide)) (MC hM)) (by decide) (by decide) (c_X12_sumOf hG hM hE (Ag.of hR (by decide) (by decide)) hd10 (Or.inl rfl)) ?_
      rintro _ J3 _ ⟨rfl, hfr, rfl⟩
      have hR := RM.keep hR hfr (by decide) (by decide) (by decide)
      refine g_goto (tgt := 28) hX (dk DX12_said 14 rfl) (by decide) ?_
      refine g_ireturn hX (dk DX12_said 16 rfl) rfl (rfl) (by decide) (by decide) ?_
      exact qS_of hM hl (by unfold saidS; (try rw [tN_nI (by omega)]); (try first | rw [if_pos hc1] | rw [if_neg hc1] | rw [if_neg (not_not_intro hc1)]); (try first | rw [if_pos hc2] | rw [if_neg hc2] | rw [if_neg (not_not_intro hc2)]); (try rw [tN_nI (by omega)]); first | done | rfl) hR

set_option maxRecDepth 8000 in
set_option maxHeartbeats 4000000 in
theorem c_X12_hand {G : Gt} (hG : Gok G) {I : It} {h : Ht} (hM : HM h) {E : It} (hE : Inv E) (hR : RM E I) {L : Nat → Int64} (hl : hL h 38 = L)  : Con G (5) 0 0 mX12_hand [.ref 0] I h (qS (handS E) L) := by
  refine con_intro (own := RX12) (lo0 := [some (.ref 0), none]) hG rfl pl_X12 (Nat.le_of_ble_eq_true rfl) rfl (fun X hX => ?_)
  refine g_aload_0 hX (dk DX12_hand 0 rfl) ?_
  refine g_c1v hX sX12_hand_1 (by decide) (Nat.le_of_ble_eq_true rfl) (rc0 rfl (MLt hM (by decide)) (MC hM)) (by decide) (by decide) (c_X12_laySaid hG hM hE (Ag.of hR (by decide) (by decide))) ?_
  rintro J2 _ ⟨hS, hfr, rfl⟩
  have hR := RM.keep hR hfr (by decide) (by decide) (by decide)
  refine g_aload_0 hX (dk DX12_hand 2 rfl) ?_
  refine g_aload_0 hX (dk DX12_hand 3 rfl) ?_
  refine g_getIv hX (dk DX12_hand 4 rfl) KX12 fX12_25 (by decide) rfl (MLt hM (by decide)) (MC hM) (RM.f hR 5 (by decide) (by decide)) ?_
  refine g_c2I hX sX12_hand_9 (by decide) (Nat.le_of_ble_eq_true rfl) (rc0 rfl (MLt hM (by decide)) (MC hM)) (by decide) (by decide) (cE_ones hG (inv_kn hE) (inv_cnt hE).2) ?_
  refine g_istore_1 hX (dk DX12_hand 6 rfl) (by decide) rfl ?_
  refine g_aload_0 hX (dk DX12_hand 7 rfl) ?_
  refine g_dup hX (dk DX12_hand 8 rfl) rfl ?_
  refine g_getIv hX (dk DX12_hand 9 rfl) KX12 fX12_25 (by decide) rfl (MLt hM (by decide)) (MC hM) (RM.f hR 5 (by decide) (by decide)) ?_
  refine g_aload_0 hX (dk DX12_hand 10 rfl) ?_
  refine g_c1I hX sX12_hand_19 (by decide) (Nat.le_of_ble_eq_true rfl) (rc0 rfl (MLt hM (by decide)) (MC hM)) (by decide) (by decide) (cE_over hG hM hE hR hS) ?_
  refine g_ior hX (dk DX12_hand 12 rfl) ?_
  refine g_putI hX (dk DX12_hand 13 rfl) KX12 fX12_25 (by decide) rfl (MLt hM (by decide)) (MC hM) (Or.inl rfl) (rfl) (rfl) ?_
  refine g_aload_0 hX (dk DX12_hand 14 rfl) ?_
  refine g_aload_0 hX (dk DX12_hand 15 rfl) ?_
  refine g_getIv hX (dk DX12_hand 16 rfl) KX12 fX12_25 (by decide) rfl (MLt hM (by decide)) (MC hM) (up0 _ _ _ _) ?_
  refine g_c2I hX sX12_hand_31 (by decide) (Nat.le_of_ble_eq_true rfl) (rc0 rfl (MLt hM (by decide)) (MC hM)) (by decide) (by decide) (cE_ones hG (kb_or (inv_kn hE) (kb_over _ (inv_cnt hE).2)) (inv_cnt hE).2) ?_
  refine g_iload_1 hX (dk DX12_hand 18 rfl) ?_
  refine g_isub hX (dk DX12_hand 19 rfl) ?_
  refine g_ireturn hX (dk DX12_hand 20 rfl) rfl (rfl) (by decide) (by decide) ?_
  exact qS_of hM hl rfl (RM.upf hR (by decide))

set_option maxRecDepth 8000 in
set_option maxHeartbeats 4000000 in
theorem c_X12_go {G : Gt} (hG : Gok G) {I : It} {h : Ht} (hM : HM h) {E : It} (hE : Inv E) (hR : RM E I) {L : Nat → Int64} (hl : hL h 38 = L) {n : Int32} : Con G (7) 0 0 mX12_go [.ref 0, .int n] I h (qS (goS E n) L) := by
  refine con_intro (own := RX12) (lo0 := [some (.ref 0), some (.int n)]) hG rfl pl_X12 (Nat.le_of_ble_eq_true rfl) rfl (fun X hX => ?_)
  refine g_aload_0 hX (dk DX12_go 0 rfl) ?_
  refine g_iload_1 hX (dk DX12_go 1 rfl) ?_
  refine g_iconst (v := 1) hX (dk DX12_go 2 rfl) (by decide) ?_
  refine g_bipush (v := 60) hX (dk DX12_go 3 rfl) (by decide) ?_
  refine g_c4I hX sX12_go_5 (by decide) (Nat.le_of_ble_eq_true rfl) (rc0 rfl (MLt hM (by decide)) (MC hM)) (by decide) (by decide) (c_X12_in hG ) ?_
  refine g_ifb_ne (tgt := 14) hX (dk DX12_go 5 rfl) (by decide) (fun hc1 => ?_) (fun hc1 => ?_)
  · obtain ⟨m, hm1, hm2, rfl⟩ := in1_of (c := 1) (b := 60) (by decide) (by decide) hc1
    refine g_aload_0 hX (dk DX12_go 8 rfl) ?_
    refine g_getIv hX (dk DX12_go 9 rfl) KX12 fX12_13 (by decide) rfl (MLt hM (by decide)) (MC hM) (RM.f hR 1 (by decide) (by decide)) ?_
    refine g_iload_1 hX (dk DX12_go 10 rfl) ?_
    refine g_iadd hX (dk DX12_go 11 rfl) ?_
    refine g_sipush (v := 9999) hX (dk DX12_go 12 rfl) (by decide) ?_
    refine g_icmp_le (tgt := 29) hX (dk DX12_go 13 rfl) (by decide) (fun hc2 => ?_) (fun hc2 => ?_)
    · refine g_aload_0 hX (dk DX12_go 16 rfl) ?_
      refine g_aload_0 hX (dk DX12_go 17 rfl) ?_
      refine g_getIv hX (dk DX12_go 18 rfl) KX12 fX12_25 (by decide) rfl (MLt hM (by decide)) (MC hM) (RM.f hR 5 (by decide) (by decide)) ?_
      refine g_aload_0 hX (dk DX12_go 19 rfl) ?_
      refine g_getIv hX (dk DX12_go 20 rfl) KX12 fX12_28 (by decide) rfl (MLt hM (by decide)) (MC hM) (RM.f hR 6 (by decide) (by decide)) ?_
      refine g_c3v hX sX12_go_38 (by decide) (Nat.le_of_ble_eq_true rfl) (rc0 rfl (MLt hM (by decide)) (MC hM)) (by decide) (by decide) (c_X12_begins hG hM) ?_
      rintro J1 _ ⟨hT, hfr, rfl⟩
      have hR := RM.keep hR hfr (by decide) (by decide) (by decide)
      refine g_aload_0 hX (dk DX12_go 22 rfl) ?_
      refine g_iload_1 hX (dk DX12_go 23 rfl) ?_
      refine g_c2v hX sX12_go_43 (by decide) (Nat.le_of_ble_eq_true rfl) (rc0 rfl (MLt hM (by decide)) (MC hM)) (by decide) (by decide) (c_X12_goWeeks hG hM hE (Ag.of hR (by decide) (by decide)) (by omega) hT) ?_
      rintro J2 _ ⟨hT, hfr, rfl⟩
      have hT := TS.all hT
      have hR := RM.keep hR hfr (by decide) (by decide) (by decide)
      refine g_aload_0 hX (dk DX12_go 25 rfl) ?_
      refine g_dup hX (dk DX12_go 26 rfl) rfl ?_
      refine g_getIv hX (dk DX12_go 27 rfl) KX12 fX12_13 (by decide) rfl (MLt hM (by decide)) (MC hM) (RM.f hR 1 (by decide) (by decide)) ?_
      refine g_iload_1 hX (dk DX12_go 28 rfl) ?_
      refine g_iadd hX (dk DX12_go 29 rfl) ?_
      refine g_putI hX (dk DX12_go 30 rfl) KX12 fX12_13 (by decide) rfl (MLt hM (by decide)) (MC hM) (Or.inl rfl) (rfl) (rfl) ?_
      refine g_aload_0 hX (dk DX12_go 31 rfl) ?_
      refine g_aload_0 hX (dk DX12_go 32 rfl) ?_
      refine g_getIv hX (dk DX12_go 33 rfl) KX12 fX12_114 (by decide) rfl (MLt hM (by decide)) (MC hM) (hT.1) ?_
      refine g_putI hX (dk DX12_go 34 rfl) KX12 fX12_25 (by decide) rfl (MLt hM (by decide)) (MC hM) (Or.inl rfl) (rfl) (rfl) ?_
      refine g_aload_0 hX (dk DX12_go 35 rfl) ?_
      refine g_dup hX (dk DX12_go 36 rfl) rfl ?_
      refine g_getIv hX (dk DX12_go 37 rfl) KX12 fX12_16 (by decide) rfl (MLt hM (by decide)) (MC hM) (RM.f hR 2 (by decide) (by decide)) ?_
      refine g_aload_0 hX (dk DX12_go 38 rfl) ?_
      refine g_getIv hX (dk DX12_go 39 rfl) KX12 fX12_120 (by decide) rfl (MLt hM (by decide)) (MC hM) (hT.2.2.1) ?_
      refine g_iadd hX (dk DX12_go 40 rfl) ?_
      refine g_putI hX (dk DX12_go 41 rfl) KX12 fX12_16 (by decide) rfl (MLt hM (by decide)) (MC hM) (Or.inl rfl) (rfl) (rfl) ?_
      refine g_aload_0 hX (dk DX12_go 42 rfl) ?_
      refine g_dup hX (dk DX12_go 43 rfl) rfl ?_
      refine g_getIv hX (dk DX12_go 44 rfl) KX12 fX12_19 (by decide) rfl (MLt hM (by decide)) (MC hM) (RM.f hR 3 (by decide) (by decide)) ?_
      refine g_aload_0 hX (dk DX12_go 45 rfl) ?_
      refine g_getIv hX (dk DX12_go 46 rfl) KX12 fX12_123 (by decide) rfl (MLt hM (by decide)) (MC hM) (hT.2.2.2.1) ?_
      refine g_iadd hX (dk DX12_go 47 rfl) ?_
      refine g_putI hX (dk DX12_go 48 rfl) KX12 fX12_19 (by decide) rfl (MLt hM (by decide)) (MC hM) (Or.inl rfl) (rfl) (rfl) ?_
      refine g_aload_0 hX (dk DX12_go 49 rfl) ?_
      refine g_dup hX (dk DX12_go 50 rfl) rfl ?_
      refine g_getIv hX (dk DX12_go 51 rfl) KX12 fX12_22 (by decide) rfl (MLt hM (by decide)) (MC hM) (RM.f hR 4 (by decide) (by decide)) ?_
      refine g_aload_0 hX (dk DX12_go 52 rfl) ?_
      refine g_getIv hX (dk DX12_go 53 rfl) KX12 fX12_126 (by decide) rfl (MLt hM (by decide)) (MC hM) (hT.2.2.2.2.1) ?_
      refine g_iadd hX (dk DX12_go 54 rfl) ?_
      refine g_putI hX (dk DX12_go 55 rfl) KX12 fX12_22 (by decide) rfl (MLt hM (by decide)) (MC hM) (Or.inl rfl) (rfl) (rfl) ?_
      refine g_aload_0 hX (dk DX12_go 56 rfl) ?_
      refine g_getIv hX (dk DX12_go 57 rfl) KX12 fX12_13 (by decide) rfl (MLt hM (by decide)) (MC hM) ((show _ = E 0 1 + nI m from rfl)) ?_
      refine g_ireturn hX (dk DX12_go 58 rfl) rfl (rfl) (by decide) (by decide) ?_
      exact qS_of hM hl (by unfold goS; (try first | rw [if_pos hc1] | rw [if_neg hc1] | rw [if_neg (not_not_intro hc1)]); (try first | rw [if_pos hc2] | rw [if_neg hc2] | rw [if_neg (not_not_intro hc2)]); rw [tN_nI (by omega)]; rfl) (RM.upf (RM.upf (RM.upf (RM.upf (RM.upf hR (by decide)) (by decide)) (by decide)) (by decide)) (by decide))
    · refine g_bipush (v := -3) hX (dk DX12_go 14 rfl) (by decide) ?_
      refine g_ireturn hX (dk DX12_go 15 rfl) rfl (rfl) (by decide) (by decide) ?_
      exact qS_of hM hl (by unfold goS; (try first | rw [if_pos hc1] | rw [if_neg hc1] | rw [if_neg (not_not_intro hc1)]); (try first | rw [if_pos hc2] | rw [if_neg hc2] | rw [if_neg (not_not_intro hc2)]); first | done | rfl) hR
  · refine g_bipush (v := -2) hX (dk DX12_go 6 rfl) (by decide) ?_
    refine g_ireturn hX (dk DX12_go 7 rfl) rfl (rfl) (by decide) (by decide) ?_
    exact qS_of hM hl (by unfold goS; (try first | rw [if_pos hc1] | rw [if_neg hc1] | rw [if_neg (not_not_intro hc1)]); first | done | rfl) hR

set_option maxRecDepth 8000 in
set_option maxHeartbeats 4000000 in
theorem c_X12_run {G : Gt} (hG : Gok G) {I : It} {h : Ht} (hM : HM h) {E : It} (hE : Inv E) (hR : RM E I) {L : Nat → Int64} (hl : hL h 38 = L) {n w : Int32} : Con G (7) 0 0 mX12_run [.ref 0, .int n, .int w] I h (qS (runS E n w) L) := by
  refine con_intro (own := RX12) (lo0 := [some (.ref 0), some (.int n), some (.int w)]) hG rfl pl_X12 (Nat.le_of_ble_eq_true rfl) rfl (fun X hX => ?_)
  refine g_aload_0 hX (dk DX12_run 0 rfl) ?_
  refine g_iload_2 hX (dk DX12_run 1 rfl) ?_
  refine g_iconst (v := 0) hX (dk DX12_run 2 rfl) (by decide) ?_
  refine g_iconst (v := 5) hX (dk DX12_run 3 rfl) (by decide) ?_
  refine g_c4I hX sX12_run_4 (by decide) (Nat.le_of_ble_eq_true rfl) (rc0 rfl (MLt hM (by decide)) (MC hM)) (by decide) (by decide) (c_X12_in hG ) ?_
  refine g_ifb_ne (tgt := 14) hX (dk DX12_run 5 rfl) (by decide) (fun hc1 => ?_) (fun hc1 => ?_)
  · refine g_aload_0 hX (dk DX12_run 8 rfl) ?_
    refine g_iload_1 hX (dk DX12_run 9 rfl) ?_
    refine g_iconst (v := 0) hX (dk DX12_run 10 rfl) (by decide) ?_
    refine g_sipush (v := 200) hX (dk DX12_run 11 rfl) (by decide) ?_
    refine g_c4I hX sX12_run_20 (by decide) (Nat.le_of_ble_eq_true rfl) (rc0 rfl (MLt hM (by decide)) (MC hM)) (by decide) (by decide) (c_X12_in hG ) ?_
    refine g_ifb_ne (tgt := 30) hX (dk DX12_run 13 rfl) (by decide) (fun hc2 => ?_) (fun hc2 => ?_)
    · obtain ⟨m, hm2, rfl⟩ := in_of (b := 200) (by decide) hc2
      refine g_aload_0 hX (dk DX12_run 16 rfl) ?_
      refine g_aload_0 hX (dk DX12_run 17 rfl) ?_
      refine g_getIv hX (dk DX12_run 18 rfl) KX12 fX12_25 (by decide) rfl (MLt hM (by decide)) (MC hM) (RM.f hR 5 (by decide) (by decide)) ?_
      refine g_aload_0 hX (dk DX12_run 19 rfl) ?_
      refine g_getIv hX (dk DX12_run 20 rfl) KX12 fX12_28 (by decide) rfl (MLt hM (by decide)) (MC hM) (RM.f hR 6 (by decide) (by decide)) ?_
      refine g_c3v hX sX12_run_39 (by decide) (Nat.le_of_ble_eq_true rfl) (rc0 rfl (MLt hM (by decide)) (MC hM)) (by decide) (by decide) (c_X12_begins hG hM) ?_
      rintro J1 _ ⟨hT, hfr, rfl⟩
      have hR := RM.keep hR hfr (by decide) (by decide) (by decide)
      refine g_aload_0 hX (dk DX12_run 22 rfl) ?_
      refine g_iload_1 hX (dk DX12_run 23 rfl) ?_
      refine g_c2v hX sX12_run_44 (by decide) (Nat.le_of_ble_eq_true rfl) (rc0 rfl (MLt hM (by decide)) (MC hM)) (by decide) (by decide) (c_X12_goWeeks hG hM hE (Ag.of hR (by decide) (by decide)) (by omega) hT) ?_
      rintro J2 _ ⟨hT, hfr, rfl⟩
      have hT := TS.all hT
      have hR := RM.keep hR hfr (by decide) (by decide) (by decide)
      refine g_iload_2 hX (dk DX12_run 25 rfl) ?_
      refine g_tswitch (dt := 113) hX [(0, 84), (1, 89), (2, 94), (3, 99), (4, 108)] (dk DX12_run 26 rfl) (by decide +kernel) ?_
      refine ⟨fun hc3 => ?_, fun hc3n => ?_⟩
      · show GG _ _ _ _ _ _ _ _ _ _ _ _ _
        refine g_aload_0 hX (dk DX12_run 27 rfl) ?_
        refine g_getIv hX (dk DX12_run 28 rfl) KX12 fX12_120 (by decide) rfl (MLt hM (by decide)) (MC hM) (hT.2.2.1) ?_
        refine g_ireturn hX (dk DX12_run 29 rfl) rfl (rfl) (by decide) (by decide) ?_
        exact qS_of hM hl (by unfold runS; (try rw [tN_nI (by omega)]); (try first | rw [if_pos hc1] | rw [if_neg hc1] | rw [if_neg (not_not_intro hc1)]); (try first | rw [if_pos hc2] | rw [if_neg hc2] | rw [if_neg (not_not_intro hc2)]); (try first | rw [if_pos hc3] | rw [if_neg hc3] | rw [if_neg (not_not_intro hc3)]); (try rw [tN_nI (by omega)]); first | done | rfl) hR
      refine ⟨fun hc4 => ?_, fun hc4n => ?_⟩
      · show GG _ _ _ _ _ _ _ _ _ _ _ _ _
        refine g_aload_0 hX (dk DX12_run 30 rfl) ?_
        refine g_getIv hX (dk DX12_run 31 rfl) KX12 fX12_123 (by decide) rfl (MLt hM (by decide)) (MC hM) (hT.2.2.2.1) ?_
        refine g_ireturn hX (dk DX12_run 32 rfl) rfl (rfl) (by decide) (by decide) ?_
        exact qS_of hM hl (by unfold runS; (try rw [tN_nI (by omega)]); (try first | rw [if_pos hc1] | rw [if_neg hc1] | rw [if_neg (not_not_intro hc1)]); (try first | rw [if_pos hc2] | rw [if_neg hc2] | rw [if_neg (not_not_intro hc2)]); (try first | rw [if_pos hc3n] | rw [if_neg hc3n] | rw [if_neg (not_not_intro hc3n)]); (try first | rw [if_pos hc4] | rw [if_neg hc4] | rw [if_neg (not_not_intro hc4)]); (try rw [tN_nI (by omega)]); first | done | rfl) hR
      refine ⟨fun hc5 => ?_, fun hc5n => ?_⟩
      · show GG _ _ _ _ _ _ _ _ _ _ _ _ _
        refine g_aload_0 hX (dk DX12_run 33 rfl) ?_
        refine g_getIv hX (dk DX12_run 34 rfl) KX12 fX12_126 (by decide) rfl (MLt hM (by decide)) (MC hM) (hT.2.2.2.2.1) ?_
        refine g_ireturn hX (dk DX12_run 35 rfl) rfl (rfl) (by decide) (by decide) ?_
        exact qS_of hM hl (by unfold runS; (try rw [tN_nI (by omega)]); (try first | rw [if_pos hc1] | rw [if_neg hc1] | rw [if_neg (not_not_intro hc1)]); (try first | rw [if_pos hc2] | rw [if_neg hc2] | rw [if_neg (not_not_intro hc2)]); (try first | rw [if_pos hc3n] | rw [if_neg hc3n] | rw [if_neg (not_not_intro hc3n)]); (try first | rw [if_pos hc4n] | rw [if_neg hc4n] | rw [if_neg (not_not_intro hc4n)]); (try first | rw [if_pos hc5] | rw [if_neg hc5] | rw [if_neg (not_not_intro hc5)]); (try rw [tN_nI (by omega)]); first | done | rfl) hR
      refine ⟨fun hc6 => ?_, fun hc6n => ?_⟩
      · show GG _ _ _ _ _ _ _ _ _ _ _ _ _
        refine g_aload_0 hX (dk DX12_run 36 rfl) ?_
        refine g_aload_0 hX (dk DX12_run 37 rfl) ?_
        refine g_getIv hX (dk DX12_run 38 rfl) KX12 fX12_114 (by decide) rfl (MLt hM (by decide)) (MC hM) (hT.1) ?_
        refine g_c2I hX sX12_run_104 (by decide) (Nat.le_of_ble_eq_true rfl) (rc0 rfl (MLt hM (by decide)) (MC hM)) (by decide) (by decide) (cE_ones hG (kb_run hE (inv_kn hE)) (inv_cnt hE).2) ?_
        refine g_ireturn hX (dk DX12_run 40 rfl) rfl (rfl) (by decide) (by decide) ?_
        exact qS_of hM hl (by unfold runS; (try rw [tN_nI (by omega)]); (try first | rw [if_pos hc1] | rw [if_neg hc1] | rw [if_neg (not_not_intro hc1)]); (try first | rw [if_pos hc2] | rw [if_neg hc2] | rw [if_neg (not_not_intro hc2)]); (try first | rw [if_pos hc3n] | rw [if_neg hc3n] | rw [if_neg (not_not_intro hc3n)]); (try first | rw [if_pos hc4n] | rw [if_neg hc4n] | rw [if_neg (not_not_intro hc4n)]); (try first | rw [if_pos hc5n] | rw [if_neg hc5n] | rw [if_neg (not_not_intro hc5n)]); (try first | rw [if_pos hc6] | rw [if_neg hc6] | rw [if_neg (not_not_intro hc6)]); (try rw [tN_nI (by omega)]); first | done | rfl) hR
      refine ⟨fun hc7 => ?_, fun hc7n => ?_⟩
      · show GG _ _ _ _ _ _ _ _ _ _ _ _ _
        refine g_aload_0 hX (dk DX12_run 41 rfl) ?_
        refine g_getIv hX (dk DX12_run 42 rfl) KX12 fX12_129 (by decide) rfl (MLt hM (by decide)) (MC hM) (hT.2.2.2.2.2.1) ?_
        refine g_ireturn hX (dk DX12_run 43 rfl) rfl (rfl) (by decide) (by decide) ?_
        exact qS_of hM hl (by unfold runS; (try rw [tN_nI (by omega)]); (try first | rw [if_pos hc1] | rw [if_neg hc1] | rw [if_neg (not_not_intro hc1)]); (try first | rw [if_pos hc2] | rw [if_neg hc2] | rw [if_neg (not_not_intro hc2)]); (try first | rw [if_pos hc3n] | rw [if_neg hc3n] | rw [if_neg (not_not_intro hc3n)]); (try first | rw [if_pos hc4n] | rw [if_neg hc4n] | rw [if_neg (not_not_intro hc4n)]); (try first | rw [if_pos hc5n] | rw [if_neg hc5n] | rw [if_neg (not_not_intro hc5n)]); (try first | rw [if_pos hc6n] | rw [if_neg hc6n] | rw [if_neg (not_not_intro hc6n)]); (try first | rw [if_pos hc7] | rw [if_neg hc7] | rw [if_neg (not_not_intro hc7)]); (try rw [tN_nI (by omega)]); first | done | rfl) hR
      show GG _ _ _ _ _ _ _ _ _ _ _ _ _
      refine g_aload_0 hX (dk DX12_run 44 rfl) ?_
      refine g_getIv hX (dk DX12_run 45 rfl) KX12 fX12_132 (by decide) rfl (MLt hM (by decide)) (MC hM) (hT.2.2.2.2.2.2) ?_
      refine g_ireturn hX (dk DX12_run 46 rfl) rfl (rfl) (by decide) (by decide) ?_
      exact qS_of hM hl (by unfold runS; (try rw [tN_nI (by omega)]); (try first | rw [if_pos hc1] | rw [if_neg hc1] | rw [if_neg (not_not_intro hc1)]); (try first | rw [if_pos hc2] | rw [if_neg hc2] | rw [if_neg (not_not_intro hc2)]); (try first | rw [if_pos hc3n] | rw [if_neg hc3n] | rw [if_neg (not_not_intro hc3n)]); (try first | rw [if_pos hc4n] | rw [if_neg hc4n] | rw [if_neg (not_not_intro hc4n)]); (try first | rw [if_pos hc5n] | rw [if_neg hc5n] | rw [if_neg (not_not_intro hc5n)]); (try first | rw [if_pos hc6n] | rw [if_neg hc6n] | rw [if_neg (not_not_intro hc6n)]); (try first | rw [if_pos hc7n] | rw [if_neg hc7n] | rw [if_neg (not_not_intro hc7n)]); (try rw [tN_nI (by omega)]); first | done | rfl) hR
    · refine g_sipush (v := -10002) hX (dk DX12_run 14 rfl) (by decide) ?_
      refine g_ireturn hX (dk DX12_run 15 rfl) rfl (rfl) (by decide) (by decide) ?_
      exact qS_of hM hl (by unfold runS; (try rw [tN_nI (by omega)]); (try first | rw [if_pos hc1] | rw [if_neg hc1] | rw [if_neg (not_not_intro hc1)]); (try first | rw [if_pos hc2] | rw [if_neg hc2] | rw [if_neg (not_not_intro hc2)]); (try rw [tN_nI (by omega)]); first | done | rfl) hR
  · refine g_sipush (v := -10001) hX (dk DX12_run 6 rfl) (by decide) ?_
    refine g_ireturn hX (dk DX12_run 7 rfl) rfl (rfl) (by decide) (by decide) ?_
    exact qS_of hM hl (by unfold runS; (try rw [tN_nI (by omega)]); (try first | rw [if_pos hc1] | rw [if_neg hc1] | rw [if_neg (not_not_intro hc1)]); (try rw [tN_nI (by omega)]); first | done | rfl) hR
end
section
def upH (hr : Nat → Int32) (y : Nat) : Nat → Int32 := upd hr y (hr y + 1)
theorem cE_costHanded {G : Gt} (hG : Gok G) {I : It} {h : Ht} (hM : HM h) {E : It} (hE : Inv E) (hA : Ag E I) {m : Nat} (hm : m ≤ 200) (hS : SY E I) {hr : Nat → Int32} (h8 : I 8 = hr) (h5 : I 0 5 = E 0 5) (h6 : I 0 6 = E 0 6) : Con G 8 0 0 mX12_costHanded [.ref 0, .int (nI m)] I h (qF (hcF E hr m) [34, 35, 36, 37, 38, 39, 40] [18, 20] I h) := by
  have hc := c_X12_costHanded hG hM hE hA hm hS
  rw [h8, h5, h6] at hc
  exact hc
def moreS (E : It) (y n : Int32) : Int32 × It := if ¬ (0 ≤ y ∧ y ≤ 3) then (-10001, E) else if ¬ (0 ≤ n ∧ n ≤ 60) then (-10002, E) else if E 8 (tN y) = 9 then (0, E) else (hcF E (E 8) (tN n) - hcF E (upH (E 8) (tN y)) (tN n), E)
def askS (E : It) (n : Int32) : Int32 × It := if ¬ (0 ≤ n ∧ n ≤ 60) then (-2, E) else (askF E (tN n), E)
def dropS (E : It) (n : Int32) : Int32 × It := if ¬ (0 ≤ n ∧ n ≤ 60) then (-2, E) else (dropF E (tN n), E)
def whenS (E : It) (a : Int32) : Int32 × It := if ¬ isD E a then (-1, E) else (nI (whR E (tN a) 60 (wk E)), E)
def busiestS (E : It) (n w : Int32) : Int32 × It := if ¬ (0 ≤ w ∧ w ≤ 1) then (-1, E) else if ¬ (1 ≤ n ∧ n ≤ 200) then (-2, E) else if w = 0 then (nI (bsR E (tN n - 1) (wk E + 1) (wk E)), E) else (manyF E (bsR E (tN n - 1) (wk E + 1) (wk E)), E)
def allS (E : It) (s : Int32) : Int32 × It := if ¬ (1 ≤ s ∧ s ≤ bitI (E 0 0) - 1) then (-2, E) else (alR E s 3601 0, E)
def listS (E : It) (w a : Int32) : Int32 × It := if w = -1 then (0, upI E 0 44 0) else if ¬ (0 ≤ w ∧ w ≤ 99) then (-2, E) else if ¬ isD E a then (-1, E) else if E 0 44 = 12 then (-4, E) else (E 0 44 + 1, upI (upI (upI E 23 (tN (E 0 44)) w) 24 (tN (E 0 44)) a) 0 44 (E 0 44 + 1))
def traceS (E : It) (a : Int32) : Int32 × It := if ¬ (0 ≤ a ∧ a ≤ 19) then (-1, E) else if E 0 67 ≤ a then (-1, E) else (E 35 (tN a), E)
def takenS (E : It) (a k : Int32) : Int32 × It := if ¬ (0 ≤ k ∧ k ≤ 6) then (-2, E) else if ¬ isD E a then (-11, E) else if k = 0 ∨ E 1 (tN a) = k ∨ (k = 1 ∧ E 1 (tN a) = 4) ∨ (k = 2 ∧ E 1 (tN a) = 5) ∨ (k = 3 ∧ E 1 (tN a) = 6) then (E 1 (tN a), E) else (-12, E)
def countS (E : It) (w : Int32) : Int32 × It := if w = 0 then (E 0 0, E) else if w = 1 then (E 0 15, E) else if w = 2 then (E 0 44, E) else if w = 3 then (E 0 17, E) else if w = 4 then (E 0 67, E) else if w = 5 then (onesI (E 0 5), E) else (-2, E)
theorem row_ix {E : It} (hE : Inv E) (h : ¬ E 0 44 = 12) : idx (E 0 44) (tN (E 0 44)) 12 := by
  obtain ⟨f, hf, e⟩ := hE.1.2.2.2.1
  rw [e] at h ⊢
  rw [tN_nI (by omega)]
  refine ⟨rfl, ?_, by decide⟩
  rcases Nat.lt_or_ge f 12 with z | z
  · exact z
  · exact absurd (by rw [show f = 12 by omega]; rfl) h
set_option maxRecDepth 8000 in
set_option maxHeartbeats 4000000 in
theorem c_X12_more {G : Gt} (hG : Gok G) {I : It} {h : Ht} (hM : HM h) {E : It} (hE : Inv E) (hR : RM E I) {L : Nat → Int64} (hl : hL h 38 = L) {y n : Int32} : Con G (9) 0 0 mX12_more [.ref 0, .int y, .int n] I h (qS (moreS E y n) L) := by
  refine con_intro (own := RX12) (lo0 := [some (.ref 0), some (.int y), some (.int n), none, none]) hG rfl pl_X12 (Nat.le_of_ble_eq_true rfl) rfl (fun X hX => ?_)
  refine g_aload_0 hX (dk DX12_more 0 rfl) ?_
  refine g_iload_1 hX (dk DX12_more 1 rfl) ?_
  refine g_c2I hX sX12_more_2 (by decide) (Nat.le_of_ble_eq_true rfl) (rc0 rfl (MLt hM (by decide)) (MC hM)) (by decide) (by decide) (c_X12_isWay hG hM) ?_
  refine g_ifb_ne (tgt := 12) hX (dk DX12_more 3 rfl) (by decide) (fun hc1 => ?_) (fun hc1 => ?_)
  · obtain ⟨y, hy, rfl⟩ := in_of (b := 3) (by decide) hc1
    refine g_aload_0 hX (dk DX12_more 6 rfl) ?_
    refine g_iload_2 hX (dk DX12_more 7 rfl) ?_
    refine g_iconst (v := 0) hX (dk DX12_more 8 rfl) (by decide) ?_
    refine g_bipush (v := 60) hX (dk DX12_more 9 rfl) (by decide) ?_
    refine g_c4I hX sX12_more_17 (by decide) (Nat.le_of_ble_eq_true rfl) (rc0 rfl (MLt hM (by decide)) (MC hM)) (by decide) (by decide) (c_X12_in hG ) ?_
    refine g_ifb_ne (tgt := 27) hX (dk DX12_more 11 rfl) (by decide) (fun hc2 => ?_) (fun hc2 => ?_)
    · obtain ⟨m, hm2, rfl⟩ := in_of (b := 60) (by decide) hc2
      refine g_aload_0 hX (dk DX12_more 14 rfl) ?_
      refine g_getRs (r := 8) hX (dk DX12_more 15 rfl) KX12 fX12_53 (by decide) rfl (MLt hM (by decide)) (MC hM) (MR hM 14 (by decide) rfl) ?_
      refine g_iload_1 hX (dk DX12_more 16 rfl) ?_
      refine v_iaload hX (dk DX12_more 17 rfl) (MLt hM (q := 8) (by decide)) (MS hM 8 (by decide) rfl) (⟨rfl, by omega, by decide⟩) (RM.c1 hR 8 _ (by decide) (by decide)) ?_
      refine g_bipush (v := 9) hX (dk DX12_more 18 rfl) (by decide) ?_
      refine g_icmp_ne (tgt := 40) hX (dk DX12_more 19 rfl) (by decide) (fun hc3 => ?_) (fun hc3 => ?_)
      · refine g_aload_0 hX (dk DX12_more 22 rfl) ?_
        refine g_c1v hX sX12_more_41 (by decide) (Nat.le_of_ble_eq_true rfl) (rc0 rfl (MLt hM (by decide)) (MC hM)) (by decide) (by decide) (c_X12_laySaid hG hM hE (Ag.of hR (by decide) (by decide))) ?_
        rintro J2 _ ⟨hS, hfr, rfl⟩
        have hR := RM.keep hR hfr (by decide) (by decide) (by decide)
        refine g_aload_0 hX (dk DX12_more 24 rfl) ?_
        refine g_iload_2 hX (dk DX12_more 25 rfl) ?_
        refine g_c2q hX sX12_more_46 (by decide) (Nat.le_of_ble_eq_true rfl) (rc0 rfl (MLt hM (by decide)) (MC hM)) (by decide) (by decide) (cE_costHanded hG hM hE (Ag.of hR (by decide) (by decide)) (by omega) hS (RM.c hR 8 (by decide) (by decide)) (RM.f hR 5 (by decide) (by decide)) (RM.f hR 6 (by decide) (by decide))) ?_
        rintro _ J3 _ ⟨rfl, hfr, rfl⟩
        have hS := hS.fr hfr (by decide)
        have hR := RM.keep hR hfr (by decide) (by decide) (by decide)
        refine g_istore_3 hX (dk DX12_more 27 rfl) (by decide) rfl ?_
        refine g_aload_0 hX (dk DX12_more 28 rfl) ?_
        refine g_getRs (r := 8) hX (dk DX12_more 29 rfl) KX12 fX12_53 (by decide) rfl (MLt hM (by decide)) (MC hM) (MR hM 14 (by decide) rfl) ?_
        refine g_iload_1 hX (dk DX12_more 30 rfl) ?_
        refine g_dup2 hX (dk DX12_more 31 rfl) rfl rfl ?_
        refine v_iaload hX (dk DX12_more 32 rfl) (MLt hM (q := 8) (by decide)) (MS hM 8 (by decide) rfl) (⟨rfl, by omega, by decide⟩) (RM.c1 hR 8 _ (by decide) (by decide)) ?_
        refine g_iconst (v := 1) hX (dk DX12_more 33 rfl) (by decide) ?_
        refine g_iadd hX (dk DX12_more 34 rfl) ?_
        refine i_iastore hX (dk DX12_more 35 rfl) (MLt hM (q := 8) (by decide)) (MS hM 8 (by decide) rfl) (⟨rfl, by omega, by decide⟩) ?_
        refine g_aload_0 hX (dk DX12_more 36 rfl) ?_
        refine g_iload_2 hX (dk DX12_more 37 rfl) ?_
        refine g_c2q hX sX12_more_62 (by decide) (Nat.le_of_ble_eq_true rfl) (rc0 rfl (MLt hM (by decide)) (MC hM)) (by decide) (by decide) (cE_costHanded hG hM hE (Ag.keep (Ag.of hR (by decide) (by decide)) (Fr.rf (F := []) (C := [8])).pcw (by decide) (by decide)) (by omega) (hS.fr (Fr.rf (F := []) (C := [8])).pcw (by decide)) (hr := upH (E 8) y) (by unfold upH; rw [upI_row, RM.c hR 8 (by decide) (by decide)]) (RM.f hR 5 (by decide) (by decide)) (RM.f hR 6 (by decide) (by decide))) ?_
        rintro _ J4 _ ⟨rfl, hfr, rfl⟩
        have h8 : J4 8 y = E 8 y + 1 := by rw [hfr.2 8 (by decide) (by decide), up0]
        refine g_istore_4 hX (dk DX12_more 39 rfl) (by decide) rfl ?_
        skip
        refine g_aload_0 hX (dk DX12_more 40 rfl) ?_
        refine g_getRs (r := 8) hX (dk DX12_more 41 rfl) KX12 fX12_53 (by decide) rfl (MLt hM (by decide)) (MC hM) (MR hM 14 (by decide) rfl) ?_
        refine g_iload_1 hX (dk DX12_more 42 rfl) ?_
        refine g_dup2 hX (dk DX12_more 43 rfl) rfl rfl ?_
        refine v_iaload hX (dk DX12_more 44 rfl) (MLt hM (q := 8) (by decide)) (MS hM 8 (by decide) rfl) (⟨rfl, by omega, by decide⟩) (h8) ?_
        refine g_iconst (v := 1) hX (dk DX12_more 45 rfl) (by decide) ?_
        refine g_isub hX (dk DX12_more 46 rfl) ?_
        refine i_iastore hX (dk DX12_more 47 rfl) (MLt hM (q := 8) (by decide)) (MS hM 8 (by decide) rfl) (⟨rfl, by omega, by decide⟩) ?_
        refine g_iload_3 hX (dk DX12_more 48 rfl) ?_
        refine g_iload_4 hX (dk DX12_more 49 rfl) ?_
        refine g_isub hX (dk DX12_more 50 rfl) ?_
        refine g_ireturn hX (dk DX12_more 51 rfl) rfl (rfl) (by decide) (by decide) ?_
        exact qS_of hM hl (by unfold moreS; rw [tN_nI (by omega), tN_nI (by omega)]; (try first | rw [if_pos hc1] | rw [if_neg hc1] | rw [if_neg (not_not_intro hc1)]); (try first | rw [if_pos hc2] | rw [if_neg hc2] | rw [if_neg (not_not_intro hc2)]); (try first | rw [if_pos hc3] | rw [if_neg hc3] | rw [if_neg (not_not_intro hc3)]); first | done | rfl) (RM_hour hR hfr (by decide) (Int32.add_sub_cancel _ _))
      · refine g_iconst (v := 0) hX (dk DX12_more 20 rfl) (by decide) ?_
        refine g_ireturn hX (dk DX12_more 21 rfl) rfl (rfl) (by decide) (by decide) ?_
        exact qS_of hM hl (by unfold moreS; (try rw [tN_nI (by omega)]); (try first | rw [if_pos hc1] | rw [if_neg hc1] | rw [if_neg (not_not_intro hc1)]); (try first | rw [if_pos hc2] | rw [if_neg hc2] | rw [if_neg (not_not_intro hc2)]); (try first | rw [if_pos hc3] | rw [if_neg hc3] | rw [if_neg (not_not_intro hc3)]); (try rw [tN_nI (by omega)]); first | done | rfl) hR
    · refine g_sipush (v := -10002) hX (dk DX12_more 12 rfl) (by decide) ?_
      refine g_ireturn hX (dk DX12_more 13 rfl) rfl (rfl) (by decide) (by decide) ?_
      exact qS_of hM hl (by unfold moreS; (try rw [tN_nI (by omega)]); (try first | rw [if_pos hc1] | rw [if_neg hc1] | rw [if_neg (not_not_intro hc1)]); (try first | rw [if_pos hc2] | rw [if_neg hc2] | rw [if_neg (not_not_intro hc2)]); (try rw [tN_nI (by omega)]); first | done | rfl) hR
  · refine g_sipush (v := -10001) hX (dk DX12_more 4 rfl) (by decide) ?_
    refine g_ireturn hX (dk DX12_more 5 rfl) rfl (rfl) (by decide) (by decide) ?_
    exact qS_of hM hl (by unfold moreS; (try rw [tN_nI (by omega)]); (try first | rw [if_pos hc1] | rw [if_neg hc1] | rw [if_neg (not_not_intro hc1)]); (try rw [tN_nI (by omega)]); first | done | rfl) hR

set_option maxRecDepth 8000 in
set_option maxHeartbeats 4000000 in
theorem c_X12_ask {G : Gt} (hG : Gok G) {I : It} {h : Ht} (hM : HM h) {E : It} (hE : Inv E) (hR : RM E I) {L : Nat → Int64} (hl : hL h 38 = L) {n : Int32} : Con G (8) 0 0 mX12_ask [.ref 0, .int n] I h (qS (askS E n) L) := by
  refine con_intro (own := RX12) (lo0 := [some (.ref 0), some (.int n), none, none, none, none]) hG rfl pl_X12 (Nat.le_of_ble_eq_true rfl) rfl (fun X hX => ?_)
  have loop22 : ∀ m, m ≤ 60 → n = nI m → ∀ (k i : Nat) (f l : Int32) (J : It), RM E J → i + k = cnt E → pickR E m (fun i => hasI (E 0 5) (nI i)) (fun i => costF E (withI (E 0 5) (nI i) 1) (E 0 6) m) k i f l = askF E m → GG G (8) 0 0 X (qS (askS E n) L) 22 [some (.ref 0), some (.int (nI m)), some (.int f), some (.int l), some (.int (nI i)), none] [] (J) (h) 0 0 := by
    intro m hm60 hn k
    subst hn
    have hin : 0 ≤ nI m ∧ nI m ≤ 60 := ⟨nI_pos' (by omega), (nI_leI (b := 60) (by omega) (by decide)).mpr hm60⟩
    induction k using Nat.strongRecOn with | _ k ih => ?_
    intro i f l J hR hk hv
    have hc10 := inv_cnt hE
    refine g_iload_4 hX (dk DX12_ask 14 rfl) ?_
    refine g_aload_0 hX (dk DX12_ask 15 rfl) ?_
    refine g_getIv hX (dk DX12_ask 16 rfl) KX12 fX12_7 (by decide) rfl (MLt hM (by decide)) (MC hM) ((RM.f hR 0 (by decide) (by decide)).trans hc10.1) ?_
    refine g_icmp_ge (tgt := 94) hX (dk DX12_ask 17 rfl) (by decide) (fun hc1 => ?_) (fun hc1 => ?_)
    · refine g_iload_2 hX (dk DX12_ask 49 rfl) ?_
      refine g_ireturn hX (dk DX12_ask 50 rfl) rfl (rfl) (by decide) (by decide) ?_
      have hk0 := cl_end hk (by omega) hc1
      subst hk0
      exact qS_of hM hl (by unfold askS; rw [if_neg (not_not_intro hin), tN_nI (by omega), ← hv]; rfl) hR
    · obtain ⟨k, rfl⟩ := cl_go hk (by omega) hc1
      refine g_aload_0 hX (dk DX12_ask 18 rfl) ?_
      refine g_aload_0 hX (dk DX12_ask 19 rfl) ?_
      refine g_getIv hX (dk DX12_ask 20 rfl) KX12 fX12_25 (by decide) rfl (MLt hM (by decide)) (MC hM) (RM.f hR 5 (by decide) (by decide)) ?_
      refine g_iload_4 hX (dk DX12_ask 21 rfl) ?_
      refine g_c3I hX sX12_ask_38 (by decide) (Nat.le_of_ble_eq_true rfl) (rc0 rfl (MLt hM (by decide)) (MC hM)) (by decide) (by decide) (c_X12_has hG ) ?_
      refine g_ifb_eq (tgt := 47) hX (dk DX12_ask 23 rfl) (by decide) (fun hc2 => ?_) (fun hc2 => ?_)
      · refine g_aload_0 hX (dk DX12_ask 25 rfl) ?_
        refine g_aload_0 hX (dk DX12_ask 26 rfl) ?_
        refine g_aload_0 hX (dk DX12_ask 27 rfl) ?_
        refine g_getIv hX (dk DX12_ask 28 rfl) KX12 fX12_25 (by decide) rfl (MLt hM (by decide)) (MC hM) (RM.f hR 5 (by decide) (by decide)) ?_
        refine g_iload_4 hX (dk DX12_ask 29 rfl) ?_
        refine g_iconst (v := 1) hX (dk DX12_ask 30 rfl) (by decide) ?_
        refine g_c4I hX sX12_ask_56 (by decide) (Nat.le_of_ble_eq_true rfl) (rc0 rfl (MLt hM (by decide)) (MC hM)) (by decide) (by decide) (c_X12_with hG ) ?_
        refine g_aload_0 hX (dk DX12_ask 32 rfl) ?_
        refine g_getIv hX (dk DX12_ask 33 rfl) KX12 fX12_28 (by decide) rfl (MLt hM (by decide)) (MC hM) (RM.f hR 6 (by decide) (by decide)) ?_
        refine g_iload_1 hX (dk DX12_ask 34 rfl) ?_
        refine g_c4q hX sX12_ask_64 (by decide) (Nat.le_of_ble_eq_true rfl) (rc0 rfl (MLt hM (by decide)) (MC hM)) (by decide) (by decide) (c_X12_costBy hG hM hE (Ag.of hR (by decide) (by decide)) (by omega)) ?_
        rintro _ J2 _ ⟨rfl, hfr, rfl⟩
        have hR := RM.keep hR hfr (by decide) (by decide) (by decide)
        refine g_istore_5 hX (dk DX12_ask 36 rfl) (by decide) rfl ?_
        refine g_iload_2 hX (dk DX12_ask 37 rfl) ?_
        refine g_if_lt (tgt := 82) hX (dk DX12_ask 38 rfl) (by decide) (fun hc3 => ?_) (fun hc3 => ?_)
        · refine g_iload_4 hX (dk DX12_ask 43 rfl) ?_
          refine g_istore_2 hX (dk DX12_ask 44 rfl) (by decide) rfl ?_
          refine g_iload_5 hX (dk DX12_ask 45 rfl) ?_
          refine g_istore_3 hX (dk DX12_ask 46 rfl) (by decide) rfl ?_
          refine g_iinc_4 hX (dk DX12_ask 47 rfl) (nI_1 i) (by decide) rfl ?_
          refine g_goto (tgt := 22) hX (dk DX12_ask 48 rfl) (by decide) ?_
          exact g_fgt (ih k (by omega) (i + 1) _ _ _ hR (by omega) (by rw [← hv, pickR_s]; (try first | rw [if_pos hc1] | rw [if_neg hc1] | rw [if_neg (not_not_intro hc1)]); (try first | rw [if_pos hc2] | rw [if_neg hc2] | rw [if_neg (not_not_intro hc2)]); (try first | rw [if_pos hc3] | rw [if_neg hc3] | rw [if_neg (not_not_intro hc3)]); first | done | rfl)) ⟨rfl, rfl, rfl, rfl, rfl, trivial⟩
        · refine g_iload_5 hX (dk DX12_ask 39 rfl) ?_
          refine g_iload_3 hX (dk DX12_ask 40 rfl) ?_
          refine g_icmp_lt (tgt := 82) hX (dk DX12_ask 41 rfl) (by decide) (fun hc4 => ?_) (fun hc4 => ?_)
          · refine g_iload_4 hX (dk DX12_ask 43 rfl) ?_
            refine g_istore_2 hX (dk DX12_ask 44 rfl) (by decide) rfl ?_
            refine g_iload_5 hX (dk DX12_ask 45 rfl) ?_
            refine g_istore_3 hX (dk DX12_ask 46 rfl) (by decide) rfl ?_
            refine g_iinc_4 hX (dk DX12_ask 47 rfl) (nI_1 i) (by decide) rfl ?_
            refine g_goto (tgt := 22) hX (dk DX12_ask 48 rfl) (by decide) ?_
            exact g_fgt (ih k (by omega) (i + 1) _ _ _ hR (by omega) (by rw [← hv, pickR_s]; (try first | rw [if_pos hc1] | rw [if_neg hc1] | rw [if_neg (not_not_intro hc1)]); (try first | rw [if_pos hc2] | rw [if_neg hc2] | rw [if_neg (not_not_intro hc2)]); (try first | rw [if_pos hc3] | rw [if_neg hc3] | rw [if_neg (not_not_intro hc3)]); (try first | rw [if_pos hc4] | rw [if_neg hc4] | rw [if_neg (not_not_intro hc4)]); first | done | rfl)) ⟨rfl, rfl, rfl, rfl, rfl, trivial⟩
          · refine g_goto (tgt := 88) hX (dk DX12_ask 42 rfl) (by decide) ?_
            refine g_iinc_4 hX (dk DX12_ask 47 rfl) (nI_1 i) (by decide) rfl ?_
            refine g_goto (tgt := 22) hX (dk DX12_ask 48 rfl) (by decide) ?_
            exact g_fgt (ih k (by omega) (i + 1) _ _ _ hR (by omega) (by rw [← hv, pickR_s]; (try first | rw [if_pos hc1] | rw [if_neg hc1] | rw [if_neg (not_not_intro hc1)]); (try first | rw [if_pos hc2] | rw [if_neg hc2] | rw [if_neg (not_not_intro hc2)]); (try first | rw [if_pos hc3] | rw [if_neg hc3] | rw [if_neg (not_not_intro hc3)]); (try first | rw [if_pos hc4] | rw [if_neg hc4] | rw [if_neg (not_not_intro hc4)]); first | done | rfl)) ⟨rfl, rfl, rfl, rfl, rfl, trivial⟩
      · refine g_goto (tgt := 88) hX (dk DX12_ask 24 rfl) (by decide) ?_
        refine g_iinc_4 hX (dk DX12_ask 47 rfl) (nI_1 i) (by decide) rfl ?_
        refine g_goto (tgt := 22) hX (dk DX12_ask 48 rfl) (by decide) ?_
        exact g_fgt (ih k (by omega) (i + 1) _ _ _ hR (by omega) (by rw [← hv, pickR_s]; (try first | rw [if_pos hc1] | rw [if_neg hc1] | rw [if_neg (not_not_intro hc1)]); (try first | rw [if_pos hc2] | rw [if_neg hc2] | rw [if_neg (not_not_intro hc2)]); first | done | rfl)) ⟨rfl, rfl, rfl, rfl, rfl, trivial⟩
  refine g_aload_0 hX (dk DX12_ask 0 rfl) ?_
  refine g_iload_1 hX (dk DX12_ask 1 rfl) ?_
  refine g_iconst (v := 0) hX (dk DX12_ask 2 rfl) (by decide) ?_
  refine g_bipush (v := 60) hX (dk DX12_ask 3 rfl) (by decide) ?_
  refine g_c4I hX sX12_ask_5 (by decide) (Nat.le_of_ble_eq_true rfl) (rc0 rfl (MLt hM (by decide)) (MC hM)) (by decide) (by decide) (c_X12_in hG ) ?_
  refine g_ifb_ne (tgt := 14) hX (dk DX12_ask 5 rfl) (by decide) (fun hc1 => ?_) (fun hc1 => ?_)
  · obtain ⟨m, hm2, rfl⟩ := in_of (b := 60) (by decide) hc1
    refine g_bipush (v := -5) hX (dk DX12_ask 8 rfl) (by decide) ?_
    refine g_istore_2 hX (dk DX12_ask 9 rfl) (by decide) rfl ?_
    refine g_iconst (v := 0) hX (dk DX12_ask 10 rfl) (by decide) ?_
    refine g_istore_3 hX (dk DX12_ask 11 rfl) (by decide) rfl ?_
    refine g_iconst (v := 0) hX (dk DX12_ask 12 rfl) (by decide) ?_
    refine g_istore_4 hX (dk DX12_ask 13 rfl) (by decide) rfl ?_
    exact loop22 m hm2 rfl (cnt E) 0 (-5) 0 I hR (Nat.zero_add _) rfl
  · refine g_bipush (v := -2) hX (dk DX12_ask 6 rfl) (by decide) ?_
    refine g_ireturn hX (dk DX12_ask 7 rfl) rfl (rfl) (by decide) (by decide) ?_
    exact qS_of hM hl (by unfold askS; (try first | rw [if_pos hc1] | rw [if_neg hc1] | rw [if_neg (not_not_intro hc1)]); first | done | rfl) hR

set_option maxRecDepth 8000 in
set_option maxHeartbeats 4000000 in
theorem c_X12_drop {G : Gt} (hG : Gok G) {I : It} {h : Ht} (hM : HM h) {E : It} (hE : Inv E) (hR : RM E I) {L : Nat → Int64} (hl : hL h 38 = L) {n : Int32} : Con G (8) 0 0 mX12_drop [.ref 0, .int n] I h (qS (dropS E n) L) := by
  refine con_intro (own := RX12) (lo0 := [some (.ref 0), some (.int n), none, none, none, none]) hG rfl pl_X12 (Nat.le_of_ble_eq_true rfl) rfl (fun X hX => ?_)
  have loop22 : ∀ m, m ≤ 60 → n = nI m → ∀ (k i : Nat) (f l : Int32) (J : It), RM E J → i + k = cnt E → pickR E m (fun i => hasI (E 0 6) (nI i)) (fun i => costF E (E 0 5) (withI (E 0 6) (nI i) 1) m) k i f l = dropF E m → GG G (8) 0 0 X (qS (dropS E n) L) 22 [some (.ref 0), some (.int (nI m)), some (.int f), some (.int l), some (.int (nI i)), none] [] (J) (h) 0 0 := by
    intro m hm60 hn k
    subst hn
    have hin : 0 ≤ nI m ∧ nI m ≤ 60 := ⟨nI_pos' (by omega), (nI_leI (b := 60) (by omega) (by decide)).mpr hm60⟩
    induction k using Nat.strongRecOn with | _ k ih => ?_
    intro i f l J hR hk hv
    have hc10 := inv_cnt hE
    refine g_iload_4 hX (dk DX12_drop 14 rfl) ?_
    refine g_aload_0 hX (dk DX12_drop 15 rfl) ?_
    refine g_getIv hX (dk DX12_drop 16 rfl) KX12 fX12_7 (by decide) rfl (MLt hM (by decide)) (MC hM) ((RM.f hR 0 (by decide) (by decide)).trans hc10.1) ?_
    refine g_icmp_ge (tgt := 94) hX (dk DX12_drop 17 rfl) (by decide) (fun hc1 => ?_) (fun hc1 => ?_)
    · refine g_iload_2 hX (dk DX12_drop 49 rfl) ?_
      refine g_ireturn hX (dk DX12_drop 50 rfl) rfl (rfl) (by decide) (by decide) ?_
      have hk0 := cl_end hk (by omega) hc1
      subst hk0
      exact qS_of hM hl (by unfold dropS; rw [if_neg (not_not_intro hin), tN_nI (by omega), ← hv]; rfl) hR
    · obtain ⟨k, rfl⟩ := cl_go hk (by omega) hc1
      refine g_aload_0 hX (dk DX12_drop 18 rfl) ?_
      refine g_aload_0 hX (dk DX12_drop 19 rfl) ?_
      refine g_getIv hX (dk DX12_drop 20 rfl) KX12 fX12_28 (by decide) rfl (MLt hM (by decide)) (MC hM) (RM.f hR 6 (by decide) (by decide)) ?_
      refine g_iload_4 hX (dk DX12_drop 21 rfl) ?_
      refine g_c3I hX sX12_drop_38 (by decide) (Nat.le_of_ble_eq_true rfl) (rc0 rfl (MLt hM (by decide)) (MC hM)) (by decide) (by decide) (c_X12_has hG ) ?_
      refine g_ifb_eq (tgt := 47) hX (dk DX12_drop 23 rfl) (by decide) (fun hc2 => ?_) (fun hc2 => ?_)
      · refine g_aload_0 hX (dk DX12_drop 25 rfl) ?_
        refine g_aload_0 hX (dk DX12_drop 26 rfl) ?_
        refine g_getIv hX (dk DX12_drop 27 rfl) KX12 fX12_25 (by decide) rfl (MLt hM (by decide)) (MC hM) (RM.f hR 5 (by decide) (by decide)) ?_
        refine g_aload_0 hX (dk DX12_drop 28 rfl) ?_
        refine g_aload_0 hX (dk DX12_drop 29 rfl) ?_
        refine g_getIv hX (dk DX12_drop 30 rfl) KX12 fX12_28 (by decide) rfl (MLt hM (by decide)) (MC hM) (RM.f hR 6 (by decide) (by decide)) ?_
        refine g_iload_4 hX (dk DX12_drop 31 rfl) ?_
        refine g_iconst (v := 1) hX (dk DX12_drop 32 rfl) (by decide) ?_
        refine g_c4I hX sX12_drop_60 (by decide) (Nat.le_of_ble_eq_true rfl) (rc0 rfl (MLt hM (by decide)) (MC hM)) (by decide) (by decide) (c_X12_with hG ) ?_
        refine g_iload_1 hX (dk DX12_drop 34 rfl) ?_
        refine g_c4q hX sX12_drop_64 (by decide) (Nat.le_of_ble_eq_true rfl) (rc0 rfl (MLt hM (by decide)) (MC hM)) (by decide) (by decide) (c_X12_costBy hG hM hE (Ag.of hR (by decide) (by decide)) (by omega)) ?_
        rintro _ J2 _ ⟨rfl, hfr, rfl⟩
        have hR := RM.keep hR hfr (by decide) (by decide) (by decide)
        refine g_istore_5 hX (dk DX12_drop 36 rfl) (by decide) rfl ?_
        refine g_iload_2 hX (dk DX12_drop 37 rfl) ?_
        refine g_if_lt (tgt := 82) hX (dk DX12_drop 38 rfl) (by decide) (fun hc3 => ?_) (fun hc3 => ?_)
        · refine g_iload_4 hX (dk DX12_drop 43 rfl) ?_
          refine g_istore_2 hX (dk DX12_drop 44 rfl) (by decide) rfl ?_
          refine g_iload_5 hX (dk DX12_drop 45 rfl) ?_
          refine g_istore_3 hX (dk DX12_drop 46 rfl) (by decide) rfl ?_
          refine g_iinc_4 hX (dk DX12_drop 47 rfl) (nI_1 i) (by decide) rfl ?_
          refine g_goto (tgt := 22) hX (dk DX12_drop 48 rfl) (by decide) ?_
          exact g_fgt (ih k (by omega) (i + 1) _ _ _ hR (by omega) (by rw [← hv, pickR_s]; (try first | rw [if_pos hc1] | rw [if_neg hc1] | rw [if_neg (not_not_intro hc1)]); (try first | rw [if_pos hc2] | rw [if_neg hc2] | rw [if_neg (not_not_intro hc2)]); (try first | rw [if_pos hc3] | rw [if_neg hc3] | rw [if_neg (not_not_intro hc3)]); first | done | rfl)) ⟨rfl, rfl, rfl, rfl, rfl, trivial⟩
        · refine g_iload_5 hX (dk DX12_drop 39 rfl) ?_
          refine g_iload_3 hX (dk DX12_drop 40 rfl) ?_
          refine g_icmp_lt (tgt := 82) hX (dk DX12_drop 41 rfl) (by decide) (fun hc4 => ?_) (fun hc4 => ?_)
          · refine g_iload_4 hX (dk DX12_drop 43 rfl) ?_
            refine g_istore_2 hX (dk DX12_drop 44 rfl) (by decide) rfl ?_
            refine g_iload_5 hX (dk DX12_drop 45 rfl) ?_
            refine g_istore_3 hX (dk DX12_drop 46 rfl) (by decide) rfl ?_
            refine g_iinc_4 hX (dk DX12_drop 47 rfl) (nI_1 i) (by decide) rfl ?_
            refine g_goto (tgt := 22) hX (dk DX12_drop 48 rfl) (by decide) ?_
            exact g_fgt (ih k (by omega) (i + 1) _ _ _ hR (by omega) (by rw [← hv, pickR_s]; (try first | rw [if_pos hc1] | rw [if_neg hc1] | rw [if_neg (not_not_intro hc1)]); (try first | rw [if_pos hc2] | rw [if_neg hc2] | rw [if_neg (not_not_intro hc2)]); (try first | rw [if_pos hc3] | rw [if_neg hc3] | rw [if_neg (not_not_intro hc3)]); (try first | rw [if_pos hc4] | rw [if_neg hc4] | rw [if_neg (not_not_intro hc4)]); first | done | rfl)) ⟨rfl, rfl, rfl, rfl, rfl, trivial⟩
          · refine g_goto (tgt := 88) hX (dk DX12_drop 42 rfl) (by decide) ?_
            refine g_iinc_4 hX (dk DX12_drop 47 rfl) (nI_1 i) (by decide) rfl ?_
            refine g_goto (tgt := 22) hX (dk DX12_drop 48 rfl) (by decide) ?_
            exact g_fgt (ih k (by omega) (i + 1) _ _ _ hR (by omega) (by rw [← hv, pickR_s]; (try first | rw [if_pos hc1] | rw [if_neg hc1] | rw [if_neg (not_not_intro hc1)]); (try first | rw [if_pos hc2] | rw [if_neg hc2] | rw [if_neg (not_not_intro hc2)]); (try first | rw [if_pos hc3] | rw [if_neg hc3] | rw [if_neg (not_not_intro hc3)]); (try first | rw [if_pos hc4] | rw [if_neg hc4] | rw [if_neg (not_not_intro hc4)]); first | done | rfl)) ⟨rfl, rfl, rfl, rfl, rfl, trivial⟩
      · refine g_goto (tgt := 88) hX (dk DX12_drop 24 rfl) (by decide) ?_
        refine g_iinc_4 hX (dk DX12_drop 47 rfl) (nI_1 i) (by decide) rfl ?_
        refine g_goto (tgt := 22) hX (dk DX12_drop 48 rfl) (by decide) ?_
        exact g_fgt (ih k (by omega) (i + 1) _ _ _ hR (by omega) (by rw [← hv, pickR_s]; (try first | rw [if_pos hc1] | rw [if_neg hc1] | rw [if_neg (not_not_intro hc1)]); (try first | rw [if_pos hc2] | rw [if_neg hc2] | rw [if_neg (not_not_intro hc2)]); first | done | rfl)) ⟨rfl, rfl, rfl, rfl, rfl, trivial⟩
  refine g_aload_0 hX (dk DX12_drop 0 rfl) ?_
  refine g_iload_1 hX (dk DX12_drop 1 rfl) ?_
  refine g_iconst (v := 0) hX (dk DX12_drop 2 rfl) (by decide) ?_
  refine g_bipush (v := 60) hX (dk DX12_drop 3 rfl) (by decide) ?_
  refine g_c4I hX sX12_drop_5 (by decide) (Nat.le_of_ble_eq_true rfl) (rc0 rfl (MLt hM (by decide)) (MC hM)) (by decide) (by decide) (c_X12_in hG ) ?_
  refine g_ifb_ne (tgt := 14) hX (dk DX12_drop 5 rfl) (by decide) (fun hc1 => ?_) (fun hc1 => ?_)
  · obtain ⟨m, hm2, rfl⟩ := in_of (b := 60) (by decide) hc1
    refine g_bipush (v := -5) hX (dk DX12_drop 8 rfl) (by decide) ?_
    refine g_istore_2 hX (dk DX12_drop 9 rfl) (by decide) rfl ?_
    refine g_iconst (v := 0) hX (dk DX12_drop 10 rfl) (by decide) ?_
    refine g_istore_3 hX (dk DX12_drop 11 rfl) (by decide) rfl ?_
    refine g_iconst (v := 0) hX (dk DX12_drop 12 rfl) (by decide) ?_
    refine g_istore_4 hX (dk DX12_drop 13 rfl) (by decide) rfl ?_
    exact loop22 m hm2 rfl (cnt E) 0 (-5) 0 I hR (Nat.zero_add _) rfl
  · refine g_bipush (v := -2) hX (dk DX12_drop 6 rfl) (by decide) ?_
    refine g_ireturn hX (dk DX12_drop 7 rfl) rfl (rfl) (by decide) (by decide) ?_
    exact qS_of hM hl (by unfold dropS; (try first | rw [if_pos hc1] | rw [if_neg hc1] | rw [if_neg (not_not_intro hc1)]); first | done | rfl) hR

set_option maxRecDepth 8000 in
set_option maxHeartbeats 4000000 in
theorem c_X12_when {G : Gt} (hG : Gok G) {I : It} {h : Ht} (hM : HM h) {E : It} (hE : Inv E) (hR : RM E I) {L : Nat → Int64} (hl : hL h 38 = L) {a : Int32} : Con G (3) 0 0 mX12_when [.ref 0, .int a] I h (qS (whenS E a) L) := by
  refine con_intro (own := RX12) (lo0 := [some (.ref 0), some (.int a), none]) hG rfl pl_X12 (Nat.le_of_ble_eq_true rfl) rfl (fun X hX => ?_)
  have loop15 : ∀ d, d < cnt E → a = nI d → ∀ (k i z : Nat), i + k = 60 → i ≤ z → z < 60 → remI (nI (wk E + z)) (E 3 d) = E 4 d → whR E d k (wk E + i) = whR E d 60 (wk E) → GG G (3) 0 0 X (qS (whenS E a) L) 15 [some (.ref 0), some (.int (nI d)), some (.int (nI (wk E + i)))] [] (I) (h) 0 0 := by
    intro d hd ha k
    subst ha
    induction k using Nat.strongRecOn with | _ k ih => ?_
    intro i z hk hz1 hz2 hz hv
    obtain ⟨k, rfl⟩ : ∃ q, k = q + 1 := ⟨k - 1, by omega⟩
    refine g_aload_0 hX (dk DX12_when 9 rfl) ?_
    refine g_iload_1 hX (dk DX12_when 10 rfl) ?_
    refine g_iload_2 hX (dk DX12_when 11 rfl) ?_
    refine g_c3I hX sX12_when_18 (by decide) (Nat.le_of_ble_eq_true rfl) (rc0 rfl (MLt hM (by decide)) (MC hM)) (by decide) (by decide) (c_X12_comes hG hM hE (Ag.of hR (by decide) (by decide)) hd) ?_
    refine g_ifb_ne (tgt := 30) hX (dk DX12_when 13 rfl) (by decide) (fun hc1 => ?_) (fun hc1 => ?_)
    · have hst : whR E d (k + 1) (wk E + i) = wk E + i := by rw [whR_s, if_pos hc1]
      refine g_iload_2 hX (dk DX12_when 16 rfl) ?_
      refine g_ireturn hX (dk DX12_when 17 rfl) rfl (rfl) (by decide) (by decide) ?_
      exact qS_of hM hl (by unfold whenS; rw [if_neg (not_not_intro (isD_mk hE hd)), tN_nI (by have := (inv_cnt hE).2; omega), ← hv, hst]) hR
    · have hne : i ≠ z := fun e => hc1 (by rw [e]; exact hz)
      have hst : whR E d (k + 1) (wk E + i) = whR E d k (wk E + (i + 1)) := by rw [whR_s, if_neg hc1]; rfl
      refine g_iinc_2 hX (dk DX12_when 14 rfl) (nI_1 (wk E + i)) (by decide) rfl ?_
      refine g_goto (tgt := 15) hX (dk DX12_when 15 rfl) (by decide) ?_
      exact ih k (by omega) (i + 1) z (by omega) (by omega) hz2 hz (by rw [← hv, hst])
  refine g_aload_0 hX (dk DX12_when 0 rfl) ?_
  refine g_iload_1 hX (dk DX12_when 1 rfl) ?_
  refine g_c2I hX sX12_when_2 (by decide) (Nat.le_of_ble_eq_true rfl) (rc0 rfl (MLt hM (by decide)) (MC hM)) (by decide) (by decide) (cE_isDoing hG hM (RM.f hR 0 (by decide) (by decide))) ?_
  refine g_ifb_ne (tgt := 10) hX (dk DX12_when 3 rfl) (by decide) (fun hc1 => ?_) (fun hc1 => ?_)
  · obtain ⟨d, hd, rfl⟩ := isD_of hE hc1
    have hd10 := Nat.lt_of_lt_of_le hd (inv_cnt hE).2
    refine g_aload_0 hX (dk DX12_when 6 rfl) ?_
    refine g_getIv hX (dk DX12_when 7 rfl) KX12 fX12_13 (by decide) rfl (MLt hM (by decide)) (MC hM) ((RM.f hR 1 (by decide) (by decide)).trans (inv_wk hE).1) ?_
    refine g_istore_2 hX (dk DX12_when 8 rfl) (by decide) rfl ?_
    obtain ⟨z, hz, ez⟩ := wh_hit hE hd
    exact loop15 d hd rfl 60 0 z (Nat.zero_add _) (Nat.zero_le _) hz ez rfl
  · refine g_iconst (v := -1) hX (dk DX12_when 4 rfl) (by decide) ?_
    refine g_ireturn hX (dk DX12_when 5 rfl) rfl (rfl) (by decide) (by decide) ?_
    exact qS_of hM hl (by unfold whenS; (try first | rw [if_pos hc1] | rw [if_neg hc1] | rw [if_neg (not_not_intro hc1)]); first | done | rfl) hR

set_option maxRecDepth 8000 in
set_option maxHeartbeats 4000000 in
theorem c_X12_busiest {G : Gt} (hG : Gok G) {I : It} {h : Ht} (hM : HM h) {E : It} (hE : Inv E) (hR : RM E I) {L : Nat → Int64} (hl : hL h 38 = L) {n v : Int32} : Con G (3) 0 0 mX12_busiest [.ref 0, .int n, .int v] I h (qS (busiestS E n v) L) := by
  refine con_intro (own := RX12) (lo0 := [some (.ref 0), some (.int n), some (.int v), none, none]) hG rfl pl_X12 (Nat.le_of_ble_eq_true rfl) rfl (fun X hX => ?_)
  have loop40 : (0 ≤ v ∧ v ≤ 1) → ∀ m, 1 ≤ m → m ≤ 200 → n = nI m → ∀ (k w f : Nat), w + k = wk E + m → f ≤ wk E + m → bsR E k w f = bsR E (m - 1) (wk E + 1) (wk E) → GG G (3) 0 0 X (qS (busiestS E n v) L) 40 [some (.ref 0), some (.int (nI m)), some (.int v), some (.int (nI f)), some (.int (nI w))] [] (I) (h) 0 0 := by
    intro hv01 m hm1 hm2 hn k
    subst hn
    have hin : 1 ≤ nI m ∧ nI m ≤ 200 := ⟨(nI_leI (a := 1) (by decide) (by omega)).mpr hm1, (nI_leI (b := 200) (by omega) (by decide)).mpr hm2⟩
    have hw := inv_wk hE
    induction k using Nat.strongRecOn with | _ k ih => ?_
    intro w f hk hf hv
    refine g_iload_4 hX (dk DX12_busiest 24 rfl) ?_
    refine g_aload_0 hX (dk DX12_busiest 25 rfl) ?_
    refine g_getIv hX (dk DX12_busiest 26 rfl) KX12 fX12_13 (by decide) rfl (MLt hM (by decide)) (MC hM) ((RM.f hR 1 (by decide) (by decide)).trans hw.1) ?_
    refine g_iload_1 hX (dk DX12_busiest 27 rfl) ?_
    refine g_iadd hX (dk DX12_busiest 28 rfl) ?_
    refine g_icmp_ge (tgt := 78) hX (dk DX12_busiest 29 rfl) (by decide) (fun hc1 => ?_) (fun hc1 => ?_)
    · refine g_iload_2 hX (dk DX12_busiest 43 rfl) ?_
      refine g_if_ne (tgt := 86) hX (dk DX12_busiest 44 rfl) (by decide) (fun hc2 => ?_) (fun hc2 => ?_)
      · refine g_aload_0 hX (dk DX12_busiest 47 rfl) ?_
        refine g_iload_3 hX (dk DX12_busiest 48 rfl) ?_
        refine g_c2I hX sX12_busiest_88 (by decide) (Nat.le_of_ble_eq_true rfl) (rc0 rfl (MLt hM (by decide)) (MC hM)) (by decide) (by decide) (c_X12_manyIn hG hM hE (Ag.of hR (by decide) (by decide))) ?_
        refine g_ireturn hX (dk DX12_busiest 50 rfl) rfl (rfl) (by decide) (by decide) ?_
        rw [nI_add] at hc1
        have hk0 := ct_end hk (by omega) hc1
        subst hk0
        exact qS_of hM hl (by unfold busiestS; rw [if_neg (not_not_intro hv01), if_neg (not_not_intro hin), tN_nI (by omega), ← hv]; (try first | rw [if_pos hc1] | rw [if_neg hc1] | rw [if_neg (not_not_intro hc1)]); (try first | rw [if_pos hc2] | rw [if_neg hc2] | rw [if_neg (not_not_intro hc2)]); first | done | rfl) hR
      · refine g_iload_3 hX (dk DX12_busiest 45 rfl) ?_
        refine g_goto (tgt := 91) hX (dk DX12_busiest 46 rfl) (by decide) ?_
        refine g_ireturn hX (dk DX12_busiest 50 rfl) rfl (rfl) (by decide) (by decide) ?_
        rw [nI_add] at hc1
        have hk0 := ct_end hk (by omega) hc1
        subst hk0
        exact qS_of hM hl (by unfold busiestS; rw [if_neg (not_not_intro hv01), if_neg (not_not_intro hin), tN_nI (by omega), ← hv]; (try first | rw [if_pos hc1] | rw [if_neg hc1] | rw [if_neg (not_not_intro hc1)]); (try first | rw [if_pos hc2] | rw [if_neg hc2] | rw [if_neg (not_not_intro hc2)]); first | done | rfl) hR
    · rw [nI_add] at hc1
      obtain ⟨k, rfl⟩ := ct_go hk (by omega) hc1
      refine g_aload_0 hX (dk DX12_busiest 30 rfl) ?_
      refine g_iload_4 hX (dk DX12_busiest 31 rfl) ?_
      refine g_c2I hX sX12_busiest_54 (by decide) (Nat.le_of_ble_eq_true rfl) (rc0 rfl (MLt hM (by decide)) (MC hM)) (by decide) (by decide) (c_X12_manyIn hG hM hE (Ag.of hR (by decide) (by decide))) ?_
      refine g_aload_0 hX (dk DX12_busiest 33 rfl) ?_
      refine g_iload_3 hX (dk DX12_busiest 34 rfl) ?_
      refine g_c2I hX sX12_busiest_59 (by decide) (Nat.le_of_ble_eq_true rfl) (rc0 rfl (MLt hM (by decide)) (MC hM)) (by decide) (by decide) (c_X12_manyIn hG hM hE (Ag.of hR (by decide) (by decide))) ?_
      refine g_icmp_le (tgt := 70) hX (dk DX12_busiest 36 rfl) (by decide) (fun hc3 => ?_) (fun hc3 => ?_)
      · have hst : (if manyF E w ≤ manyF E f then f else w) = f := if_pos hc3
        refine g_iload_3 hX (dk DX12_busiest 39 rfl) ?_
        refine g_istore_3 hX (dk DX12_busiest 40 rfl) (by decide) rfl ?_
        refine g_iinc_4 hX (dk DX12_busiest 41 rfl) (nI_1 w) (by decide) rfl ?_
        refine g_goto (tgt := 40) hX (dk DX12_busiest 42 rfl) (by decide) ?_
        exact ih k (by omega) (w + 1) _ (by omega) (by omega) (by rw [← hv, bsR_s, hst])
      · have hst : (if manyF E w ≤ manyF E f then f else w) = w := if_neg hc3
        refine g_iload_4 hX (dk DX12_busiest 37 rfl) ?_
        refine g_goto (tgt := 71) hX (dk DX12_busiest 38 rfl) (by decide) ?_
        refine g_istore_3 hX (dk DX12_busiest 40 rfl) (by decide) rfl ?_
        refine g_iinc_4 hX (dk DX12_busiest 41 rfl) (nI_1 w) (by decide) rfl ?_
        refine g_goto (tgt := 40) hX (dk DX12_busiest 42 rfl) (by decide) ?_
        exact ih k (by omega) (w + 1) _ (by omega) (by omega) (by rw [← hv, bsR_s, hst])
  refine g_aload_0 hX (dk DX12_busiest 0 rfl) ?_
  refine g_iload_2 hX (dk DX12_busiest 1 rfl) ?_
  refine g_iconst (v := 0) hX (dk DX12_busiest 2 rfl) (by decide) ?_
  refine g_iconst (v := 1) hX (dk DX12_busiest 3 rfl) (by decide) ?_
  refine g_c4I hX sX12_busiest_4 (by decide) (Nat.le_of_ble_eq_true rfl) (rc0 rfl (MLt hM (by decide)) (MC hM)) (by decide) (by decide) (c_X12_in hG ) ?_
  refine g_ifb_ne (tgt := 12) hX (dk DX12_busiest 5 rfl) (by decide) (fun hc1 => ?_) (fun hc1 => ?_)
  · refine g_aload_0 hX (dk DX12_busiest 8 rfl) ?_
    refine g_iload_1 hX (dk DX12_busiest 9 rfl) ?_
    refine g_iconst (v := 1) hX (dk DX12_busiest 10 rfl) (by decide) ?_
    refine g_sipush (v := 200) hX (dk DX12_busiest 11 rfl) (by decide) ?_
    refine g_c4I hX sX12_busiest_18 (by decide) (Nat.le_of_ble_eq_true rfl) (rc0 rfl (MLt hM (by decide)) (MC hM)) (by decide) (by decide) (c_X12_in hG ) ?_
    refine g_ifb_ne (tgt := 27) hX (dk DX12_busiest 13 rfl) (by decide) (fun hc2 => ?_) (fun hc2 => ?_)
    · obtain ⟨m, hm1, hm2, rfl⟩ := in1_of (c := 1) (b := 200) (by decide) (by decide) hc2
      have hw := inv_wk hE
      have hvv := hc1
      refine g_aload_0 hX (dk DX12_busiest 16 rfl) ?_
      refine g_getIv hX (dk DX12_busiest 17 rfl) KX12 fX12_13 (by decide) rfl (MLt hM (by decide)) (MC hM) ((RM.f hR 1 (by decide) (by decide)).trans (inv_wk hE).1) ?_
      refine g_istore_3 hX (dk DX12_busiest 18 rfl) (by decide) rfl ?_
      refine g_aload_0 hX (dk DX12_busiest 19 rfl) ?_
      refine g_getIv hX (dk DX12_busiest 20 rfl) KX12 fX12_13 (by decide) rfl (MLt hM (by decide)) (MC hM) ((RM.f hR 1 (by decide) (by decide)).trans (inv_wk hE).1) ?_
      refine g_iconst (v := 1) hX (dk DX12_busiest 21 rfl) (by decide) ?_
      refine g_iadd hX (dk DX12_busiest 22 rfl) ?_
      rw [show (1 : Int32) = nI 1 from rfl, nI_add]
      refine g_istore_4 hX (dk DX12_busiest 23 rfl) (by decide) rfl ?_
      exact loop40 hvv m hm1 hm2 rfl (m - 1) (wk E + 1) (wk E) (by omega) (by omega) rfl
    · refine g_bipush (v := -2) hX (dk DX12_busiest 14 rfl) (by decide) ?_
      refine g_ireturn hX (dk DX12_busiest 15 rfl) rfl (rfl) (by decide) (by decide) ?_
      exact qS_of hM hl (by unfold busiestS; (try first | rw [if_pos hc1] | rw [if_neg hc1] | rw [if_neg (not_not_intro hc1)]); (try first | rw [if_pos hc2] | rw [if_neg hc2] | rw [if_neg (not_not_intro hc2)]); first | done | rfl) hR
  · refine g_iconst (v := -1) hX (dk DX12_busiest 6 rfl) (by decide) ?_
    refine g_ireturn hX (dk DX12_busiest 7 rfl) rfl (rfl) (by decide) (by decide) ?_
    exact qS_of hM hl (by unfold busiestS; (try first | rw [if_pos hc1] | rw [if_neg hc1] | rw [if_neg (not_not_intro hc1)]); first | done | rfl) hR
end
section
set_option maxRecDepth 8000 in
set_option maxHeartbeats 4000000 in
theorem c_X12_all {G : Gt} (hG : Gok G) {I : It} {h : Ht} (hM : HM h) {E : It} (hE : Inv E) (hR : RM E I) {L : Nat → Int64} (hl : hL h 38 = L) {s : Int32} : Con G (3) 0 0 mX12_all [.ref 0, .int s] I h (qS (allS E s) L) := by
  refine con_intro (own := RX12) (lo0 := [some (.ref 0), some (.int s), none]) hG rfl pl_X12 (Nat.le_of_ble_eq_true rfl) rfl (fun X hX => ?_)
  have loop22 : (1 ≤ s ∧ s ≤ bitI (E 0 0) - 1) → ∀ (k i : Nat), i + k = 3601 → alR E s k i = alR E s 3601 0 → GG G (3) 0 0 X (qS (allS E s) L) 22 [some (.ref 0), some (.int s), some (.int (nI i))] [] (I) (h) 0 0 := by
    intro hss k
    have hw := inv_wk hE
    induction k using Nat.strongRecOn with | _ k ih => ?_
    intro i hk hv
    refine g_iload_2 hX (dk DX12_all 15 rfl) ?_
    refine g_sipush (v := 3601) hX (dk DX12_all 16 rfl) (by decide) ?_
    refine g_icmp_ge (tgt := 51) hX (dk DX12_all 17 rfl) (by decide) (fun hc1 => ?_) (fun hc1 => ?_)
    · refine g_bipush (v := -5) hX (dk DX12_all 30 rfl) (by decide) ?_
      refine g_ireturn hX (dk DX12_all 31 rfl) rfl (rfl) (by decide) (by decide) ?_
      have hk0 := ct_end (e := 3601) hk (by decide) hc1
      subst hk0
      exact qS_of hM hl (by unfold allS; rw [if_neg (not_not_intro hss), ← hv]; rfl) hR
    · obtain ⟨k, rfl⟩ := ct_go (e := 3601) hk (by decide) hc1
      refine g_aload_0 hX (dk DX12_all 18 rfl) ?_
      refine g_iload_1 hX (dk DX12_all 19 rfl) ?_
      refine g_aload_0 hX (dk DX12_all 20 rfl) ?_
      refine g_getIv hX (dk DX12_all 21 rfl) KX12 fX12_13 (by decide) rfl (MLt hM (by decide)) (MC hM) ((RM.f hR 1 (by decide) (by decide)).trans hw.1) ?_
      refine g_iload_2 hX (dk DX12_all 22 rfl) ?_
      refine g_iadd hX (dk DX12_all 23 rfl) ?_
      rw [nI_add]
      refine g_c3I hX sX12_all_37 (by decide) (Nat.le_of_ble_eq_true rfl) (rc0 rfl (MLt hM (by decide)) (MC hM)) (by decide) (by decide) (c_X12_allCome hG hM hE (Ag.of hR (by decide) (by decide))) ?_
      refine g_ifb_eq (tgt := 45) hX (dk DX12_all 25 rfl) (by decide) (fun hc2 => ?_) (fun hc2 => ?_)
      · have hst : alR E s (k + 1) i = alR E s k (i + 1) := by rw [alR_s, if_neg hc2]
        refine g_iinc_2 hX (dk DX12_all 28 rfl) (nI_1 i) (by decide) rfl ?_
        refine g_goto (tgt := 22) hX (dk DX12_all 29 rfl) (by decide) ?_
        exact ih k (by omega) (i + 1) (by omega) (by rw [← hv, hst])
      · have hst : alR E s (k + 1) i = nI i := by rw [alR_s, if_pos hc2]
        refine g_iload_2 hX (dk DX12_all 26 rfl) ?_
        refine g_ireturn hX (dk DX12_all 27 rfl) rfl (rfl) (by decide) (by decide) ?_
        exact qS_of hM hl (by unfold allS; rw [if_neg (not_not_intro hss), ← hv, hst]) hR
  refine g_aload_0 hX (dk DX12_all 0 rfl) ?_
  refine g_iload_1 hX (dk DX12_all 1 rfl) ?_
  refine g_iconst (v := 1) hX (dk DX12_all 2 rfl) (by decide) ?_
  refine g_iconst (v := 1) hX (dk DX12_all 3 rfl) (by decide) ?_
  refine g_aload_0 hX (dk DX12_all 4 rfl) ?_
  refine g_getIv hX (dk DX12_all 5 rfl) KX12 fX12_7 (by decide) rfl (MLt hM (by decide)) (MC hM) (RM.f hR 0 (by decide) (by decide)) ?_
  refine g_ishl hX (dk DX12_all 6 rfl) ?_
  refine g_iconst (v := 1) hX (dk DX12_all 7 rfl) (by decide) ?_
  refine g_isub hX (dk DX12_all 8 rfl) ?_
  refine g_c4I hX sX12_all_11 (by decide) (Nat.le_of_ble_eq_true rfl) (rc0 rfl (MLt hM (by decide)) (MC hM)) (by decide) (by decide) (c_X12_in hG ) ?_
  refine g_ifb_ne (tgt := 20) hX (dk DX12_all 10 rfl) (by decide) (fun hc1 => ?_) (fun hc1 => ?_)
  · have hss := hc1
    refine g_iconst (v := 0) hX (dk DX12_all 13 rfl) (by decide) ?_
    refine g_istore_2 hX (dk DX12_all 14 rfl) (by decide) rfl ?_
    exact loop22 hss 3601 0 (Nat.zero_add _) rfl
  · refine g_bipush (v := -2) hX (dk DX12_all 11 rfl) (by decide) ?_
    refine g_ireturn hX (dk DX12_all 12 rfl) rfl (rfl) (by decide) (by decide) ?_
    exact qS_of hM hl (by unfold allS; exact if_pos hc1) hR

set_option maxRecDepth 8000 in
set_option maxHeartbeats 4000000 in
theorem c_X12_list {G : Gt} (hG : Gok G) {I : It} {h : Ht} (hM : HM h) {E : It} (hE : Inv E) (hR : RM E I) {L : Nat → Int64} (hl : hL h 38 = L) {w a : Int32} : Con G (3) 0 0 mX12_list [.ref 0, .int w, .int a] I h (qS (listS E w a) L) := by
  refine con_intro (own := RX12) (lo0 := [some (.ref 0), some (.int w), some (.int a)]) hG rfl pl_X12 (Nat.le_of_ble_eq_true rfl) rfl (fun X hX => ?_)
  refine g_iload_1 hX (dk DX12_list 0 rfl) ?_
  refine g_iconst (v := -1) hX (dk DX12_list 1 rfl) (by decide) ?_
  refine g_icmp_ne (tgt := 12) hX (dk DX12_list 2 rfl) (by decide) (fun hc1 => ?_) (fun hc1 => ?_)
  · refine g_aload_0 hX (dk DX12_list 8 rfl) ?_
    refine g_iload_1 hX (dk DX12_list 9 rfl) ?_
    refine g_iconst (v := 0) hX (dk DX12_list 10 rfl) (by decide) ?_
    refine g_bipush (v := 99) hX (dk DX12_list 11 rfl) (by decide) ?_
    refine g_c4I hX sX12_list_17 (by decide) (Nat.le_of_ble_eq_true rfl) (rc0 rfl (MLt hM (by decide)) (MC hM)) (by decide) (by decide) (c_X12_in hG ) ?_
    refine g_ifb_ne (tgt := 26) hX (dk DX12_list 13 rfl) (by decide) (fun hc2 => ?_) (fun hc2 => ?_)
    · refine g_aload_0 hX (dk DX12_list 16 rfl) ?_
      refine g_iload_2 hX (dk DX12_list 17 rfl) ?_
      refine g_c2I hX sX12_list_28 (by decide) (Nat.le_of_ble_eq_true rfl) (rc0 rfl (MLt hM (by decide)) (MC hM)) (by decide) (by decide) (cE_isDoing hG hM (RM.f hR 0 (by decide) (by decide))) ?_
      refine g_ifb_ne (tgt := 36) hX (dk DX12_list 19 rfl) (by decide) (fun hc3 => ?_) (fun hc3 => ?_)
      · refine g_aload_0 hX (dk DX12_list 22 rfl) ?_
        refine g_getIv hX (dk DX12_list 23 rfl) KX12 fX12_144 (by decide) rfl (MLt hM (by decide)) (MC hM) (RM.f hR 44 (by decide) (by decide)) ?_
        refine g_bipush (v := 12) hX (dk DX12_list 24 rfl) (by decide) ?_
        refine g_icmp_ne (tgt := 48) hX (dk DX12_list 25 rfl) (by decide) (fun hc4 => ?_) (fun hc4 => ?_)
        · have hrx := row_ix hE hc4
          refine g_aload_0 hX (dk DX12_list 28 rfl) ?_
          refine g_getRs (r := 23) hX (dk DX12_list 29 rfl) KX12 fX12_147 (by decide) rfl (MLt hM (by decide)) (MC hM) (MR hM 45 (by decide) rfl) ?_
          refine g_aload_0 hX (dk DX12_list 30 rfl) ?_
          refine g_getIv hX (dk DX12_list 31 rfl) KX12 fX12_144 (by decide) rfl (MLt hM (by decide)) (MC hM) (RM.f hR 44 (by decide) (by decide)) ?_
          refine g_iload_1 hX (dk DX12_list 32 rfl) ?_
          refine i_iastore hX (dk DX12_list 33 rfl) (MLt hM (q := 23) (by decide)) (MS hM 23 (by decide) rfl) (hrx) ?_
          refine g_aload_0 hX (dk DX12_list 34 rfl) ?_
          refine g_getRs (r := 24) hX (dk DX12_list 35 rfl) KX12 fX12_150 (by decide) rfl (MLt hM (by decide)) (MC hM) (MR hM 46 (by decide) rfl) ?_
          refine g_aload_0 hX (dk DX12_list 36 rfl) ?_
          refine g_getIv hX (dk DX12_list 37 rfl) KX12 fX12_144 (by decide) rfl (MLt hM (by decide)) (MC hM) (RM.f hR 44 (by decide) (by decide)) ?_
          refine g_iload_2 hX (dk DX12_list 38 rfl) ?_
          refine i_iastore hX (dk DX12_list 39 rfl) (MLt hM (q := 24) (by decide)) (MS hM 24 (by decide) rfl) (hrx) ?_
          refine g_aload_0 hX (dk DX12_list 40 rfl) ?_
          refine g_dup hX (dk DX12_list 41 rfl) rfl ?_
          refine g_getIv hX (dk DX12_list 42 rfl) KX12 fX12_144 (by decide) rfl (MLt hM (by decide)) (MC hM) (RM.f hR 44 (by decide) (by decide)) ?_
          refine g_iconst (v := 1) hX (dk DX12_list 43 rfl) (by decide) ?_
          refine g_iadd hX (dk DX12_list 44 rfl) ?_
          refine g_putI hX (dk DX12_list 45 rfl) KX12 fX12_144 (by decide) rfl (MLt hM (by decide)) (MC hM) (Or.inl rfl) (rfl) (rfl) ?_
          refine g_aload_0 hX (dk DX12_list 46 rfl) ?_
          refine g_getIv hX (dk DX12_list 47 rfl) KX12 fX12_144 (by decide) rfl (MLt hM (by decide)) (MC hM) (up0 _ _ _ _) ?_
          refine g_ireturn hX (dk DX12_list 48 rfl) rfl (rfl) (by decide) (by decide) ?_
          exact qS_of hM hl (by unfold listS; (try first | rw [if_pos hc1] | rw [if_neg hc1] | rw [if_neg (not_not_intro hc1)]); (try first | rw [if_pos hc2] | rw [if_neg hc2] | rw [if_neg (not_not_intro hc2)]); (try first | rw [if_pos hc3] | rw [if_neg hc3] | rw [if_neg (not_not_intro hc3)]); (try first | rw [if_pos hc4] | rw [if_neg hc4] | rw [if_neg (not_not_intro hc4)]); first | done | rfl) (RM.upf (RM.upc (RM.upc hR (by decide)) (by decide)) (by decide))
        · refine g_bipush (v := -4) hX (dk DX12_list 26 rfl) (by decide) ?_
          refine g_ireturn hX (dk DX12_list 27 rfl) rfl (rfl) (by decide) (by decide) ?_
          exact qS_of hM hl (by unfold listS; (try first | rw [if_pos hc1] | rw [if_neg hc1] | rw [if_neg (not_not_intro hc1)]); (try first | rw [if_pos hc2] | rw [if_neg hc2] | rw [if_neg (not_not_intro hc2)]); (try first | rw [if_pos hc3] | rw [if_neg hc3] | rw [if_neg (not_not_intro hc3)]); (try first | rw [if_pos hc4] | rw [if_neg hc4] | rw [if_neg (not_not_intro hc4)]); first | done | rfl) hR
      · refine g_iconst (v := -1) hX (dk DX12_list 20 rfl) (by decide) ?_
        refine g_ireturn hX (dk DX12_list 21 rfl) rfl (rfl) (by decide) (by decide) ?_
        exact qS_of hM hl (by unfold listS; (try first | rw [if_pos hc1] | rw [if_neg hc1] | rw [if_neg (not_not_intro hc1)]); (try first | rw [if_pos hc2] | rw [if_neg hc2] | rw [if_neg (not_not_intro hc2)]); (try first | rw [if_pos hc3] | rw [if_neg hc3] | rw [if_neg (not_not_intro hc3)]); first | done | rfl) hR
    · refine g_bipush (v := -2) hX (dk DX12_list 14 rfl) (by decide) ?_
      refine g_ireturn hX (dk DX12_list 15 rfl) rfl (rfl) (by decide) (by decide) ?_
      exact qS_of hM hl (by unfold listS; (try first | rw [if_pos hc1] | rw [if_neg hc1] | rw [if_neg (not_not_intro hc1)]); (try first | rw [if_pos hc2] | rw [if_neg hc2] | rw [if_neg (not_not_intro hc2)]); first | done | rfl) hR
  · refine g_aload_0 hX (dk DX12_list 3 rfl) ?_
    refine g_iconst (v := 0) hX (dk DX12_list 4 rfl) (by decide) ?_
    refine g_putI hX (dk DX12_list 5 rfl) KX12 fX12_144 (by decide) rfl (MLt hM (by decide)) (MC hM) (Or.inl rfl) (rfl) (rfl) ?_
    refine g_iconst (v := 0) hX (dk DX12_list 6 rfl) (by decide) ?_
    refine g_ireturn hX (dk DX12_list 7 rfl) rfl (rfl) (by decide) (by decide) ?_
    exact qS_of hM hl (by unfold listS; (try first | rw [if_pos hc1] | rw [if_neg hc1] | rw [if_neg (not_not_intro hc1)]); first | done | rfl) (RM.upf hR (by decide))

set_option maxRecDepth 8000 in
set_option maxHeartbeats 4000000 in
theorem c_X12_trace {G : Gt} (hG : Gok G) {I : It} {h : Ht} (hM : HM h) {E : It} (hE : Inv E) (hR : RM E I) {L : Nat → Int64} (hl : hL h 38 = L) {a : Int32} : Con G (2) 0 0 mX12_trace [.ref 0, .int a] I h (qS (traceS E a) L) := by
  refine con_intro (own := RX12) (lo0 := [some (.ref 0), some (.int a)]) hG rfl pl_X12 (Nat.le_of_ble_eq_true rfl) rfl (fun X hX => ?_)
  refine g_aload_0 hX (dk DX12_trace 0 rfl) ?_
  refine g_iload_1 hX (dk DX12_trace 1 rfl) ?_
  refine g_iconst (v := 0) hX (dk DX12_trace 2 rfl) (by decide) ?_
  refine g_bipush (v := 19) hX (dk DX12_trace 3 rfl) (by decide) ?_
  refine g_c4I hX sX12_trace_5 (by decide) (Nat.le_of_ble_eq_true rfl) (rc0 rfl (MLt hM (by decide)) (MC hM)) (by decide) (by decide) (c_X12_in hG ) ?_
  refine g_ifb_eq (tgt := 28) hX (dk DX12_trace 5 rfl) (by decide) (fun hc1 => ?_) (fun hc1 => ?_)
  · refine g_iconst (v := -1) hX (dk DX12_trace 15 rfl) (by decide) ?_
    refine g_ireturn hX (dk DX12_trace 16 rfl) rfl (rfl) (by decide) (by decide) ?_
    exact qS_of hM hl (by unfold traceS; (try rw [tN_nI (by omega)]); (try first | rw [if_pos hc1] | rw [if_neg hc1] | rw [if_neg (not_not_intro hc1)]); (try rw [tN_nI (by omega)]); first | done | rfl) hR
  · obtain ⟨j, hj, rfl⟩ := in_of (b := 19) (by decide) hc1
    refine g_iload_1 hX (dk DX12_trace 6 rfl) ?_
    refine g_aload_0 hX (dk DX12_trace 7 rfl) ?_
    refine g_getIv hX (dk DX12_trace 8 rfl) KX12 fX12_214 (by decide) rfl (MLt hM (by decide)) (MC hM) (RM.f hR 67 (by decide) (by decide)) ?_
    refine g_icmp_ge (tgt := 28) hX (dk DX12_trace 9 rfl) (by decide) (fun hc2 => ?_) (fun hc2 => ?_)
    · refine g_iconst (v := -1) hX (dk DX12_trace 15 rfl) (by decide) ?_
      refine g_ireturn hX (dk DX12_trace 16 rfl) rfl (rfl) (by decide) (by decide) ?_
      exact qS_of hM hl (by unfold traceS; (try rw [tN_nI (by omega)]); (try first | rw [if_pos hc1] | rw [if_neg hc1] | rw [if_neg (not_not_intro hc1)]); (try first | rw [if_pos hc2] | rw [if_neg hc2] | rw [if_neg (not_not_intro hc2)]); (try rw [tN_nI (by omega)]); first | done | rfl) hR
    · refine g_aload_0 hX (dk DX12_trace 10 rfl) ?_
      refine g_getRs (r := 35) hX (dk DX12_trace 11 rfl) KX12 fX12_217 (by decide) rfl (MLt hM (by decide)) (MC hM) (MR hM 68 (by decide) rfl) ?_
      refine g_iload_1 hX (dk DX12_trace 12 rfl) ?_
      refine v_iaload hX (dk DX12_trace 13 rfl) (MLt hM (q := 35) (by decide)) (MS hM 35 (by decide) rfl) (⟨rfl, by omega, by decide⟩) (RM.c1 hR 35 _ (by decide) (by decide)) ?_
      refine g_goto (tgt := 29) hX (dk DX12_trace 14 rfl) (by decide) ?_
      refine g_ireturn hX (dk DX12_trace 16 rfl) rfl (rfl) (by decide) (by decide) ?_
      exact qS_of hM hl (by unfold traceS; (try rw [tN_nI (by omega)]); (try first | rw [if_pos hc1] | rw [if_neg hc1] | rw [if_neg (not_not_intro hc1)]); (try first | rw [if_pos hc2] | rw [if_neg hc2] | rw [if_neg (not_not_intro hc2)]); (try rw [tN_nI (by omega)]); first | done | rfl) hR

set_option maxRecDepth 8000 in
set_option maxHeartbeats 4000000 in
theorem c_X12_taken {G : Gt} (hG : Gok G) {I : It} {h : Ht} (hM : HM h) {E : It} (hE : Inv E) (hR : RM E I) {L : Nat → Int64} (hl : hL h 38 = L) {a k : Int32} : Con G (3) 0 0 mX12_taken [.ref 0, .int a, .int k] I h (qS (takenS E a k) L) := by
  refine con_intro (own := RX12) (lo0 := [some (.ref 0), some (.int a), some (.int k), none]) hG rfl pl_X12 (Nat.le_of_ble_eq_true rfl) rfl (fun X hX => ?_)
  refine g_aload_0 hX (dk DX12_taken 0 rfl) ?_
  refine g_iload_2 hX (dk DX12_taken 1 rfl) ?_
  refine g_iconst (v := 0) hX (dk DX12_taken 2 rfl) (by decide) ?_
  refine g_bipush (v := 6) hX (dk DX12_taken 3 rfl) (by decide) ?_
  refine g_c4I hX sX12_taken_5 (by decide) (Nat.le_of_ble_eq_true rfl) (rc0 rfl (MLt hM (by decide)) (MC hM)) (by decide) (by decide) (c_X12_in hG ) ?_
  refine g_ifb_ne (tgt := 14) hX (dk DX12_taken 5 rfl) (by decide) (fun hc1 => ?_) (fun hc1 => ?_)
  · refine g_aload_0 hX (dk DX12_taken 8 rfl) ?_
    refine g_iload_1 hX (dk DX12_taken 9 rfl) ?_
    refine g_c2I hX sX12_taken_16 (by decide) (Nat.le_of_ble_eq_true rfl) (rc0 rfl (MLt hM (by decide)) (MC hM)) (by decide) (by decide) (cE_isDoing hG hM (RM.f hR 0 (by decide) (by decide))) ?_
    refine g_ifb_ne (tgt := 25) hX (dk DX12_taken 11 rfl) (by decide) (fun hc2 => ?_) (fun hc2 => ?_)
    · obtain ⟨d, hd, rfl⟩ := isD_of hE hc2
      have hd10 := Nat.lt_of_lt_of_le hd (inv_cnt hE).2
      refine g_aload_0 hX (dk DX12_taken 14 rfl) ?_
      refine g_getRs (r := 1) hX (dk DX12_taken 15 rfl) KX12 fX12_31 (by decide) rfl (MLt hM (by decide)) (MC hM) (MR hM 7 (by decide) rfl) ?_
      refine g_iload_1 hX (dk DX12_taken 16 rfl) ?_
      refine v_iaload hX (dk DX12_taken 17 rfl) (MLt hM (q := 1) (by decide)) (MS hM 1 (by decide) rfl) (⟨rfl, hd10, by decide⟩) (RM.c1 hR 1 _ (by decide) (by decide)) ?_
      refine g_istore_3 hX (dk DX12_taken 18 rfl) (by decide) rfl ?_
      refine g_iload_2 hX (dk DX12_taken 19 rfl) ?_
      refine g_if_eq (tgt := 72) hX (dk DX12_taken 20 rfl) (by decide) (fun hc3 => ?_) (fun hc3 => ?_)
      · refine g_iload_3 hX (dk DX12_taken 42 rfl) ?_
        refine g_goto (tgt := 78) hX (dk DX12_taken 43 rfl) (by decide) ?_
        refine g_ireturn hX (dk DX12_taken 45 rfl) rfl (rfl) (by decide) (by decide) ?_
        exact qS_of hM hl (by unfold takenS; rw [if_neg (not_not_intro hc1), if_neg (not_not_intro hc2), tN_nI (by omega)]; first | exact if_pos (by grind) | exact if_neg (by grind)) hR
      · refine g_iload_3 hX (dk DX12_taken 21 rfl) ?_
        refine g_iload_2 hX (dk DX12_taken 22 rfl) ?_
        refine g_icmp_eq (tgt := 72) hX (dk DX12_taken 23 rfl) (by decide) (fun hc4 => ?_) (fun hc4 => ?_)
        · refine g_iload_3 hX (dk DX12_taken 42 rfl) ?_
          refine g_goto (tgt := 78) hX (dk DX12_taken 43 rfl) (by decide) ?_
          refine g_ireturn hX (dk DX12_taken 45 rfl) rfl (rfl) (by decide) (by decide) ?_
          exact qS_of hM hl (by unfold takenS; rw [if_neg (not_not_intro hc1), if_neg (not_not_intro hc2), tN_nI (by omega)]; first | exact if_pos (by grind) | exact if_neg (by grind)) hR
        · refine g_iload_2 hX (dk DX12_taken 24 rfl) ?_
          refine g_iconst (v := 1) hX (dk DX12_taken 25 rfl) (by decide) ?_
          refine g_icmp_ne (tgt := 51) hX (dk DX12_taken 26 rfl) (by decide) (fun hc5 => ?_) (fun hc5 => ?_)
          · refine g_iload_2 hX (dk DX12_taken 30 rfl) ?_
            refine g_iconst (v := 2) hX (dk DX12_taken 31 rfl) (by decide) ?_
            refine g_icmp_ne (tgt := 61) hX (dk DX12_taken 32 rfl) (by decide) (fun hc6 => ?_) (fun hc6 => ?_)
            · refine g_iload_2 hX (dk DX12_taken 36 rfl) ?_
              refine g_iconst (v := 3) hX (dk DX12_taken 37 rfl) (by decide) ?_
              refine g_icmp_ne (tgt := 76) hX (dk DX12_taken 38 rfl) (by decide) (fun hc7 => ?_) (fun hc7 => ?_)
              · refine g_bipush (v := -12) hX (dk DX12_taken 44 rfl) (by decide) ?_
                refine g_ireturn hX (dk DX12_taken 45 rfl) rfl (rfl) (by decide) (by decide) ?_
                exact qS_of hM hl (by unfold takenS; rw [if_neg (not_not_intro hc1), if_neg (not_not_intro hc2), tN_nI (by omega)]; first | exact if_pos (by grind) | exact if_neg (by grind)) hR
              · refine g_iload_3 hX (dk DX12_taken 39 rfl) ?_
                refine g_bipush (v := 6) hX (dk DX12_taken 40 rfl) (by decide) ?_
                refine g_icmp_ne (tgt := 76) hX (dk DX12_taken 41 rfl) (by decide) (fun hc8 => ?_) (fun hc8 => ?_)
                · refine g_bipush (v := -12) hX (dk DX12_taken 44 rfl) (by decide) ?_
                  refine g_ireturn hX (dk DX12_taken 45 rfl) rfl (rfl) (by decide) (by decide) ?_
                  exact qS_of hM hl (by unfold takenS; rw [if_neg (not_not_intro hc1), if_neg (not_not_intro hc2), tN_nI (by omega)]; first | exact if_pos (by grind) | exact if_neg (by grind)) hR
                · refine g_iload_3 hX (dk DX12_taken 42 rfl) ?_
                  refine g_goto (tgt := 78) hX (dk DX12_taken 43 rfl) (by decide) ?_
                  refine g_ireturn hX (dk DX12_taken 45 rfl) rfl (rfl) (by decide) (by decide) ?_
                  exact qS_of hM hl (by unfold takenS; rw [if_neg (not_not_intro hc1), if_neg (not_not_intro hc2), tN_nI (by omega)]; first | exact if_pos (by grind) | exact if_neg (by grind)) hR
            · refine g_iload_3 hX (dk DX12_taken 33 rfl) ?_
              refine g_iconst (v := 5) hX (dk DX12_taken 34 rfl) (by decide) ?_
              refine g_icmp_eq (tgt := 72) hX (dk DX12_taken 35 rfl) (by decide) (fun hc9 => ?_) (fun hc9 => ?_)
              · refine g_iload_3 hX (dk DX12_taken 42 rfl) ?_
                refine g_goto (tgt := 78) hX (dk DX12_taken 43 rfl) (by decide) ?_
                refine g_ireturn hX (dk DX12_taken 45 rfl) rfl (rfl) (by decide) (by decide) ?_
                exact qS_of hM hl (by unfold takenS; rw [if_neg (not_not_intro hc1), if_neg (not_not_intro hc2), tN_nI (by omega)]; first | exact if_pos (by grind) | exact if_neg (by grind)) hR
              · refine g_iload_2 hX (dk DX12_taken 36 rfl) ?_
                refine g_iconst (v := 3) hX (dk DX12_taken 37 rfl) (by decide) ?_
                refine g_icmp_ne (tgt := 76) hX (dk DX12_taken 38 rfl) (by decide) (fun hc10 => ?_) (fun hc10 => ?_)
                · refine g_bipush (v := -12) hX (dk DX12_taken 44 rfl) (by decide) ?_
                  refine g_ireturn hX (dk DX12_taken 45 rfl) rfl (rfl) (by decide) (by decide) ?_
                  exact qS_of hM hl (by unfold takenS; rw [if_neg (not_not_intro hc1), if_neg (not_not_intro hc2), tN_nI (by omega)]; first | exact if_pos (by grind) | exact if_neg (by grind)) hR
                · refine g_iload_3 hX (dk DX12_taken 39 rfl) ?_
                  refine g_bipush (v := 6) hX (dk DX12_taken 40 rfl) (by decide) ?_
                  refine g_icmp_ne (tgt := 76) hX (dk DX12_taken 41 rfl) (by decide) (fun hc11 => ?_) (fun hc11 => ?_)
                  · refine g_bipush (v := -12) hX (dk DX12_taken 44 rfl) (by decide) ?_
                    refine g_ireturn hX (dk DX12_taken 45 rfl) rfl (rfl) (by decide) (by decide) ?_
                    exact qS_of hM hl (by unfold takenS; rw [if_neg (not_not_intro hc1), if_neg (not_not_intro hc2), tN_nI (by omega)]; first | exact if_pos (by grind) | exact if_neg (by grind)) hR
                  · refine g_iload_3 hX (dk DX12_taken 42 rfl) ?_
                    refine g_goto (tgt := 78) hX (dk DX12_taken 43 rfl) (by decide) ?_
                    refine g_ireturn hX (dk DX12_taken 45 rfl) rfl (rfl) (by decide) (by decide) ?_
                    exact qS_of hM hl (by unfold takenS; rw [if_neg (not_not_intro hc1), if_neg (not_not_intro hc2), tN_nI (by omega)]; first | exact if_pos (by grind) | exact if_neg (by grind)) hR
          · refine g_iload_3 hX (dk DX12_taken 27 rfl) ?_
            refine g_iconst (v := 4) hX (dk DX12_taken 28 rfl) (by decide) ?_
            refine g_icmp_eq (tgt := 72) hX (dk DX12_taken 29 rfl) (by decide) (fun hc12 => ?_) (fun hc12 => ?_)
            · refine g_iload_3 hX (dk DX12_taken 42 rfl) ?_
              refine g_goto (tgt := 78) hX (dk DX12_taken 43 rfl) (by decide) ?_
              refine g_ireturn hX (dk DX12_taken 45 rfl) rfl (rfl) (by decide) (by decide) ?_
              exact qS_of hM hl (by unfold takenS; rw [if_neg (not_not_intro hc1), if_neg (not_not_intro hc2), tN_nI (by omega)]; first | exact if_pos (by grind) | exact if_neg (by grind)) hR
            · refine g_iload_2 hX (dk DX12_taken 30 rfl) ?_
              refine g_iconst (v := 2) hX (dk DX12_taken 31 rfl) (by decide) ?_
              refine g_icmp_ne (tgt := 61) hX (dk DX12_taken 32 rfl) (by decide) (fun hc13 => ?_) (fun hc13 => ?_)
              · refine g_iload_2 hX (dk DX12_taken 36 rfl) ?_
                refine g_iconst (v := 3) hX (dk DX12_taken 37 rfl) (by decide) ?_
                refine g_icmp_ne (tgt := 76) hX (dk DX12_taken 38 rfl) (by decide) (fun hc14 => ?_) (fun hc14 => ?_)
                · refine g_bipush (v := -12) hX (dk DX12_taken 44 rfl) (by decide) ?_
                  refine g_ireturn hX (dk DX12_taken 45 rfl) rfl (rfl) (by decide) (by decide) ?_
                  exact qS_of hM hl (by unfold takenS; rw [if_neg (not_not_intro hc1), if_neg (not_not_intro hc2), tN_nI (by omega)]; first | exact if_pos (by grind) | exact if_neg (by grind)) hR
                · refine g_iload_3 hX (dk DX12_taken 39 rfl) ?_
                  refine g_bipush (v := 6) hX (dk DX12_taken 40 rfl) (by decide) ?_
                  refine g_icmp_ne (tgt := 76) hX (dk DX12_taken 41 rfl) (by decide) (fun hc15 => ?_) (fun hc15 => ?_)
                  · refine g_bipush (v := -12) hX (dk DX12_taken 44 rfl) (by decide) ?_
                    refine g_ireturn hX (dk DX12_taken 45 rfl) rfl (rfl) (by decide) (by decide) ?_
                    exact qS_of hM hl (by unfold takenS; rw [if_neg (not_not_intro hc1), if_neg (not_not_intro hc2), tN_nI (by omega)]; first | exact if_pos (by grind) | exact if_neg (by grind)) hR
                  · refine g_iload_3 hX (dk DX12_taken 42 rfl) ?_
                    refine g_goto (tgt := 78) hX (dk DX12_taken 43 rfl) (by decide) ?_
                    refine g_ireturn hX (dk DX12_taken 45 rfl) rfl (rfl) (by decide) (by decide) ?_
                    exact qS_of hM hl (by unfold takenS; rw [if_neg (not_not_intro hc1), if_neg (not_not_intro hc2), tN_nI (by omega)]; first | exact if_pos (by grind) | exact if_neg (by grind)) hR
              · refine g_iload_3 hX (dk DX12_taken 33 rfl) ?_
                refine g_iconst (v := 5) hX (dk DX12_taken 34 rfl) (by decide) ?_
                refine g_icmp_eq (tgt := 72) hX (dk DX12_taken 35 rfl) (by decide) (fun hc16 => ?_) (fun hc16 => ?_)
                · refine g_iload_3 hX (dk DX12_taken 42 rfl) ?_
                  refine g_goto (tgt := 78) hX (dk DX12_taken 43 rfl) (by decide) ?_
                  refine g_ireturn hX (dk DX12_taken 45 rfl) rfl (rfl) (by decide) (by decide) ?_
                  exact qS_of hM hl (by unfold takenS; rw [if_neg (not_not_intro hc1), if_neg (not_not_intro hc2), tN_nI (by omega)]; first | exact if_pos (by grind) | exact if_neg (by grind)) hR
                · refine g_iload_2 hX (dk DX12_taken 36 rfl) ?_
                  refine g_iconst (v := 3) hX (dk DX12_taken 37 rfl) (by decide) ?_
                  refine g_icmp_ne (tgt := 76) hX (dk DX12_taken 38 rfl) (by decide) (fun hc17 => ?_) (fun hc17 => ?_)
                  · refine g_bipush (v := -12) hX (dk DX12_taken 44 rfl) (by decide) ?_
                    refine g_ireturn hX (dk DX12_taken 45 rfl) rfl (rfl) (by decide) (by decide) ?_
                    exact qS_of hM hl (by unfold takenS; rw [if_neg (not_not_intro hc1), if_neg (not_not_intro hc2), tN_nI (by omega)]; first | exact if_pos (by grind) | exact if_neg (by grind)) hR
                  · refine g_iload_3 hX (dk DX12_taken 39 rfl) ?_
                    refine g_bipush (v := 6) hX (dk DX12_taken 40 rfl) (by decide) ?_
                    refine g_icmp_ne (tgt := 76) hX (dk DX12_taken 41 rfl) (by decide) (fun hc18 => ?_) (fun hc18 => ?_)
                    · refine g_bipush (v := -12) hX (dk DX12_taken 44 rfl) (by decide) ?_
                      refine g_ireturn hX (dk DX12_taken 45 rfl) rfl (rfl) (by decide) (by decide) ?_
                      exact qS_of hM hl (by unfold takenS; rw [if_neg (not_not_intro hc1), if_neg (not_not_intro hc2), tN_nI (by omega)]; first | exact if_pos (by grind) | exact if_neg (by grind)) hR
                    · refine g_iload_3 hX (dk DX12_taken 42 rfl) ?_
                      refine g_goto (tgt := 78) hX (dk DX12_taken 43 rfl) (by decide) ?_
                      refine g_ireturn hX (dk DX12_taken 45 rfl) rfl (rfl) (by decide) (by decide) ?_
                      exact qS_of hM hl (by unfold takenS; rw [if_neg (not_not_intro hc1), if_neg (not_not_intro hc2), tN_nI (by omega)]; first | exact if_pos (by grind) | exact if_neg (by grind)) hR
    · refine g_bipush (v := -11) hX (dk DX12_taken 12 rfl) (by decide) ?_
      refine g_ireturn hX (dk DX12_taken 13 rfl) rfl (rfl) (by decide) (by decide) ?_
      exact qS_of hM hl (by unfold takenS; (try first | rw [if_pos hc1] | rw [if_neg hc1] | rw [if_neg (not_not_intro hc1)]); (try first | rw [if_pos hc2] | rw [if_neg hc2] | rw [if_neg (not_not_intro hc2)]); first | done | rfl) hR
  · refine g_bipush (v := -2) hX (dk DX12_taken 6 rfl) (by decide) ?_
    refine g_ireturn hX (dk DX12_taken 7 rfl) rfl (rfl) (by decide) (by decide) ?_
    exact qS_of hM hl (by unfold takenS; (try first | rw [if_pos hc1] | rw [if_neg hc1] | rw [if_neg (not_not_intro hc1)]); first | done | rfl) hR

set_option maxRecDepth 8000 in
set_option maxHeartbeats 4000000 in
theorem c_X12_count {G : Gt} (hG : Gok G) {I : It} {h : Ht} (hM : HM h) {E : It} (hE : Inv E) (hR : RM E I) {L : Nat → Int64} (hl : hL h 38 = L) {w : Int32} : Con G (2) 0 0 mX12_count [.ref 0, .int w] I h (qS (countS E w) L) := by
  refine con_intro (own := RX12) (lo0 := [some (.ref 0), some (.int w)]) hG rfl pl_X12 (Nat.le_of_ble_eq_true rfl) rfl (fun X hX => ?_)
  refine g_iload_1 hX (dk DX12_count 0 rfl) ?_
  refine g_tswitch (dt := 74) hX [(0, 40), (1, 45), (2, 50), (3, 55), (4, 60), (5, 65)] (dk DX12_count 1 rfl) (by decide +kernel) ?_
  refine ⟨fun hc1 => ?_, fun hc1n => ?_⟩
  · show GG _ _ _ _ _ _ _ _ _ _ _ _ _
    refine g_aload_0 hX (dk DX12_count 2 rfl) ?_
    refine g_getIv hX (dk DX12_count 3 rfl) KX12 fX12_7 (by decide) rfl (MLt hM (by decide)) (MC hM) (RM.f hR 0 (by decide) (by decide)) ?_
    refine g_ireturn hX (dk DX12_count 4 rfl) rfl (rfl) (by decide) (by decide) ?_
    exact qS_of hM hl (by unfold countS; (try first | rw [if_pos hc1] | rw [if_neg hc1] | rw [if_neg (not_not_intro hc1)]); first | done | rfl) hR
  refine ⟨fun hc2 => ?_, fun hc2n => ?_⟩
  · show GG _ _ _ _ _ _ _ _ _ _ _ _ _
    refine g_aload_0 hX (dk DX12_count 5 rfl) ?_
    refine g_getIv hX (dk DX12_count 6 rfl) KX12 fX12_56 (by decide) rfl (MLt hM (by decide)) (MC hM) (RM.f hR 15 (by decide) (by decide)) ?_
    refine g_ireturn hX (dk DX12_count 7 rfl) rfl (rfl) (by decide) (by decide) ?_
    exact qS_of hM hl (by unfold countS; (try first | rw [if_pos hc1n] | rw [if_neg hc1n] | rw [if_neg (not_not_intro hc1n)]); (try first | rw [if_pos hc2] | rw [if_neg hc2] | rw [if_neg (not_not_intro hc2)]); first | done | rfl) hR
  refine ⟨fun hc3 => ?_, fun hc3n => ?_⟩
  · show GG _ _ _ _ _ _ _ _ _ _ _ _ _
    refine g_aload_0 hX (dk DX12_count 8 rfl) ?_
    refine g_getIv hX (dk DX12_count 9 rfl) KX12 fX12_144 (by decide) rfl (MLt hM (by decide)) (MC hM) (RM.f hR 44 (by decide) (by decide)) ?_
    refine g_ireturn hX (dk DX12_count 10 rfl) rfl (rfl) (by decide) (by decide) ?_
    exact qS_of hM hl (by unfold countS; (try first | rw [if_pos hc1n] | rw [if_neg hc1n] | rw [if_neg (not_not_intro hc1n)]); (try first | rw [if_pos hc2n] | rw [if_neg hc2n] | rw [if_neg (not_not_intro hc2n)]); (try first | rw [if_pos hc3] | rw [if_neg hc3] | rw [if_neg (not_not_intro hc3)]); first | done | rfl) hR
  refine ⟨fun hc4 => ?_, fun hc4n => ?_⟩
  · show GG _ _ _ _ _ _ _ _ _ _ _ _ _
    refine g_aload_0 hX (dk DX12_count 11 rfl) ?_
    refine g_getIv hX (dk DX12_count 12 rfl) KX12 fX12_62 (by decide) rfl (MLt hM (by decide)) (MC hM) (RM.f hR 17 (by decide) (by decide)) ?_
    refine g_ireturn hX (dk DX12_count 13 rfl) rfl (rfl) (by decide) (by decide) ?_
    exact qS_of hM hl (by unfold countS; (try first | rw [if_pos hc1n] | rw [if_neg hc1n] | rw [if_neg (not_not_intro hc1n)]); (try first | rw [if_pos hc2n] | rw [if_neg hc2n] | rw [if_neg (not_not_intro hc2n)]); (try first | rw [if_pos hc3n] | rw [if_neg hc3n] | rw [if_neg (not_not_intro hc3n)]); (try first | rw [if_pos hc4] | rw [if_neg hc4] | rw [if_neg (not_not_intro hc4)]); first | done | rfl) hR
  refine ⟨fun hc5 => ?_, fun hc5n => ?_⟩
  · show GG _ _ _ _ _ _ _ _ _ _ _ _ _
    refine g_aload_0 hX (dk DX12_count 14 rfl) ?_
    refine g_getIv hX (dk DX12_count 15 rfl) KX12 fX12_214 (by decide) rfl (MLt hM (by decide)) (MC hM) (RM.f hR 67 (by decide) (by decide)) ?_
    refine g_ireturn hX (dk DX12_count 16 rfl) rfl (rfl) (by decide) (by decide) ?_
    exact qS_of hM hl (by unfold countS; (try first | rw [if_pos hc1n] | rw [if_neg hc1n] | rw [if_neg (not_not_intro hc1n)]); (try first | rw [if_pos hc2n] | rw [if_neg hc2n] | rw [if_neg (not_not_intro hc2n)]); (try first | rw [if_pos hc3n] | rw [if_neg hc3n] | rw [if_neg (not_not_intro hc3n)]); (try first | rw [if_pos hc4n] | rw [if_neg hc4n] | rw [if_neg (not_not_intro hc4n)]); (try first | rw [if_pos hc5] | rw [if_neg hc5] | rw [if_neg (not_not_intro hc5)]); first | done | rfl) hR
  refine ⟨fun hc6 => ?_, fun hc6n => ?_⟩
  · show GG _ _ _ _ _ _ _ _ _ _ _ _ _
    refine g_aload_0 hX (dk DX12_count 17 rfl) ?_
    refine g_aload_0 hX (dk DX12_count 18 rfl) ?_
    refine g_getIv hX (dk DX12_count 19 rfl) KX12 fX12_25 (by decide) rfl (MLt hM (by decide)) (MC hM) (RM.f hR 5 (by decide) (by decide)) ?_
    refine g_c2I hX sX12_count_70 (by decide) (Nat.le_of_ble_eq_true rfl) (rc0 rfl (MLt hM (by decide)) (MC hM)) (by decide) (by decide) (cE_ones hG (inv_kn hE) (inv_cnt hE).2) ?_
    refine g_ireturn hX (dk DX12_count 21 rfl) rfl (rfl) (by decide) (by decide) ?_
    exact qS_of hM hl (by unfold countS; (try first | rw [if_pos hc1n] | rw [if_neg hc1n] | rw [if_neg (not_not_intro hc1n)]); (try first | rw [if_pos hc2n] | rw [if_neg hc2n] | rw [if_neg (not_not_intro hc2n)]); (try first | rw [if_pos hc3n] | rw [if_neg hc3n] | rw [if_neg (not_not_intro hc3n)]); (try first | rw [if_pos hc4n] | rw [if_neg hc4n] | rw [if_neg (not_not_intro hc4n)]); (try first | rw [if_pos hc5n] | rw [if_neg hc5n] | rw [if_neg (not_not_intro hc5n)]); (try first | rw [if_pos hc6] | rw [if_neg hc6] | rw [if_neg (not_not_intro hc6)]); first | done | rfl) hR
  show GG _ _ _ _ _ _ _ _ _ _ _ _ _
  refine g_bipush (v := -2) hX (dk DX12_count 22 rfl) (by decide) ?_
  refine g_ireturn hX (dk DX12_count 23 rfl) rfl (rfl) (by decide) (by decide) ?_
  exact qS_of hM hl (by unfold countS; (try first | rw [if_pos hc1n] | rw [if_neg hc1n] | rw [if_neg (not_not_intro hc1n)]); (try first | rw [if_pos hc2n] | rw [if_neg hc2n] | rw [if_neg (not_not_intro hc2n)]); (try first | rw [if_pos hc3n] | rw [if_neg hc3n] | rw [if_neg (not_not_intro hc3n)]); (try first | rw [if_pos hc4n] | rw [if_neg hc4n] | rw [if_neg (not_not_intro hc4n)]); (try first | rw [if_pos hc5n] | rw [if_neg hc5n] | rw [if_neg (not_not_intro hc5n)]); (try first | rw [if_pos hc6n] | rw [if_neg hc6n] | rw [if_neg (not_not_intro hc6n)]); first | done | rfl) hR

def readF (E : It) (L : Nat → Int64) (t i : Int32) : Int64 := if ¬ isT t then NOL else if E 36 (tN t) < 0 then NOL else if ¬ (0 ≤ i ∧ i ≤ E 37 (tN t) - 1) then NOL else L (60 * tN t + tN i)
def itemS (E : It) (L : Nat → Int64) (t i : Int32) (z : Int64) : Int32 × (Nat → Int64) := if ¬ isT t then (-1, L) else if ¬ 0 ≤ E 36 (tN t) then (-11, L) else if ¬ (0 ≤ i ∧ i ≤ E 37 (tN t) - 1) then (-13, L) else (1, vp_updL L (60 * tN t + tN i) (narF (E 36 (tN t)) z))
def tapeS (E : It) (t s n : Int32) : Int32 × It := if ¬ isT t then (-1, E) else if ¬ (-1 ≤ s ∧ s ≤ 4) then (-2, E) else if s < 0 then (1, upI (upI E 36 (tN t) s) 37 (tN t) 0) else if ¬ n ≤ 60 then (-2, E) else if ¬ 0 ≤ n then (-14, E) else (1, upI (upI E 36 (tN t) s) 37 (tN t) n)
def tapeL (L : Nat → Int64) (t s n : Int32) : Nat → Int64 := if ¬ isT t then L else if ¬ (-1 ≤ s ∧ s ≤ 4) then L else if s < 0 then fun j => if 60 * tN t ≤ j ∧ j < 60 * tN t + 60 then 0 else L j else if ¬ n ≤ 60 then L else if ¬ 0 ≤ n then L else fun j => if 60 * tN t ≤ j ∧ j < 60 * tN t + 60 then 0 else L j
def judgeS (E : It) (L : Nat → Int64) (t i : Int32) : Int32 × It := if ¬ isT t then (-1, E) else if E 36 (tN t) < 0 then (jdR E L (tN t) i (cnt E) 0, E) else if ¬ E 36 (tN t) = 4 then (-12, E) else (jdR E L (tN t) i (cnt E) 0, E)
theorem it_ix {t k : Nat} {q : Int32} (ht : t ≤ 5) (hk : k < 60) (hq : q = 60 * nI t + nI k) : idx q (60 * t + k) 360 := by
  rw [show (60 : Int32) = nI 60 from rfl, pk_mul, nI_add] at hq
  exact ⟨hq, by omega, by decide⟩
set_option maxRecDepth 8000 in
set_option maxHeartbeats 4000000 in
theorem c_X12_isTape {G : Gt} (hG : Gok G) {I : It} {h : Ht} (hM : HM h) {t : Int32} : Con G (2) 0 0 mX12_isTape [.ref 0, .int t] I h (rI (bI (isT t)) I h) := by
  refine con_intro (own := RX12) (lo0 := [some (.ref 0), some (.int t)]) hG rfl pl_X12 (Nat.le_of_ble_eq_true rfl) rfl (fun X hX => ?_)
  refine g_aload_0 hX (dk DX12_isTape 0 rfl) ?_
  refine g_iload_1 hX (dk DX12_isTape 1 rfl) ?_
  refine g_iconst (v := 0) hX (dk DX12_isTape 2 rfl) (by decide) ?_
  refine g_iconst (v := 5) hX (dk DX12_isTape 3 rfl) (by decide) ?_
  refine g_c4I hX sX12_isTape_4 (by decide) (Nat.le_of_ble_eq_true rfl) (rc0 rfl (MLt hM (by decide)) (MC hM)) (by decide) (by decide) (c_X12_in hG ) ?_
  refine g_ireturn hX (dk DX12_isTape 5 rfl) rfl (narB _) (by decide) (by decide) ?_
  exact rI_of rfl rfl rfl

set_option maxRecDepth 8000 in
set_option maxHeartbeats 4000000 in
theorem c_X12_narrow {G : Gt} (hG : Gok G) {I : It} {h : Ht}  {s : Int32} {z : Int64} : Con G (1) 0 0 mX12_narrow [.ref 0, .int s, .long z] I h (rL (narF s z) I h) := by
  refine con_intro (own := RX12) (lo0 := [some (.ref 0), some (.int s), some (.long z), none]) hG rfl pl_X12 (Nat.le_of_ble_eq_true rfl) rfl (fun X hX => ?_)
  refine g_iload_1 hX (dk DX12_narrow 0 rfl) ?_
  refine g_if_ne (tgt := 11) hX (dk DX12_narrow 1 rfl) (by decide) (fun hc1 => ?_) (fun hc1 => ?_)
  · refine g_iload_1 hX (dk DX12_narrow 7 rfl) ?_
    refine g_iconst (v := 1) hX (dk DX12_narrow 8 rfl) (by decide) ?_
    refine g_icmp_ne (tgt := 23) hX (dk DX12_narrow 9 rfl) (by decide) (fun hc2 => ?_) (fun hc2 => ?_)
    · refine g_iload_1 hX (dk DX12_narrow 15 rfl) ?_
      refine g_iconst (v := 2) hX (dk DX12_narrow 16 rfl) (by decide) ?_
      refine g_icmp_ne (tgt := 34) hX (dk DX12_narrow 17 rfl) (by decide) (fun hc3 => ?_) (fun hc3 => ?_)
      · refine g_iload_1 hX (dk DX12_narrow 22 rfl) ?_
        refine g_iconst (v := 4) hX (dk DX12_narrow 23 rfl) (by decide) ?_
        refine g_icmp_ne (tgt := 53) hX (dk DX12_narrow 24 rfl) (by decide) (fun hc4 => ?_) (fun hc4 => ?_)
        · refine g_lload_2 hX (dk DX12_narrow 33 rfl) ?_
          refine g_lreturn hX (dk DX12_narrow 34 rfl) rfl (by decide) (by decide) ?_
          exact rL_of (by unfold narF; (try rw [lg0] at *); (try first | rw [if_pos hc1] | rw [if_neg hc1] | rw [if_neg (not_not_intro hc1)]); (try first | rw [if_pos hc2] | rw [if_neg hc2] | rw [if_neg (not_not_intro hc2)]); (try first | rw [if_pos hc3] | rw [if_neg hc3] | rw [if_neg (not_not_intro hc3)]); (try first | rw [if_pos hc4] | rw [if_neg hc4] | rw [if_neg (not_not_intro hc4)]); first | done | rfl) rfl rfl
        · refine g_lload_2 hX (dk DX12_narrow 25 rfl) ?_
          refine g_lconst (v := 0) hX (dk DX12_narrow 26 rfl) (by decide) ?_
          refine g_lcmp hX (dk DX12_narrow 27 rfl) ?_
          refine g_if_eq (tgt := 49) hX (dk DX12_narrow 28 rfl) (by decide) (fun hc5 => ?_) (fun hc5 => ?_)
          · refine g_lconst (v := 0) hX (dk DX12_narrow 31 rfl) (by decide) ?_
            refine g_goto (tgt := 54) hX (dk DX12_narrow 32 rfl) (by decide) ?_
            refine g_lreturn hX (dk DX12_narrow 34 rfl) rfl (by decide) (by decide) ?_
            exact rL_of (by unfold narF; (try rw [lg0] at *); (try first | rw [if_pos hc1] | rw [if_neg hc1] | rw [if_neg (not_not_intro hc1)]); (try first | rw [if_pos hc2] | rw [if_neg hc2] | rw [if_neg (not_not_intro hc2)]); (try first | rw [if_pos hc3] | rw [if_neg hc3] | rw [if_neg (not_not_intro hc3)]); (try first | rw [if_pos hc4] | rw [if_neg hc4] | rw [if_neg (not_not_intro hc4)]); (try first | rw [if_pos hc5] | rw [if_neg hc5] | rw [if_neg (not_not_intro hc5)]); first | done | rfl) rfl rfl
          · refine g_lconst (v := 1) hX (dk DX12_narrow 29 rfl) (by decide) ?_
            refine g_goto (tgt := 54) hX (dk DX12_narrow 30 rfl) (by decide) ?_
            refine g_lreturn hX (dk DX12_narrow 34 rfl) rfl (by decide) (by decide) ?_
            exact rL_of (by unfold narF; (try rw [lg0] at *); (try first | rw [if_pos hc1] | rw [if_neg hc1] | rw [if_neg (not_not_intro hc1)]); (try first | rw [if_pos hc2] | rw [if_neg hc2] | rw [if_neg (not_not_intro hc2)]); (try first | rw [if_pos hc3] | rw [if_neg hc3] | rw [if_neg (not_not_intro hc3)]); (try first | rw [if_pos hc4] | rw [if_neg hc4] | rw [if_neg (not_not_intro hc4)]); (try first | rw [if_pos hc5] | rw [if_neg hc5] | rw [if_neg (not_not_intro hc5)]); first | done | rfl) rfl rfl
      · refine g_lload_2 hX (dk DX12_narrow 18 rfl) ?_
        refine g_l2i hX (dk DX12_narrow 19 rfl) ?_
        refine g_i2l hX (dk DX12_narrow 20 rfl) ?_
        refine g_goto (tgt := 54) hX (dk DX12_narrow 21 rfl) (by decide) ?_
        refine g_lreturn hX (dk DX12_narrow 34 rfl) rfl (by decide) (by decide) ?_
        exact rL_of (by unfold narF; (try rw [lg0] at *); (try first | rw [if_pos hc1] | rw [if_neg hc1] | rw [if_neg (not_not_intro hc1)]); (try first | rw [if_pos hc2] | rw [if_neg hc2] | rw [if_neg (not_not_intro hc2)]); (try first | rw [if_pos hc3] | rw [if_neg hc3] | rw [if_neg (not_not_intro hc3)]); first | done | rfl) rfl rfl
    · refine g_lload_2 hX (dk DX12_narrow 10 rfl) ?_
      refine g_l2i hX (dk DX12_narrow 11 rfl) ?_
      refine g_i2s hX (dk DX12_narrow 12 rfl) ?_
      refine g_i2l hX (dk DX12_narrow 13 rfl) ?_
      refine g_goto (tgt := 54) hX (dk DX12_narrow 14 rfl) (by decide) ?_
      refine g_lreturn hX (dk DX12_narrow 34 rfl) rfl (by decide) (by decide) ?_
      exact rL_of (by unfold narF; (try rw [lg0] at *); (try first | rw [if_pos hc1] | rw [if_neg hc1] | rw [if_neg (not_not_intro hc1)]); (try first | rw [if_pos hc2] | rw [if_neg hc2] | rw [if_neg (not_not_intro hc2)]); first | done | rfl) rfl rfl
  · refine g_lload_2 hX (dk DX12_narrow 2 rfl) ?_
    refine g_l2i hX (dk DX12_narrow 3 rfl) ?_
    refine g_i2b hX (dk DX12_narrow 4 rfl) ?_
    refine g_i2l hX (dk DX12_narrow 5 rfl) ?_
    refine g_goto (tgt := 54) hX (dk DX12_narrow 6 rfl) (by decide) ?_
    refine g_lreturn hX (dk DX12_narrow 34 rfl) rfl (by decide) (by decide) ?_
    exact rL_of (by unfold narF; (try rw [lg0] at *); (try first | rw [if_pos hc1] | rw [if_neg hc1] | rw [if_neg (not_not_intro hc1)]); first | done | rfl) rfl rfl

set_option maxRecDepth 8000 in
set_option maxHeartbeats 4000000 in
theorem c_X12_read {G : Gt} (hG : Gok G) {I : It} {h : Ht} (hM : HM h) {E : It} (hE : Inv E) (hR : RM E I) {L : Nat → Int64} (hl : hL h 38 = L) {a e : Int32} : Con G (3) 0 0 mX12_read [.ref 0, .int a, .int e] I h (qSL (readF E L a e) E L) := by
  refine con_intro (own := RX12) (lo0 := [some (.ref 0), some (.int a), some (.int e)]) hG rfl pl_X12 (Nat.le_of_ble_eq_true rfl) rfl (fun X hX => ?_)
  refine g_aload_0 hX (dk DX12_read 0 rfl) ?_
  refine g_iload_1 hX (dk DX12_read 1 rfl) ?_
  refine g_c2I hX sX12_read_2 (by decide) (Nat.le_of_ble_eq_true rfl) (rc0 rfl (MLt hM (by decide)) (MC hM)) (by decide) (by decide) (c_X12_isTape hG hM) ?_
  refine g_ifb_eq (tgt := 34) hX (dk DX12_read 3 rfl) (by decide) (fun hc1 => ?_) (fun hc1 => ?_)
  · refine g_ldc2_w (v := -9223372036854775808) hX (dk DX12_read 20 rfl) (tg_7 4 rfl rfl) ?_
    refine g_goto (tgt := 51) hX (dk DX12_read 21 rfl) (by decide) ?_
    refine g_lreturn hX (dk DX12_read 30 rfl) rfl (by decide) (by decide) ?_
    exact qSL_of hM hl (by unfold readF; (try rw [tN_nI (by omega)]); (try rw [tN_nI (by omega)]); (try rw [el]); (try first | rw [if_pos hc1] | rw [if_neg hc1] | rw [if_neg (not_not_intro hc1)]); first | done | rfl) hR
  · obtain ⟨t, ht, rfl⟩ := in_of (b := 5) (by decide) hc1
    refine g_aload_0 hX (dk DX12_read 4 rfl) ?_
    refine g_getRs (r := 36) hX (dk DX12_read 5 rfl) KX12 fX12_220 (by decide) rfl (MLt hM (by decide)) (MC hM) (MR hM 69 (by decide) rfl) ?_
    refine g_iload_1 hX (dk DX12_read 6 rfl) ?_
    refine v_iaload hX (dk DX12_read 7 rfl) (MLt hM (q := 36) (by decide)) (MS hM 36 (by decide) rfl) (⟨rfl, by omega, by decide⟩) (RM.c1 hR 36 _ (by decide) (by decide)) ?_
    refine g_if_lt (tgt := 34) hX (dk DX12_read 8 rfl) (by decide) (fun hc2 => ?_) (fun hc2 => ?_)
    · refine g_ldc2_w (v := -9223372036854775808) hX (dk DX12_read 20 rfl) (tg_7 4 rfl rfl) ?_
      refine g_goto (tgt := 51) hX (dk DX12_read 21 rfl) (by decide) ?_
      refine g_lreturn hX (dk DX12_read 30 rfl) rfl (by decide) (by decide) ?_
      exact qSL_of hM hl (by unfold readF; (try rw [tN_nI (by omega)]); (try rw [tN_nI (by omega)]); (try rw [el]); (try first | rw [if_pos hc1] | rw [if_neg hc1] | rw [if_neg (not_not_intro hc1)]); (try first | rw [if_pos hc2] | rw [if_neg hc2] | rw [if_neg (not_not_intro hc2)]); first | done | rfl) hR
    · refine g_aload_0 hX (dk DX12_read 9 rfl) ?_
      refine g_iload_2 hX (dk DX12_read 10 rfl) ?_
      refine g_iconst (v := 0) hX (dk DX12_read 11 rfl) (by decide) ?_
      refine g_aload_0 hX (dk DX12_read 12 rfl) ?_
      refine g_getRs (r := 37) hX (dk DX12_read 13 rfl) KX12 fX12_223 (by decide) rfl (MLt hM (by decide)) (MC hM) (MR hM 70 (by decide) rfl) ?_
      refine g_iload_1 hX (dk DX12_read 14 rfl) ?_
      refine v_iaload hX (dk DX12_read 15 rfl) (MLt hM (q := 37) (by decide)) (MS hM 37 (by decide) rfl) (⟨rfl, by omega, by decide⟩) (RM.c1 hR 37 _ (by decide) (by decide)) ?_
      refine g_iconst (v := 1) hX (dk DX12_read 16 rfl) (by decide) ?_
      refine g_isub hX (dk DX12_read 17 rfl) ?_
      refine g_c4I hX sX12_read_28 (by decide) (Nat.le_of_ble_eq_true rfl) (rc0 rfl (MLt hM (by decide)) (MC hM)) (by decide) (by decide) (c_X12_in hG ) ?_
      refine g_ifb_ne (tgt := 40) hX (dk DX12_read 19 rfl) (by decide) (fun hc3 => ?_) (fun hc3 => ?_)
      · obtain ⟨l, hl60, el⟩ := inv_tp hE (by omega) hc2
        rw [el] at hc3
        obtain ⟨j, hj, rfl⟩ := pl_of hl60 hc3
        have hrx := it_ix (t := t) (k := j) ht (by omega) rfl
        refine g_aload_0 hX (dk DX12_read 22 rfl) ?_
        refine g_getRs (r := 38) hX (dk DX12_read 23 rfl) KX12 fX12_226 (by decide) rfl (MLt hM (by decide)) (MC hM) (MR hM 71 (by decide) rfl) ?_
        refine g_bipush (v := 60) hX (dk DX12_read 24 rfl) (by decide) ?_
        refine g_iload_1 hX (dk DX12_read 25 rfl) ?_
        refine g_imul hX (dk DX12_read 26 rfl) ?_
        refine g_iload_2 hX (dk DX12_read 27 rfl) ?_
        refine g_iadd hX (dk DX12_read 28 rfl) ?_
        refine v_laload hX (dk DX12_read 29 rfl) (MLt hM (q := 38) (by decide)) (MS hM 38 (by decide) rfl) (hrx) (congrFun hl _) ?_
        refine g_lreturn hX (dk DX12_read 30 rfl) rfl (by decide) (by decide) ?_
        exact qSL_of hM hl (by unfold readF; (try rw [tN_nI (by omega)]); (try rw [tN_nI (by omega)]); (try rw [el]); (try first | rw [if_pos hc1] | rw [if_neg hc1] | rw [if_neg (not_not_intro hc1)]); (try first | rw [if_pos hc2] | rw [if_neg hc2] | rw [if_neg (not_not_intro hc2)]); (try first | rw [if_pos hc3] | rw [if_neg hc3] | rw [if_neg (not_not_intro hc3)]); first | done | rfl) hR
      · refine g_ldc2_w (v := -9223372036854775808) hX (dk DX12_read 20 rfl) (tg_7 4 rfl rfl) ?_
        refine g_goto (tgt := 51) hX (dk DX12_read 21 rfl) (by decide) ?_
        refine g_lreturn hX (dk DX12_read 30 rfl) rfl (by decide) (by decide) ?_
        exact qSL_of hM hl (by unfold readF; (try rw [tN_nI (by omega)]); (try rw [tN_nI (by omega)]); (try rw [el]); (try first | rw [if_pos hc1] | rw [if_neg hc1] | rw [if_neg (not_not_intro hc1)]); (try first | rw [if_pos hc2] | rw [if_neg hc2] | rw [if_neg (not_not_intro hc2)]); (try first | rw [if_pos hc3] | rw [if_neg hc3] | rw [if_neg (not_not_intro hc3)]); first | done | rfl) hR
end
section
theorem lg_eq (a b : Int64) : lg_cmp a b = 0 ↔ a = b := by
  unfold lg_cmp
  by_cases h1 : a > b
  · rw [if_pos h1]
    exact ⟨fun h => absurd h (by decide), fun h => by subst h; exact absurd h1 (Int64.lt_irrefl)⟩
  · rw [if_neg h1]
    by_cases h2 : a = b
    · rw [if_pos h2]; exact ⟨fun _ => h2, fun _ => rfl⟩
    · rw [if_neg h2]; exact ⟨fun h => absurd h (by decide), fun h => absurd h h2⟩
theorem dg_ix {E : It} (hE : Inv E) (h : ¬ E 0 0 = 10) : idx (E 0 0) (cnt E) 10 := by
  obtain ⟨e, hc⟩ := inv_cnt hE
  refine ⟨e, ?_, by decide⟩
  rcases Nat.lt_or_ge (cnt E) 10 with z | z
  · exact z
  · exact absurd (by rw [e, show cnt E = 10 by omega]; rfl) h
def doE (E : It) (k n r p c d : Int32) : It := upI (upI (upI (upI (upI (upI (upI (upI (upI (upI E 1 (cnt E) k) 2 (cnt E) n) 3 (cnt E) r) 4 (cnt E) p) 5 (cnt E) c) 6 (cnt E) d) 7 (cnt E) 5) 0 5 (withI (E 0 5) (E 0 0) 0)) 0 6 (withI (E 0 6) (E 0 0) 0)) 0 0 (E 0 0 + 1)
def doingS (E : It) (k n r p c d : Int32) : Int32 × It := if ¬ (0 ≤ k ∧ k ≤ 6) then (-1, E) else if ¬ (0 ≤ n ∧ n ≤ 9) then (-2, E) else if ¬ (1 ≤ r ∧ r ≤ 60) then (-2, E) else if ¬ (0 ≤ p ∧ p ≤ r - 1) then (-2, E) else if ¬ (0 ≤ c ∧ c ≤ 99) then (-2, E) else if ¬ (0 ≤ d ∧ d ≤ 99) then (-2, E) else if E 0 0 = 10 then (-4, E) else (E 0 0, doE E k n r p c d)
theorem RM_body1 {E I : It} {b : Int32} (h : RM E I) : RM (body1 E b) (body1 I b) := by
  unfold body1
  rw [RM.f h 67 (by decide) (by decide)]
  split
  · exact RM.upf (RM.upc h (by decide)) (by decide)
  · exact RM.upf h (by decide)
theorem RM_putB : ∀ (l : List Int32) {E I : It}, RM E I → RM (putB E l) (putB I l) := by
  intro l
  induction l with
  | nil => intro E I h; exact h
  | cons b t ih => intro E I h; exact ih (RM_body1 h)
def actS (E : It) (a w x : Int32) : Int32 × It := if ¬ isD E a then (0, upI E 0 67 0) else if ¬ (0 ≤ w ∧ w ≤ 2) then (0, upI E 0 67 0) else if w ≠ 0 then (if w = 1 then (holdsV E (tN a) x, putB (upI E 0 67 0) (holdsB E (tN a))) else (tellsV E (tN a) x, putB (upI E 0 67 0) (tellsB E (tN a)))) else (saysV E (tN a) x, putB (upI E 0 67 0) (saysB E (tN a)))
/-! chance -/
def chR (E : It) (n : Nat) : Nat → Nat → Nat → Nat → Nat × Nat := fun k => match k with
  | 0 => fun _ a b => (a, b)
  | k + 1 => fun i a b => if hasI (E 0 6) (nI i) = 1 then chR E n k (i + 1) a b else if comInR E i n (wk E) = true then chR E n k (i + 1) (a * tN (E 7 i)) (b * 10) else chR E n k (i + 1) a b
theorem chR_s (E : It) (n k i a b : Nat) : chR E n (k + 1) i a b = if hasI (E 0 6) (nI i) = 1 then chR E n k (i + 1) a b else if comInR E i n (wk E) = true then chR E n k (i + 1) (a * tN (E 7 i)) (b * 10) else chR E n k (i + 1) a b := rfl
def chanceF (E : It) (n p : Int32) : Int64 := if ¬ (0 ≤ n ∧ n ≤ 60) then NOL else if ¬ (0 ≤ p ∧ p ≤ 1) then NOL else
  if p = 0 then lN ((chR E (tN n) (cnt E) 0 1 1).1 / Nat.gcd (chR E (tN n) (cnt E) 0 1 1).1 (chR E (tN n) (cnt E) 0 1 1).2) else lN ((chR E (tN n) (cnt E) 0 1 1).2 / Nat.gcd (chR E (tN n) (cnt E) 0 1 1).1 (chR E (tN n) (cnt E) 0 1 1).2)
theorem lN_ne0 {a : Nat} (h : 0 < a) (h2 : a < 2 ^ 63) : ¬ lN a = 0 := fun e => by
  have := (pk_lEQ (b := 0) h2 (by decide)).mp e
  omega
theorem ch_bd {a b o i : Nat} (ha : a ≤ 10 ^ i) (hb : 1 ≤ b ∧ b ≤ 10 ^ i) (ho : o ≤ 10) : a * o ≤ 10 ^ (i + 1) ∧ 1 ≤ b * 10 ∧ b * 10 ≤ 10 ^ (i + 1) := by
  rw [Nat.pow_succ]
  refine ⟨Nat.mul_le_mul ha ho, by omega, Nat.mul_le_mul hb.2 (Nat.le_refl _)⟩
theorem ch_up {a i : Nat} (h : a ≤ 10 ^ i) : a ≤ 10 ^ (i + 1) := Nat.le_trans h (Nat.pow_le_pow_right (by decide) (Nat.le_succ i))
theorem ch_63 {a i : Nat} (h : a ≤ 10 ^ i) (hi : i ≤ 10) : a < 2 ^ 63 := Nat.lt_of_le_of_lt (Nat.le_trans h (Nat.pow_le_pow_right (by decide) hi)) (by decide)
/-! the image -/
def imgF (E : It) : It := upI (upI (upI (upI (upI (upI (upI (upI (upI (upI E 0 47 1) 0 48 (E 0 16)) 0 49 (E 0 0)) 0 50 (E 0 1)) 0 51 (E 0 2)) 0 52 (E 0 3)) 0 53 (E 0 4)) 0 54 (E 0 5)) 0 55 (E 0 6)) 0 56 (E 0 44)
def imgC (E : It) : It := fun a j => if 25 ≤ a ∧ a ≤ 31 then (if j < 10 then E (a - 24) j else E a j) else if a = 32 then (if j < 4 then E 8 j else E a j) else if a = 33 ∨ a = 34 then (if j < 12 then E (a - 10) j else E a j) else E a j
def imageS (E : It) : Int32 × It := (E 0 0, imgC (imgF E))
def undF (E : It) : It := upI (upI (upI (upI (upI (upI (upI (upI (upI E 0 16 (E 0 48)) 0 0 (E 0 49)) 0 1 (E 0 50)) 0 2 (E 0 51)) 0 3 (E 0 52)) 0 4 (E 0 53)) 0 5 (E 0 54)) 0 6 (E 0 55)) 0 44 (E 0 56)
def undC (E : It) : It := fun a j => if 1 ≤ a ∧ a ≤ 7 then (if j < 10 then E (a + 24) j else E a j) else if a = 8 then (if j < 4 then E 32 j else E a j) else if a = 23 ∨ a = 24 then (if j < 12 then E (a + 10) j else E a j) else E a j
def undoS (E : It) : Int32 × It := if E 0 47 = 0 then (-3, E) else (E 0 49, undC (undF E))
theorem RM_cells {E E2 J : It} {C : List Nat} (h : RMx [] C E J) (h1 : ∀ a, a ∉ C → E2 a = E a) (h2 : ∀ a, a ∈ C → J a = E2 a) (h3 : disj [0, 10, 11, 12, 13, 14, 15] C = true) : RM E2 J := by
  have g : ∀ a, a ∈ [0, 10, 11, 12, 13, 14, 15] → E2 a = E a := fun a ha => h1 a (disj_no h3 ha)
  obtain ⟨a1, a2, a3, a4, a5, a6⟩ := h
  have hn : nP E2 = nP E := by unfold nP; rw [g 0 (by decide)]
  refine ⟨fun j hj hF => by rw [g 0 (by decide)]; exact a1 j hj hF, fun a ha _ => ?_, ?_, ?_, ?_, a6⟩
  · by_cases hc : a ∈ C
    · exact h2 a hc
    · rw [h1 a hc]; exact a2 a ha hc
  · rw [hn, g 10 (by decide)]; exact a3
  · rw [hn, g 11 (by decide), g 12 (by decide), g 13 (by decide), g 14 (by decide)]; exact a4
  · rw [hn, g 15 (by decide)]; exact a5
theorem RM.upx {E I : It} {F C : List Nat} {a j : Nat} {x : Int32} (h : RMx F C E I) (ha : a ∈ C) (h0 : disj C [0, 10, 11, 12, 13, 14, 15, 17] = true) : RMx F C E (upI I a j x) := by
  have hn : ∀ q, q ∈ [0, 10, 11, 12, 13, 14, 15, 17] → q ≠ a := fun q hq e => disj_no h0 ha (by rw [← e]; exact hq)
  obtain ⟨a1, a2, a3, a4, a5, a6⟩ := h
  refine ⟨?_, fun q hq hC => ?_, ?_, ?_, ?_, ?_⟩
  · rw [upI_off (hn 0 (by decide))]; exact a1
  · have : q ≠ a := fun e => hC (by rw [e]; exact ha)
    rw [upI_off this]; exact a2 q hq hC
  · rw [upI_off (hn 10 (by decide))]; exact a3
  · rw [upI_off (hn 11 (by decide)), upI_off (hn 12 (by decide)), upI_off (hn 13 (by decide)), upI_off (hn 14 (by decide))]; exact a4
  · rw [upI_off (hn 15 (by decide))]; exact a5
  · rw [upI_off (hn 17 (by decide))]; exact a6
theorem RMx.mono {E I : It} {F C C' : List Nat} (h : RMx F C E I) (hC : ∀ a, a ∈ C → a ∈ C') : RMx F C' E I := ⟨h.1, fun a ha hn => h.2.1 a ha (fun z => hn (hC a z)), h.2.2⟩
theorem cp_step {J : It} {a i : Nat} {f g : Nat → Int32} {v : Int32} (h : ∀ j, J a j = if j < i then f j else g j) (hv : v = f i) : ∀ j, upI J a i v a j = if j < i + 1 then f j else g j := by
  intro j
  by_cases e : j = i
  · subst e; rw [up0, if_pos (by omega), hv]
  · rw [upn (by omega), h j]
    by_cases e2 : j < i
    · rw [if_pos e2, if_pos (by omega)]
    · rw [if_neg e2, if_neg (by omega)]
/-! SHIFT -/
def shiftS (E : It) (t i o j n : Int32) : Int32 := if ¬ isT t then -1 else if ¬ isT o then -1 else if E 36 (tN t) < 0 then -11 else if ¬ 0 ≤ E 36 (tN o) then -11 else if ¬ E 36 (tN t) = E 36 (tN o) then -12
  else if n < 0 then -13 else if i < 0 then -13 else if j < 0 then -13 else if E 37 (tN t) - n < i then -13 else if ¬ j ≤ E 37 (tN o) - n then -13 else n
def shiftL (E : It) (L : Nat → Int64) (t i o j n : Int32) : Nat → Int64 := if ¬ isT t then L else if ¬ isT o then L else if E 36 (tN t) < 0 then L else if ¬ 0 ≤ E 36 (tN o) then L else if ¬ E 36 (tN t) = E 36 (tN o) then L
  else if n < 0 then L else if i < 0 then L else if j < 0 then L else if E 37 (tN t) - n < i then L else if ¬ j ≤ E 37 (tN o) - n then L
  else fun q => if 60 * tN o + tN j ≤ q ∧ q < 60 * tN o + tN j + tN n then L (60 * tN t + tN i + (q - (60 * tN o + tN j))) else L q
theorem sh_le {l n i : Nat} (hl : l ≤ 60) (hn : n < 2 ^ 31) (hi : i < 2 ^ 31) (h : nI i ≤ nI l - nI n) : i + n ≤ l := by
  rcases Nat.lt_or_ge l n with z | z
  · have h1 : nI l - nI n < 0 := by
      rw [Int32.lt_iff_toInt_lt, Int32.toInt_sub, nI_toInt (by omega), nI_toInt hn]
      have : ((l : Int) - (n : Int)).bmod (2 ^ 32) = (l : Int) - n := by
        rw [Int.bmod_eq_of_le (by omega) (by omega)]
      rw [this]
      show _ < (0 : Int32).toInt
      have : (0 : Int32).toInt = 0 := by decide
      omega
    exact absurd (Int32.lt_of_le_of_lt h h1) (nI_pos hi)
  · rw [pk_sub z] at h
    have := (nI_leI hi (by omega)).mp h
    omega
theorem jd_le {l i q : Nat} (hl : l ≤ 60) (hi : i ≤ 10) (hq : q < 2 ^ 31) (h : nI q ≤ nI l - nI i - 1) : q + i < l := by
  have e : nI l - nI i - 1 = nI l - nI (i + 1) := by
    rw [← nI_1, Int32.sub_eq_add_neg, Int32.sub_eq_add_neg, Int32.sub_eq_add_neg, Int32.neg_add, Int32.sub_eq_add_neg, Int32.add_assoc]
  rw [e] at h
  have := sh_le hl (n := i + 1) (by omega) hq h
  omega
theorem wL_off {h : Ht} {q j a : Nat} {x : Int64} (ha : a ≠ q) : hL (wL h q j x) a = hL h a := upL_off (I := hL h) ha
theorem wL_row {h : Ht} {q j : Nat} {x : Int64} : hL (wL h q j x) q = vp_updL (hL h q) j x := upL_row _ _ _ _
/-! a query of which no answer is claimed -/
def qN (E : It) (L : Nat → Int64) : Pt3 := qI fun _ I' h' => SM E L I' h'
theorem qN_of {v : Int32} {E J : It} {L : Nat → Int64} {h : Ht} (hM : HM h) (hl : hL h 38 = L) (hR : RM E J) : qN E L (some (.int v)) J h := ⟨v, rfl, hR, hM, hl⟩
theorem row_of {E : It} (hE : Inv E) {k : Nat} (hk : k < 12) : ∃ x z, x ≤ 99 ∧ z ≤ 9 ∧ E 23 k = nI x ∧ E 24 k = nI z := hE.1.2.2.2.2.2.1 k hk
theorem inv_rows {E : It} (hE : Inv E) : ∃ r, r ≤ 12 ∧ E 0 44 = nI r := hE.1.2.2.2.1
/-! SPLIT -/
def h4 (a b c d : Nat) : Nat → Int32 := fun y => if y = 0 then nI a else if y = 1 then nI b else if y = 2 then nI c else nI d
def spC (h c : Nat) : Nat → Int32 := h4 (c / 100) (c / 10 % 10) (c % 10) (h - (c / 100 + c / 10 % 10 + c % 10))
def spR (E : It) (h n : Nat) : Nat → Nat → Int32 → (Nat → Int32) → Int32 × (Nat → Int32) := fun k => match k with
  | 0 => fun _ l b => (l, b)
  | k + 1 => fun c l b => if h < c / 100 + c / 10 % 10 + c % 10 then spR E h n k (c + 1) l b else if l < 0 then spR E h n k (c + 1) (hcF E (spC h c) n) (spC h c) else if hcF E (spC h c) n < l then spR E h n k (c + 1) (hcF E (spC h c) n) (spC h c) else spR E h n k (c + 1) l b
theorem spR_s (E : It) (h n k c : Nat) (l : Int32) (b : Nat → Int32) : spR E h n (k + 1) c l b = if h < c / 100 + c / 10 % 10 + c % 10 then spR E h n k (c + 1) l b else if l < 0 then spR E h n k (c + 1) (hcF E (spC h c) n) (spC h c) else if hcF E (spC h c) n < l then spR E h n k (c + 1) (hcF E (spC h c) n) (spC h c) else spR E h n k (c + 1) l b := rfl
def spF (E : It) (h n : Nat) : Int32 × (Nat → Int32) := spR E h n 1000 0 (-1) (fun _ => 0)
def splitS (E : It) (h n w : Int32) : Int32 × It := if ¬ (-1 ≤ w ∧ w ≤ 3) then (-10001, E) else if ¬ (0 ≤ h ∧ h ≤ 9) then (-10002, E) else if ¬ (0 ≤ n ∧ n ≤ 60) then (-10002, E) else if 0 ≤ w then ((spF E (tN h) (tN n)).2 (tN w), E) else ((spF E (tN h) (tN n)).1, E)
theorem hcF_hr {E : It} {hr hr2 : Nat → Int32} (n : Nat) (e : ∀ y, y < 4 → hr y = hr2 y) : hcF E hr n = hcF E hr2 n := by unfold hcF; rw [overF_hr e]
theorem RM8_fr {E J K : It} {F : List Nat} (h : RMx F [8] E J) (hf : Fr [] [8] J K) : RMx F [8] E K := by
  obtain ⟨a1, a2, a3, a4, a5, a6⟩ := h
  obtain ⟨f1, f2⟩ := hf
  refine ⟨fun j hj hF => (f1 j (by simp)).trans (a1 j hj hF), fun a ha hC => (f2 a (by rintro rfl; revert ha; decide) hC).trans (a2 a ha hC), ?_, ?_, ?_, ?_⟩
  · rw [f2 10 (by decide) (by decide)]; exact a3
  · rw [f2 11 (by decide) (by decide), f2 12 (by decide) (by decide), f2 13 (by decide) (by decide), f2 14 (by decide) (by decide)]; exact a4
  · rw [f2 15 (by decide) (by decide)]; exact a5
  · rw [f2 17 (by decide) (by decide)]; exact a6
theorem RM8_keep {E J K : It} {F : List Nat} (h : RMx [] [8] E J) (hf : Fr F [18, 20] J K) (hF : disj pfL F = true := by decide) : RMx [] [8] E K := RM.keep h hf hF (by decide) (by decide)
end
section
set_option maxRecDepth 8000 in
set_option maxHeartbeats 4000000 in
theorem c_X12_doing {G : Gt} (hG : Gok G) {I : It} {h : Ht} (hM : HM h) {E : It} (hE : Inv E) (hR : RM E I) {L : Nat → Int64} (hl : hL h 38 = L) {k n r p c d : Int32} : Con G (3) 0 0 mX12_doing [.ref 0, .int k, .int n, .int r, .int p, .int c, .int d] I h (qS (doingS E k n r p c d) L) := by
  refine con_intro (own := RX12) (lo0 := [some (.ref 0), some (.int k), some (.int n), some (.int r), some (.int p), some (.int c), some (.int d), none]) hG rfl pl_X12 (Nat.le_of_ble_eq_true rfl) rfl (fun X hX => ?_)
  refine g_aload_0 hX (dk DX12_doing_0 0 rfl) ?_
  refine g_iload_1 hX (dk DX12_doing_0 1 rfl) ?_
  refine g_iconst (v := 0) hX (dk DX12_doing_0 2 rfl) (by decide) ?_
  refine g_bipush (v := 6) hX (dk DX12_doing_0 3 rfl) (by decide) ?_
  refine g_c4I hX sX12_doing_5 (by decide) (Nat.le_of_ble_eq_true rfl) (rc0 rfl (MLt hM (by decide)) (MC hM)) (by decide) (by decide) (c_X12_in hG ) ?_
  refine g_ifb_ne (tgt := 13) hX (dk DX12_doing_0 5 rfl) (by decide) (fun hc1 => ?_) (fun hc1 => ?_)
  · refine g_aload_0 hX (dk DX12_doing_0 8 rfl) ?_
    refine g_iload_2 hX (dk DX12_doing_0 9 rfl) ?_
    refine g_iconst (v := 0) hX (dk DX12_doing_0 10 rfl) (by decide) ?_
    refine g_bipush (v := 9) hX (dk DX12_doing_0 11 rfl) (by decide) ?_
    refine g_c4I hX sX12_doing_18 (by decide) (Nat.le_of_ble_eq_true rfl) (rc0 rfl (MLt hM (by decide)) (MC hM)) (by decide) (by decide) (c_X12_in hG ) ?_
    refine g_ifb_eq (tgt := 72) hX (dk DX12_doing_0 13 rfl) (by decide) (fun hc2 => ?_) (fun hc2 => ?_)
    · refine g_bipush (v := -2) hX (dk DX12_doing_0 40 rfl) (by decide) ?_
      refine g_ireturn hX (dk DX12_doing_0 41 rfl) rfl (rfl) (by decide) (by decide) ?_
      exact qS_of hM hl (by unfold doingS; (try first | rw [if_pos hc1] | rw [if_neg hc1] | rw [if_neg (not_not_intro hc1)]); (try first | rw [if_pos hc2] | rw [if_neg hc2] | rw [if_neg (not_not_intro hc2)]); first | done | rfl) hR
    · refine g_aload_0 hX (dk DX12_doing_0 14 rfl) ?_
      refine g_iload_3 hX (dk DX12_doing_0 15 rfl) ?_
      refine g_iconst (v := 1) hX (dk DX12_doing_0 16 rfl) (by decide) ?_
      refine g_bipush (v := 60) hX (dk DX12_doing_0 17 rfl) (by decide) ?_
      refine g_c4I hX sX12_doing_29 (by decide) (Nat.le_of_ble_eq_true rfl) (rc0 rfl (MLt hM (by decide)) (MC hM)) (by decide) (by decide) (c_X12_in hG ) ?_
      refine g_ifb_eq (tgt := 72) hX (dk DX12_doing_0 19 rfl) (by decide) (fun hc3 => ?_) (fun hc3 => ?_)
      · refine g_bipush (v := -2) hX (dk DX12_doing_0 40 rfl) (by decide) ?_
        refine g_ireturn hX (dk DX12_doing_0 41 rfl) rfl (rfl) (by decide) (by decide) ?_
        exact qS_of hM hl (by unfold doingS; (try first | rw [if_pos hc1] | rw [if_neg hc1] | rw [if_neg (not_not_intro hc1)]); (try first | rw [if_pos hc2] | rw [if_neg hc2] | rw [if_neg (not_not_intro hc2)]); (try first | rw [if_pos hc3] | rw [if_neg hc3] | rw [if_neg (not_not_intro hc3)]); first | done | rfl) hR
      · refine g_aload_0 hX (dk DX12_doing_0 20 rfl) ?_
        refine g_iload_4 hX (dk DX12_doing_0 21 rfl) ?_
        refine g_iconst (v := 0) hX (dk DX12_doing_0 22 rfl) (by decide) ?_
        refine g_iload_3 hX (dk DX12_doing_0 23 rfl) ?_
        refine g_iconst (v := 1) hX (dk DX12_doing_0 24 rfl) (by decide) ?_
        refine g_isub hX (dk DX12_doing_0 25 rfl) ?_
        refine g_c4I hX sX12_doing_42 (by decide) (Nat.le_of_ble_eq_true rfl) (rc0 rfl (MLt hM (by decide)) (MC hM)) (by decide) (by decide) (c_X12_in hG ) ?_
        refine g_ifb_eq (tgt := 72) hX (dk DX12_doing_0 27 rfl) (by decide) (fun hc4 => ?_) (fun hc4 => ?_)
        · refine g_bipush (v := -2) hX (dk DX12_doing_0 40 rfl) (by decide) ?_
          refine g_ireturn hX (dk DX12_doing_0 41 rfl) rfl (rfl) (by decide) (by decide) ?_
          exact qS_of hM hl (by unfold doingS; (try first | rw [if_pos hc1] | rw [if_neg hc1] | rw [if_neg (not_not_intro hc1)]); (try first | rw [if_pos hc2] | rw [if_neg hc2] | rw [if_neg (not_not_intro hc2)]); (try first | rw [if_pos hc3] | rw [if_neg hc3] | rw [if_neg (not_not_intro hc3)]); (try first | rw [if_pos hc4] | rw [if_neg hc4] | rw [if_neg (not_not_intro hc4)]); first | done | rfl) hR
        · refine g_aload_0 hX (dk DX12_doing_0 28 rfl) ?_
          refine g_iload_5 hX (dk DX12_doing_0 29 rfl) ?_
          refine g_iconst (v := 0) hX (dk DX12_doing_0 30 rfl) (by decide) ?_
          refine g_bipush (v := 99) hX (dk DX12_doing_0 31 rfl) (by decide) ?_
          refine g_c4I hX sX12_doing_54 (by decide) (Nat.le_of_ble_eq_true rfl) (rc0 rfl (MLt hM (by decide)) (MC hM)) (by decide) (by decide) (c_X12_in hG ) ?_
          refine g_ifb_eq (tgt := 72) hX (dk DX12_doing_0 33 rfl) (by decide) (fun hc5 => ?_) (fun hc5 => ?_)
          · refine g_bipush (v := -2) hX (dk DX12_doing_0 40 rfl) (by decide) ?_
            refine g_ireturn hX (dk DX12_doing_0 41 rfl) rfl (rfl) (by decide) (by decide) ?_
            exact qS_of hM hl (by unfold doingS; (try first | rw [if_pos hc1] | rw [if_neg hc1] | rw [if_neg (not_not_intro hc1)]); (try first | rw [if_pos hc2] | rw [if_neg hc2] | rw [if_neg (not_not_intro hc2)]); (try first | rw [if_pos hc3] | rw [if_neg hc3] | rw [if_neg (not_not_intro hc3)]); (try first | rw [if_pos hc4] | rw [if_neg hc4] | rw [if_neg (not_not_intro hc4)]); (try first | rw [if_pos hc5] | rw [if_neg hc5] | rw [if_neg (not_not_intro hc5)]); first | done | rfl) hR
          · refine g_aload_0 hX (dk DX12_doing_0 34 rfl) ?_
            refine g_iload_6 hX (dk DX12_doing_0 35 rfl) ?_
            refine g_iconst (v := 0) hX (dk DX12_doing_0 36 rfl) (by decide) ?_
            refine g_bipush (v := 99) hX (dk DX12_doing_0 37 rfl) (by decide) ?_
            refine g_c4I hX sX12_doing_66 (by decide) (Nat.le_of_ble_eq_true rfl) (rc0 rfl (MLt hM (by decide)) (MC hM)) (by decide) (by decide) (c_X12_in hG ) ?_
            refine g_ifb_ne (tgt := 75) hX (dk DX12_doing_0 39 rfl) (by decide) (fun hc6 => ?_) (fun hc6 => ?_)
            · refine g_aload_0 hX (dk DX12_doing_0 42 rfl) ?_
              refine g_getIv hX (dk DX12_doing_0 43 rfl) KX12 fX12_7 (by decide) rfl (MLt hM (by decide)) (MC hM) (RM.f hR 0 (by decide) (by decide)) ?_
              refine g_bipush (v := 10) hX (dk DX12_doing_0 44 rfl) (by decide) ?_
              refine g_icmp_ne (tgt := 87) hX (dk DX12_doing_0 45 rfl) (by decide) (fun hc7 => ?_) (fun hc7 => ?_)
              · have hix := dg_ix hE hc7
                refine g_aload_0 hX (dk DX12_doing_0 48 rfl) ?_
                refine g_getIv hX (dk DX12_doing_0 49 rfl) KX12 fX12_7 (by decide) rfl (MLt hM (by decide)) (MC hM) (RM.f hR 0 (by decide) (by decide)) ?_
                refine g_istore_7 hX (dk DX12_doing_0 50 rfl) (by decide) rfl ?_
                refine g_aload_0 hX (dk DX12_doing_0 51 rfl) ?_
                refine g_getRs (r := 1) hX (dk DX12_doing_0 52 rfl) KX12 fX12_31 (by decide) rfl (MLt hM (by decide)) (MC hM) (MR hM 7 (by decide) rfl) ?_
                refine g_iload_7 hX (dk DX12_doing_0 53 rfl) ?_
                refine g_iload_1 hX (dk DX12_doing_0 54 rfl) ?_
                refine i_iastore hX (dk DX12_doing_0 55 rfl) (MLt hM (q := 1) (by decide)) (MS hM 1 (by decide) rfl) (hix) ?_
                refine g_aload_0 hX (dk DX12_doing_0 56 rfl) ?_
                refine g_getRs (r := 2) hX (dk DX12_doing_0 57 rfl) KX12 fX12_35 (by decide) rfl (MLt hM (by decide)) (MC hM) (MR hM 8 (by decide) rfl) ?_
                refine g_iload_7 hX (dk DX12_doing_0 58 rfl) ?_
                refine g_iload_2 hX (dk DX12_doing_0 59 rfl) ?_
                refine i_iastore hX (dk DX12_doing_1 0 rfl) (MLt hM (q := 2) (by decide)) (MS hM 2 (by decide) rfl) (hix) ?_
                refine g_aload_0 hX (dk DX12_doing_1 1 rfl) ?_
                refine g_getRs (r := 3) hX (dk DX12_doing_1 2 rfl) KX12 fX12_38 (by decide) rfl (MLt hM (by decide)) (MC hM) (MR hM 9 (by decide) rfl) ?_
                refine g_iload_7 hX (dk DX12_doing_1 3 rfl) ?_
                refine g_iload_3 hX (dk DX12_doing_1 4 rfl) ?_
                refine i_iastore hX (dk DX12_doing_1 5 rfl) (MLt hM (q := 3) (by decide)) (MS hM 3 (by decide) rfl) (hix) ?_
                refine g_aload_0 hX (dk DX12_doing_1 6 rfl) ?_
                refine g_getRs (r := 4) hX (dk DX12_doing_1 7 rfl) KX12 fX12_41 (by decide) rfl (MLt hM (by decide)) (MC hM) (MR hM 10 (by decide) rfl) ?_
                refine g_iload_7 hX (dk DX12_doing_1 8 rfl) ?_
                refine g_iload_4 hX (dk DX12_doing_1 9 rfl) ?_
                refine i_iastore hX (dk DX12_doing_1 10 rfl) (MLt hM (q := 4) (by decide)) (MS hM 4 (by decide) rfl) (hix) ?_
                refine g_aload_0 hX (dk DX12_doing_1 11 rfl) ?_
                refine g_getRs (r := 5) hX (dk DX12_doing_1 12 rfl) KX12 fX12_44 (by decide) rfl (MLt hM (by decide)) (MC hM) (MR hM 11 (by decide) rfl) ?_
                refine g_iload_7 hX (dk DX12_doing_1 13 rfl) ?_
                refine g_iload_5 hX (dk DX12_doing_1 14 rfl) ?_
                refine i_iastore hX (dk DX12_doing_1 15 rfl) (MLt hM (q := 5) (by decide)) (MS hM 5 (by decide) rfl) (hix) ?_
                refine g_aload_0 hX (dk DX12_doing_1 16 rfl) ?_
                refine g_getRs (r := 6) hX (dk DX12_doing_1 17 rfl) KX12 fX12_47 (by decide) rfl (MLt hM (by decide)) (MC hM) (MR hM 12 (by decide) rfl) ?_
                refine g_iload_7 hX (dk DX12_doing_1 18 rfl) ?_
                refine g_iload_6 hX (dk DX12_doing_1 19 rfl) ?_
                refine i_iastore hX (dk DX12_doing_1 20 rfl) (MLt hM (q := 6) (by decide)) (MS hM 6 (by decide) rfl) (hix) ?_
                refine g_aload_0 hX (dk DX12_doing_1 21 rfl) ?_
                refine g_getRs (r := 7) hX (dk DX12_doing_1 22 rfl) KX12 fX12_50 (by decide) rfl (MLt hM (by decide)) (MC hM) (MR hM 13 (by decide) rfl) ?_
                refine g_iload_7 hX (dk DX12_doing_1 23 rfl) ?_
                refine g_iconst (v := 5) hX (dk DX12_doing_1 24 rfl) (by decide) ?_
                refine i_iastore hX (dk DX12_doing_1 25 rfl) (MLt hM (q := 7) (by decide)) (MS hM 7 (by decide) rfl) (hix) ?_
                refine g_aload_0 hX (dk DX12_doing_1 26 rfl) ?_
                refine g_aload_0 hX (dk DX12_doing_1 27 rfl) ?_
                refine g_aload_0 hX (dk DX12_doing_1 28 rfl) ?_
                refine g_getIv hX (dk DX12_doing_1 29 rfl) KX12 fX12_25 (by decide) rfl (MLt hM (by decide)) (MC hM) (RM.f hR 5 (by decide) (by decide)) ?_
                refine g_iload_7 hX (dk DX12_doing_1 30 rfl) ?_
                refine g_iconst (v := 0) hX (dk DX12_doing_1 31 rfl) (by decide) ?_
                refine g_c4I hX sX12_doing_161 (by decide) (Nat.le_of_ble_eq_true rfl) (rc0 rfl (MLt hM (by decide)) (MC hM)) (by decide) (by decide) (c_X12_with hG ) ?_
                refine g_putI hX (dk DX12_doing_1 33 rfl) KX12 fX12_25 (by decide) rfl (MLt hM (by decide)) (MC hM) (Or.inl rfl) (rfl) (rfl) ?_
                refine g_aload_0 hX (dk DX12_doing_1 34 rfl) ?_
                refine g_aload_0 hX (dk DX12_doing_1 35 rfl) ?_
                refine g_aload_0 hX (dk DX12_doing_1 36 rfl) ?_
                refine g_getIv hX (dk DX12_doing_1 37 rfl) KX12 fX12_28 (by decide) rfl (MLt hM (by decide)) (MC hM) (RM.f hR 6 (by decide) (by decide)) ?_
                refine g_iload_7 hX (dk DX12_doing_1 38 rfl) ?_
                refine g_iconst (v := 0) hX (dk DX12_doing_1 39 rfl) (by decide) ?_
                refine g_c4I hX sX12_doing_176 (by decide) (Nat.le_of_ble_eq_true rfl) (rc0 rfl (MLt hM (by decide)) (MC hM)) (by decide) (by decide) (c_X12_with hG ) ?_
                refine g_putI hX (dk DX12_doing_1 41 rfl) KX12 fX12_28 (by decide) rfl (MLt hM (by decide)) (MC hM) (Or.inl rfl) (rfl) (rfl) ?_
                refine g_aload_0 hX (dk DX12_doing_1 42 rfl) ?_
                refine g_dup hX (dk DX12_doing_1 43 rfl) rfl ?_
                refine g_getIv hX (dk DX12_doing_1 44 rfl) KX12 fX12_7 (by decide) rfl (MLt hM (by decide)) (MC hM) (RM.f hR 0 (by decide) (by decide)) ?_
                refine g_iconst (v := 1) hX (dk DX12_doing_1 45 rfl) (by decide) ?_
                refine g_iadd hX (dk DX12_doing_1 46 rfl) ?_
                refine g_putI hX (dk DX12_doing_1 47 rfl) KX12 fX12_7 (by decide) rfl (MLt hM (by decide)) (MC hM) (Or.inl rfl) (rfl) (rfl) ?_
                refine g_iload_7 hX (dk DX12_doing_1 48 rfl) ?_
                refine g_ireturn hX (dk DX12_doing_1 49 rfl) rfl (rfl) (by decide) (by decide) ?_
                exact qS_of hM hl (by unfold doingS; (try first | rw [if_pos hc1] | rw [if_neg hc1] | rw [if_neg (not_not_intro hc1)]); (try first | rw [if_pos hc2] | rw [if_neg hc2] | rw [if_neg (not_not_intro hc2)]); (try first | rw [if_pos hc3] | rw [if_neg hc3] | rw [if_neg (not_not_intro hc3)]); (try first | rw [if_pos hc4] | rw [if_neg hc4] | rw [if_neg (not_not_intro hc4)]); (try first | rw [if_pos hc5] | rw [if_neg hc5] | rw [if_neg (not_not_intro hc5)]); (try first | rw [if_pos hc6] | rw [if_neg hc6] | rw [if_neg (not_not_intro hc6)]); (try first | rw [if_pos hc7] | rw [if_neg hc7] | rw [if_neg (not_not_intro hc7)]); first | done | rfl) (RM.upf (RM.upf (RM.upf (RM.upc (RM.upc (RM.upc (RM.upc (RM.upc (RM.upc (RM.upc hR (by decide)) (by decide)) (by decide)) (by decide)) (by decide)) (by decide)) (by decide)) (by decide)) (by decide)) (by decide))
              · refine g_bipush (v := -4) hX (dk DX12_doing_0 46 rfl) (by decide) ?_
                refine g_ireturn hX (dk DX12_doing_0 47 rfl) rfl (rfl) (by decide) (by decide) ?_
                exact qS_of hM hl (by unfold doingS; (try first | rw [if_pos hc1] | rw [if_neg hc1] | rw [if_neg (not_not_intro hc1)]); (try first | rw [if_pos hc2] | rw [if_neg hc2] | rw [if_neg (not_not_intro hc2)]); (try first | rw [if_pos hc3] | rw [if_neg hc3] | rw [if_neg (not_not_intro hc3)]); (try first | rw [if_pos hc4] | rw [if_neg hc4] | rw [if_neg (not_not_intro hc4)]); (try first | rw [if_pos hc5] | rw [if_neg hc5] | rw [if_neg (not_not_intro hc5)]); (try first | rw [if_pos hc6] | rw [if_neg hc6] | rw [if_neg (not_not_intro hc6)]); (try first | rw [if_pos hc7] | rw [if_neg hc7] | rw [if_neg (not_not_intro hc7)]); first | done | rfl) hR
            · refine g_bipush (v := -2) hX (dk DX12_doing_0 40 rfl) (by decide) ?_
              refine g_ireturn hX (dk DX12_doing_0 41 rfl) rfl (rfl) (by decide) (by decide) ?_
              exact qS_of hM hl (by unfold doingS; (try first | rw [if_pos hc1] | rw [if_neg hc1] | rw [if_neg (not_not_intro hc1)]); (try first | rw [if_pos hc2] | rw [if_neg hc2] | rw [if_neg (not_not_intro hc2)]); (try first | rw [if_pos hc3] | rw [if_neg hc3] | rw [if_neg (not_not_intro hc3)]); (try first | rw [if_pos hc4] | rw [if_neg hc4] | rw [if_neg (not_not_intro hc4)]); (try first | rw [if_pos hc5] | rw [if_neg hc5] | rw [if_neg (not_not_intro hc5)]); (try first | rw [if_pos hc6] | rw [if_neg hc6] | rw [if_neg (not_not_intro hc6)]); first | done | rfl) hR
  · refine g_iconst (v := -1) hX (dk DX12_doing_0 6 rfl) (by decide) ?_
    refine g_ireturn hX (dk DX12_doing_0 7 rfl) rfl (rfl) (by decide) (by decide) ?_
    exact qS_of hM hl (by unfold doingS; (try first | rw [if_pos hc1] | rw [if_neg hc1] | rw [if_neg (not_not_intro hc1)]); first | done | rfl) hR

set_option maxRecDepth 8000 in
set_option maxHeartbeats 4000000 in
theorem c_X12_act {G : Gt} (hG : Gok G) {I : It} {h : Ht} (hM : HM h) {E : It} (hE : Inv E) (hR : RM E I) {L : Nat → Int64} (hl : hL h 38 = L) {a w x : Int32} : Con G (9) 0 0 mX12_act [.ref 0, .int a, .int w, .int x] I h (qS (actS E a w x) L) := by
  refine con_intro (own := RX12) (lo0 := [some (.ref 0), some (.int a), some (.int w), some (.int x)]) hG rfl pl_X12 (Nat.le_of_ble_eq_true rfl) rfl (fun X hX => ?_)
  refine g_aload_0 hX (dk DX12_act 0 rfl) ?_
  refine g_iconst (v := 0) hX (dk DX12_act 1 rfl) (by decide) ?_
  refine g_putI hX (dk DX12_act 2 rfl) KX12 fX12_214 (by decide) rfl (MLt hM (by decide)) (MC hM) (Or.inl rfl) (rfl) (rfl) ?_
  refine g_aload_0 hX (dk DX12_act 3 rfl) ?_
  refine g_iload_1 hX (dk DX12_act 4 rfl) ?_
  refine g_c2I hX sX12_act_7 (by decide) (Nat.le_of_ble_eq_true rfl) (rc0 rfl (MLt hM (by decide)) (MC hM)) (by decide) (by decide) (cE_isDoing hG hM (I := upI I 0 67 0) (E := E) (RM.f hR 0 (by decide) (by decide))) ?_
  refine g_ifb_eq (tgt := 23) hX (dk DX12_act 6 rfl) (by decide) (fun hc1 => ?_) (fun hc1 => ?_)
  · refine g_iconst (v := 0) hX (dk DX12_act 13 rfl) (by decide) ?_
    refine g_ireturn hX (dk DX12_act 14 rfl) rfl (rfl) (by decide) (by decide) ?_
    exact qS_of hM hl (by unfold actS; (try first | rw [if_pos hc1] | rw [if_neg hc1] | rw [if_neg (not_not_intro hc1)]); first | done | rfl) (RM.upf hR (by decide))
  · obtain ⟨d, hd, rfl⟩ := isD_of hE hc1
    have hd10 := Nat.lt_of_lt_of_le hd (inv_cnt hE).2
    refine g_aload_0 hX (dk DX12_act 7 rfl) ?_
    refine g_iload_2 hX (dk DX12_act 8 rfl) ?_
    refine g_iconst (v := 0) hX (dk DX12_act 9 rfl) (by decide) ?_
    refine g_iconst (v := 2) hX (dk DX12_act 10 rfl) (by decide) ?_
    refine g_c4I hX sX12_act_17 (by decide) (Nat.le_of_ble_eq_true rfl) (rc0 rfl (MLt hM (by decide)) (MC hM)) (by decide) (by decide) (c_X12_in hG ) ?_
    refine g_ifb_ne (tgt := 25) hX (dk DX12_act 12 rfl) (by decide) (fun hc2 => ?_) (fun hc2 => ?_)
    · have hA := Ag.keep (Ag.of hR (by decide) (by decide)) (Fr.pf (F := [67]) (C := []) (j := 67) (x := 0) Fr.rf (by decide)) (by decide) (by decide)
      have hr : upI I 0 67 0 0 67 = nI 0 := up0 _ _ _ _
      refine g_iload_2 hX (dk DX12_act 15 rfl) ?_
      refine g_if_ne (tgt := 38) hX (dk DX12_act 16 rfl) (by decide) (fun hc3 => ?_) (fun hc3 => ?_)
      · refine g_iload_2 hX (dk DX12_act 22 rfl) ?_
        refine g_iconst (v := 1) hX (dk DX12_act 23 rfl) (by decide) ?_
        refine g_icmp_ne (tgt := 52) hX (dk DX12_act 24 rfl) (by decide) (fun hc4 => ?_) (fun hc4 => ?_)
        · refine g_aload_0 hX (dk DX12_act 30 rfl) ?_
          refine g_iload_1 hX (dk DX12_act 31 rfl) ?_
          refine g_iload_3 hX (dk DX12_act 32 rfl) ?_
          refine g_c3I hX sX12_act_55 (by decide) (Nat.le_of_ble_eq_true rfl) (rc0 rfl (MLt hM (by decide)) (MC hM)) (by decide) (by decide) (c_X12_tellsAct hG hM hA hd10 hr (by decide)) ?_
          refine g_ireturn hX (dk DX12_act 34 rfl) rfl (rfl) (by decide) (by decide) ?_
          exact qS_of hM hl (by unfold actS; rw [tN_nI (by omega)]; (try first | rw [if_pos hc1] | rw [if_neg hc1] | rw [if_neg (not_not_intro hc1)]); (try first | rw [if_pos hc2] | rw [if_neg hc2] | rw [if_neg (not_not_intro hc2)]); (try first | rw [if_pos hc3] | rw [if_neg hc3] | rw [if_neg (not_not_intro hc3)]); (try first | rw [if_pos hc4] | rw [if_neg hc4] | rw [if_neg (not_not_intro hc4)]); first | done | rfl) (RM_putB _ (RM.upf hR (by decide)))
        · refine g_aload_0 hX (dk DX12_act 25 rfl) ?_
          refine g_iload_1 hX (dk DX12_act 26 rfl) ?_
          refine g_iload_3 hX (dk DX12_act 27 rfl) ?_
          refine g_c3I hX sX12_act_46 (by decide) (Nat.le_of_ble_eq_true rfl) (rc0 rfl (MLt hM (by decide)) (MC hM)) (by decide) (by decide) (c_X12_holdsAct hG hM hA hd10 hr (by decide)) ?_
          refine g_goto (tgt := 58) hX (dk DX12_act 29 rfl) (by decide) ?_
          refine g_ireturn hX (dk DX12_act 34 rfl) rfl (rfl) (by decide) (by decide) ?_
          exact qS_of hM hl (by unfold actS; rw [tN_nI (by omega)]; (try first | rw [if_pos hc1] | rw [if_neg hc1] | rw [if_neg (not_not_intro hc1)]); (try first | rw [if_pos hc2] | rw [if_neg hc2] | rw [if_neg (not_not_intro hc2)]); (try first | rw [if_pos hc3] | rw [if_neg hc3] | rw [if_neg (not_not_intro hc3)]); (try first | rw [if_pos hc4] | rw [if_neg hc4] | rw [if_neg (not_not_intro hc4)]); first | done | rfl) (RM_putB _ (RM.upf hR (by decide)))
      · refine g_aload_0 hX (dk DX12_act 17 rfl) ?_
        refine g_iload_1 hX (dk DX12_act 18 rfl) ?_
        refine g_iload_3 hX (dk DX12_act 19 rfl) ?_
        refine g_c3I hX sX12_act_32 (by decide) (Nat.le_of_ble_eq_true rfl) (rc0 rfl (MLt hM (by decide)) (MC hM)) (by decide) (by decide) (c_X12_saysAct hG hM hA hd10 hr (by decide)) ?_
        refine g_goto (tgt := 58) hX (dk DX12_act 21 rfl) (by decide) ?_
        refine g_ireturn hX (dk DX12_act 34 rfl) rfl (rfl) (by decide) (by decide) ?_
        exact qS_of hM hl (by unfold actS; rw [tN_nI (by omega)]; (try first | rw [if_pos hc1] | rw [if_neg hc1] | rw [if_neg (not_not_intro hc1)]); (try first | rw [if_pos hc2] | rw [if_neg hc2] | rw [if_neg (not_not_intro hc2)]); (try first | rw [if_pos hc3] | rw [if_neg hc3] | rw [if_neg (not_not_intro hc3)]); first | done | rfl) (RM_putB _ (RM.upf hR (by decide)))
    · refine g_iconst (v := 0) hX (dk DX12_act 13 rfl) (by decide) ?_
      refine g_ireturn hX (dk DX12_act 14 rfl) rfl (rfl) (by decide) (by decide) ?_
      exact qS_of hM hl (by unfold actS; (try first | rw [if_pos hc1] | rw [if_neg hc1] | rw [if_neg (not_not_intro hc1)]); (try first | rw [if_pos hc2] | rw [if_neg hc2] | rw [if_neg (not_not_intro hc2)]); first | done | rfl) (RM.upf hR (by decide))
end
