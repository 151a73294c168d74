set_option maxRecDepth 8000 in
set_option maxHeartbeats 4000000 in
theorem c_X12_all {G : Gt} (hG : Gok G) {I : It} {h : Ht} (hM : HM h) {E : It} (hE : Inv E) (hR : RM E I) {L : Nat → Int64} (hl : hL h 38 = L) {s : Int32} : Con G (3) 0 0 mX12_all [.ref 0, .int s] I h (qS (allS E s) L) := by
  refine con_intro (own := RX12) (lo0 := [some (.ref 0), some (.int s), none]) hG rfl pl_X12 (Nat.le_of_ble_eq_true rfl) rfl (fun X hX => ?_)
  have loop22 : (1 ≤ s ∧ s ≤ bitI (E 0 0) - 1) → ∀ (k i : Nat), i + k = 3601 → alR E s k i = alR E s 3601 0 → GG G (3) 0 0 X (qS (allS E s) L) 22 [some (.ref 0), some (.int s), some (.int (nI i))] [] (I) (h) 0 0 := by
    intro hss k
    have hw := inv_wk hE
    induction k using Nat.strongRecOn with | _ k ih => ?_
    intro i hk hv
    refine g_iload_2 hX (dk DX12_all 15 rfl) ?_
    refine g_sipush (v := 3601) hX (dk DX12_all 16 rfl) (by decide) ?_
    refine g_icmp_ge (tgt := 51) hX (dk DX12_all 17 rfl) (by decide) (fun hc1 => ?_) (fun hc1 => ?_)
    · refine g_bipush (v := -5) hX (dk DX12_all 30 rfl) (by decide) ?_
      refine g_ireturn hX (dk DX12_all 31 rfl) rfl (rfl) (by decide) (by decide) ?_
      have hk0 := ct_end (e := 3601) hk (by decide) hc1
      subst hk0
      exact qS_of hM hl (by unfold allS; rw [if_neg (not_not_intro hss), ← hv]; rfl) hR
    · obtain ⟨k, rfl⟩ := ct_go (e := 3601) hk (by decide) hc1
      refine g_aload_0 hX (dk DX12_all 18 rfl) ?_
      refine g_iload_1 hX (dk DX12_all 19 rfl) ?_
      refine g_aload_0 hX (dk DX12_all 20 rfl) ?_
      refine g_getIv hX (dk DX12_all 21 rfl) KX12 fX12_13 (by decide) rfl (MLt hM (by decide)) (MC hM) ((RM.f hR 1 (by decide) (by decide)).trans hw.1) ?_
      refine g_iload_2 hX (dk DX12_all 22 rfl) ?_
      refine g_iadd hX (dk DX12_all 23 rfl) ?_
      rw [nI_add]
      refine g_c3I hX sX12_all_37 (by decide) (Nat.le_of_ble_eq_true rfl) (rc0 rfl (MLt hM (by decide)) (MC hM)) (by decide) (by decide) (c_X12_allCome hG hM hE (Ag.of hR (by decide) (by decide))) ?_
      refine g_ifb_eq (tgt := 45) hX (dk DX12_all 25 rfl) (by decide) (fun hc2 => ?_) (fun hc2 => ?_)
      · have hst : alR E s (k + 1) i = alR E s k (i + 1) := by rw [alR_s, if_neg hc2]
        refine g_iinc_2 hX (dk DX12_all 28 rfl) (nI_1 i) (by decide) rfl ?_
        refine g_goto (tgt := 22) hX (dk DX12_all 29 rfl) (by decide) ?_
        exact ih k (by omega) (i + 1) (by omega) (by rw [← hv, hst])
      · have hst : alR E s (k + 1) i = nI i := by rw [alR_s, if_pos hc2]
        refine g_iload_2 hX (dk DX12_all 26 rfl) ?_
        refine g_ireturn hX (dk DX12_all 27 rfl) rfl (rfl) (by decide) (by decide) ?_
        exact qS_of hM hl (by unfold allS; rw [if_neg (not_not_intro hss), ← hv, hst]) hR
  refine g_aload_0 hX (dk DX12_all 0 rfl) ?_
  refine g_iload_1 hX (dk DX12_all 1 rfl) ?_
  refine g_iconst (v := 1) hX (dk DX12_all 2 rfl) (by decide) ?_
  refine g_iconst (v := 1) hX (dk DX12_all 3 rfl) (by decide) ?_
  refine g_aload_0 hX (dk DX12_all 4 rfl) ?_
  refine g_getIv hX (dk DX12_all 5 rfl) KX12 fX12_7 (by decide) rfl (MLt hM (by decide)) (MC hM) (RM.f hR 0 (by decide) (by decide)) ?_
  refine g_ishl hX (dk DX12_all 6 rfl) ?_
  refine g_iconst (v := 1) hX (dk DX12_all 7 rfl) (by decide) ?_
  refine g_isub hX (dk DX12_all 8 rfl) ?_
  refine g_c4I hX sX12_all_11 (by decide) (Nat.le_of_ble_eq_true rfl) (rc0 rfl (MLt hM (by decide)) (MC hM)) (by decide) (by decide) (c_X12_in hG ) ?_
  refine g_ifb_ne (tgt := 20) hX (dk DX12_all 10 rfl) (by decide) (fun hc1 => ?_) (fun hc1 => ?_)
  · have hss := hc1
    refine g_iconst (v := 0) hX (dk DX12_all 13 rfl) (by decide) ?_
    refine g_istore_2 hX (dk DX12_all 14 rfl) (by decide) rfl ?_
    exact loop22 hss 3601 0 (Nat.zero_add _) rfl
  · refine g_bipush (v := -2) hX (dk DX12_all 11 rfl) (by decide) ?_
    refine g_ireturn hX (dk DX12_all 12 rfl) rfl (rfl) (by decide) (by decide) ?_
    exact qS_of hM hl (by unfold allS; exact if_pos hc1) hR

set_option maxRecDepth 8000 in
set_option maxHeartbeats 4000000 in
theorem c_X12_list {G : Gt} (hG : Gok G) {I : It} {h : Ht} (hM : HM h) {E : It} (hE : Inv E) (hR : RM E I) {L : Nat → Int64} (hl : hL h 38 = L) {w a : Int32} : Con G (3) 0 0 mX12_list [.ref 0, .int w, .int a] I h (qS (listS E w a) L) := by
  refine con_intro (own := RX12) (lo0 := [some (.ref 0), some (.int w), some (.int a)]) hG rfl pl_X12 (Nat.le_of_ble_eq_true rfl) rfl (fun X hX => ?_)
  refine g_iload_1 hX (dk DX12_list 0 rfl) ?_
  refine g_iconst (v := -1) hX (dk DX12_list 1 rfl) (by decide) ?_
  refine g_icmp_ne (tgt := 12) hX (dk DX12_list 2 rfl) (by decide) (fun hc1 => ?_) (fun hc1 => ?_)
  · refine g_aload_0 hX (dk DX12_list 8 rfl) ?_
    refine g_iload_1 hX (dk DX12_list 9 rfl) ?_
    refine g_iconst (v := 0) hX (dk DX12_list 10 rfl) (by decide) ?_
    refine g_bipush (v := 99) hX (dk DX12_list 11 rfl) (by decide) ?_
    refine g_c4I hX sX12_list_17 (by decide) (Nat.le_of_ble_eq_true rfl) (rc0 rfl (MLt hM (by decide)) (MC hM)) (by decide) (by decide) (c_X12_in hG ) ?_
    refine g_ifb_ne (tgt := 26) hX (dk DX12_list 13 rfl) (by decide) (fun hc2 => ?_) (fun hc2 => ?_)
    · refine g_aload_0 hX (dk DX12_list 16 rfl) ?_
      refine g_iload_2 hX (dk DX12_list 17 rfl) ?_
      refine g_c2I hX sX12_list_28 (by decide) (Nat.le_of_ble_eq_true rfl) (rc0 rfl (MLt hM (by decide)) (MC hM)) (by decide) (by decide) (cE_isDoing hG hM (RM.f hR 0 (by decide) (by decide))) ?_
      refine g_ifb_ne (tgt := 36) hX (dk DX12_list 19 rfl) (by decide) (fun hc3 => ?_) (fun hc3 => ?_)
      · refine g_aload_0 hX (dk DX12_list 22 rfl) ?_
        refine g_getIv hX (dk DX12_list 23 rfl) KX12 fX12_144 (by decide) rfl (MLt hM (by decide)) (MC hM) (RM.f hR 44 (by decide) (by decide)) ?_
        refine g_bipush (v := 12) hX (dk DX12_list 24 rfl) (by decide) ?_
        refine g_icmp_ne (tgt := 48) hX (dk DX12_list 25 rfl) (by decide) (fun hc4 => ?_) (fun hc4 => ?_)
        · have hrx := row_ix hE hc4
          refine g_aload_0 hX (dk DX12_list 28 rfl) ?_
          refine g_getRs (r := 23) hX (dk DX12_list 29 rfl) KX12 fX12_147 (by decide) rfl (MLt hM (by decide)) (MC hM) (MR hM 45 (by decide) rfl) ?_
          refine g_aload_0 hX (dk DX12_list 30 rfl) ?_
          refine g_getIv hX (dk DX12_list 31 rfl) KX12 fX12_144 (by decide) rfl (MLt hM (by decide)) (MC hM) (RM.f hR 44 (by decide) (by decide)) ?_
          refine g_iload_1 hX (dk DX12_list 32 rfl) ?_
          refine i_iastore hX (dk DX12_list 33 rfl) (MLt hM (q := 23) (by decide)) (MS hM 23 (by decide) rfl) (hrx) ?_
          refine g_aload_0 hX (dk DX12_list 34 rfl) ?_
          refine g_getRs (r := 24) hX (dk DX12_list 35 rfl) KX12 fX12_150 (by decide) rfl (MLt hM (by decide)) (MC hM) (MR hM 46 (by decide) rfl) ?_
          refine g_aload_0 hX (dk DX12_list 36 rfl) ?_
          refine g_getIv hX (dk DX12_list 37 rfl) KX12 fX12_144 (by decide) rfl (MLt hM (by decide)) (MC hM) (RM.f hR 44 (by decide) (by decide)) ?_
          refine g_iload_2 hX (dk DX12_list 38 rfl) ?_
          refine i_iastore hX (dk DX12_list 39 rfl) (MLt hM (q := 24) (by decide)) (MS hM 24 (by decide) rfl) (hrx) ?_
          refine g_aload_0 hX (dk DX12_list 40 rfl) ?_
          refine g_dup hX (dk DX12_list 41 rfl) rfl ?_
          refine g_getIv hX (dk DX12_list 42 rfl) KX12 fX12_144 (by decide) rfl (MLt hM (by decide)) (MC hM) (RM.f hR 44 (by decide) (by decide)) ?_
          refine g_iconst (v := 1) hX (dk DX12_list 43 rfl) (by decide) ?_
          refine g_iadd hX (dk DX12_list 44 rfl) ?_
          refine g_putI hX (dk DX12_list 45 rfl) KX12 fX12_144 (by decide) rfl (MLt hM (by decide)) (MC hM) (Or.inl rfl) (rfl) (rfl) ?_
          refine g_aload_0 hX (dk DX12_list 46 rfl) ?_
          refine g_getIv hX (dk DX12_list 47 rfl) KX12 fX12_144 (by decide) rfl (MLt hM (by decide)) (MC hM) (up0 _ _ _ _) ?_
          refine g_ireturn hX (dk DX12_list 48 rfl) rfl (rfl) (by decide) (by decide) ?_
          exact qS_of hM hl (by unfold listS; (try first | rw [if_pos hc1] | rw [if_neg hc1] | rw [if_neg (not_not_intro hc1)]); (try first | rw [if_pos hc2] | rw [if_neg hc2] | rw [if_neg (not_not_intro hc2)]); (try first | rw [if_pos hc3] | rw [if_neg hc3] | rw [if_neg (not_not_intro hc3)]); (try first | rw [if_pos hc4] | rw [if_neg hc4] | rw [if_neg (not_not_intro hc4)]); first | done | rfl) (RM.upf (RM.upc (RM.upc hR (by decide)) (by decide)) (by decide))
        · refine g_bipush (v := -4) hX (dk DX12_list 26 rfl) (by decide) ?_
          refine g_ireturn hX (dk DX12_list 27 rfl) rfl (rfl) (by decide) (by decide) ?_
          exact qS_of hM hl (by unfold listS; (try first | rw [if_pos hc1] | rw [if_neg hc1] | rw [if_neg (not_not_intro hc1)]); (try first | rw [if_pos hc2] | rw [if_neg hc2] | rw [if_neg (not_not_intro hc2)]); (try first | rw [if_pos hc3] | rw [if_neg hc3] | rw [if_neg (not_not_intro hc3)]); (try first | rw [if_pos hc4] | rw [if_neg hc4] | rw [if_neg (not_not_intro hc4)]); first | done | rfl) hR
      · refine g_iconst (v := -1) hX (dk DX12_list 20 rfl) (by decide) ?_
        refine g_ireturn hX (dk DX12_list 21 rfl) rfl (rfl) (by decide) (by decide) ?_
        exact qS_of hM hl (by unfold listS; (try first | rw [if_pos hc1] | rw [if_neg hc1] | rw [if_neg (not_not_intro hc1)]); (try first | rw [if_pos hc2] | rw [if_neg hc2] | rw [if_neg (not_not_intro hc2)]); (try first | rw [if_pos hc3] | rw [if_neg hc3] | rw [if_neg (not_not_intro hc3)]); first | done | rfl) hR
    · refine g_bipush (v := -2) hX (dk DX12_list 14 rfl) (by decide) ?_
      refine g_ireturn hX (dk DX12_list 15 rfl) rfl (rfl) (by decide) (by decide) ?_
      exact qS_of hM hl (by unfold listS; (try first | rw [if_pos hc1] | rw [if_neg hc1] | rw [if_neg (not_not_intro hc1)]); (try first | rw [if_pos hc2] | rw [if_neg hc2] | rw [if_neg (not_not_intro hc2)]); first | done | rfl) hR
  · refine g_aload_0 hX (dk DX12_list 3 rfl) ?_
    refine g_iconst (v := 0) hX (dk DX12_list 4 rfl) (by decide) ?_
    refine g_putI hX (dk DX12_list 5 rfl) KX12 fX12_144 (by decide) rfl (MLt hM (by decide)) (MC hM) (Or.inl rfl) (rfl) (rfl) ?_
    refine g_iconst (v := 0) hX (dk DX12_list 6 rfl) (by decide) ?_
    refine g_ireturn hX (dk DX12_list 7 rfl) rfl (rfl) (by decide) (by decide) ?_
    exact qS_of hM hl (by unfold listS; (try first | rw [if_pos hc1] | rw [if_neg hc1] | rw [if_neg (not_not_intro hc1)]); first | done | rfl) (RM.upf hR (by decide))

set_option maxRecDepth 8000 in
set_option maxHeartbeats 4000000 in
theorem c_X12_trace {G : Gt} (hG : Gok G) {I : It} {h : Ht} (hM : HM h) {E : It} (hE : Inv E) (hR : RM E I) {L : Nat → Int64} (hl : hL h 38 = L) {a : Int32} : Con G (2) 0 0 mX12_trace [.ref 0, .int a] I h (qS (traceS E a) L) := by
  refine con_intro (own := RX12) (lo0 := [some (.ref 0), some (.int a)]) hG rfl pl_X12 (Nat.le_of_ble_eq_true rfl) rfl (fun X hX => ?_)
  refine g_aload_0 hX (dk DX12_trace 0 rfl) ?_
  refine g_iload_1 hX (dk DX12_trace 1 rfl) ?_
  refine g_iconst (v := 0) hX (dk DX12_trace 2 rfl) (by decide) ?_
  refine g_bipush (v := 19) hX (dk DX12_trace 3 rfl) (by decide) ?_
  refine g_c4I hX sX12_trace_5 (by decide) (Nat.le_of_ble_eq_true rfl) (rc0 rfl (MLt hM (by decide)) (MC hM)) (by decide) (by decide) (c_X12_in hG ) ?_
  refine g_ifb_eq (tgt := 28) hX (dk DX12_trace 5 rfl) (by decide) (fun hc1 => ?_) (fun hc1 => ?_)
  · refine g_iconst (v := -1) hX (dk DX12_trace 15 rfl) (by decide) ?_
    refine g_ireturn hX (dk DX12_trace 16 rfl) rfl (rfl) (by decide) (by decide) ?_
    exact qS_of hM hl (by unfold traceS; (try rw [tN_nI (by omega)]); (try first | rw [if_pos hc1] | rw [if_neg hc1] | rw [if_neg (not_not_intro hc1)]); (try rw [tN_nI (by omega)]); first | done | rfl) hR
  · obtain ⟨j, hj, rfl⟩ := in_of (b := 19) (by decide) hc1
    refine g_iload_1 hX (dk DX12_trace 6 rfl) ?_
    refine g_aload_0 hX (dk DX12_trace 7 rfl) ?_
    refine g_getIv hX (dk DX12_trace 8 rfl) KX12 fX12_214 (by decide) rfl (MLt hM (by decide)) (MC hM) (RM.f hR 67 (by decide) (by decide)) ?_
    refine g_icmp_ge (tgt := 28) hX (dk DX12_trace 9 rfl) (by decide) (fun hc2 => ?_) (fun hc2 => ?_)
    · refine g_iconst (v := -1) hX (dk DX12_trace 15 rfl) (by decide) ?_
      refine g_ireturn hX (dk DX12_trace 16 rfl) rfl (rfl) (by decide) (by decide) ?_
      exact qS_of hM hl (by unfold traceS; (try rw [tN_nI (by omega)]); (try first | rw [if_pos hc1] | rw [if_neg hc1] | rw [if_neg (not_not_intro hc1)]); (try first | rw [if_pos hc2] | rw [if_neg hc2] | rw [if_neg (not_not_intro hc2)]); (try rw [tN_nI (by omega)]); first | done | rfl) hR
    · refine g_aload_0 hX (dk DX12_trace 10 rfl) ?_
      refine g_getRs (r := 35) hX (dk DX12_trace 11 rfl) KX12 fX12_217 (by decide) rfl (MLt hM (by decide)) (MC hM) (MR hM 68 (by decide) rfl) ?_
      refine g_iload_1 hX (dk DX12_trace 12 rfl) ?_
      refine v_iaload hX (dk DX12_trace 13 rfl) (MLt hM (q := 35) (by decide)) (MS hM 35 (by decide) rfl) (⟨rfl, by omega, by decide⟩) (RM.c1 hR 35 _ (by decide) (by decide)) ?_
      refine g_goto (tgt := 29) hX (dk DX12_trace 14 rfl) (by decide) ?_
      refine g_ireturn hX (dk DX12_trace 16 rfl) rfl (rfl) (by decide) (by decide) ?_
      exact qS_of hM hl (by unfold traceS; (try rw [tN_nI (by omega)]); (try first | rw [if_pos hc1] | rw [if_neg hc1] | rw [if_neg (not_not_intro hc1)]); (try first | rw [if_pos hc2] | rw [if_neg hc2] | rw [if_neg (not_not_intro hc2)]); (try rw [tN_nI (by omega)]); first | done | rfl) hR

set_option maxRecDepth 8000 in
set_option maxHeartbeats 4000000 in
theorem c_X12_taken {G : Gt} (hG : Gok G) {I : It} {h : Ht} (hM : HM h) {E : It} (hE : Inv E) (hR : RM E I) {L : Nat → Int64} (hl : hL h 38 = L) {a k : Int32} : Con G (3) 0 0 mX12_taken [.ref 0, .int a, .int k] I h (qS (takenS E a k) L) := by
  refine con_intro (own := RX12) (lo0 := [some (.ref 0), some (.int a), some (.int k), none]) hG rfl pl_X12 (Nat.le_of_ble_eq_true rfl) rfl (fun X hX => ?_)
  refine g_aload_0 hX (dk DX12_taken 0 rfl) ?_
  refine g_iload_2 hX (dk DX12_taken 1 rfl) ?_
  refine g_iconst (v := 0) hX (dk DX12_taken 2 rfl) (by decide) ?_
  refine g_bipush (v := 6) hX (dk DX12_taken 3 rfl) (by decide) ?_
  refine g_c4I hX sX12_taken_5 (by decide) (Nat.le_of_ble_eq_true rfl) (rc0 rfl (MLt hM (by decide)) (MC hM)) (by decide) (by decide) (c_X12_in hG ) ?_
  refine g_ifb_ne (tgt := 14) hX (dk DX12_taken 5 rfl) (by decide) (fun hc1 => ?_) (fun hc1 => ?_)
  · refine g_aload_0 hX (dk DX12_taken 8 rfl) ?_
    refine g_iload_1 hX (dk DX12_taken 9 rfl) ?_
    refine g_c2I hX sX12_taken_16 (by decide) (Nat.le_of_ble_eq_true rfl) (rc0 rfl (MLt hM (by decide)) (MC hM)) (by decide) (by decide) (cE_isDoing hG hM (RM.f hR 0 (by decide) (by decide))) ?_
    refine g_ifb_ne (tgt := 25) hX (dk DX12_taken 11 rfl) (by decide) (fun hc2 => ?_) (fun hc2 => ?_)
    · obtain ⟨d, hd, rfl⟩ := isD_of hE hc2
      have hd10 := Nat.lt_of_lt_of_le hd (inv_cnt hE).2
      refine g_aload_0 hX (dk DX12_taken 14 rfl) ?_
      refine g_getRs (r := 1) hX (dk DX12_taken 15 rfl) KX12 fX12_31 (by decide) rfl (MLt hM (by decide)) (MC hM) (MR hM 7 (by decide) rfl) ?_
      refine g_iload_1 hX (dk DX12_taken 16 rfl) ?_
      refine v_iaload hX (dk DX12_taken 17 rfl) (MLt hM (q := 1) (by decide)) (MS hM 1 (by decide) rfl) (⟨rfl, hd10, by decide⟩) (RM.c1 hR 1 _ (by decide) (by decide)) ?_
      refine g_istore_3 hX (dk DX12_taken 18 rfl) (by decide) rfl ?_
      refine g_iload_2 hX (dk DX12_taken 19 rfl) ?_
      refine g_if_eq (tgt := 72) hX (dk DX12_taken 20 rfl) (by decide) (fun hc3 => ?_) (fun hc3 => ?_)
      · refine g_iload_3 hX (dk DX12_taken 42 rfl) ?_
        refine g_goto (tgt := 78) hX (dk DX12_taken 43 rfl) (by decide) ?_
        refine g_ireturn hX (dk DX12_taken 45 rfl) rfl (rfl) (by decide) (by decide) ?_
        exact qS_of hM hl (by unfold takenS; rw [if_neg (not_not_intro hc1), if_neg (not_not_intro hc2), tN_nI (by omega)]; first | exact if_pos (by grind) | exact if_neg (by grind)) hR
      · refine g_iload_3 hX (dk DX12_taken 21 rfl) ?_
        refine g_iload_2 hX (dk DX12_taken 22 rfl) ?_
        refine g_icmp_eq (tgt := 72) hX (dk DX12_taken 23 rfl) (by decide) (fun hc4 => ?_) (fun hc4 => ?_)
        · refine g_iload_3 hX (dk DX12_taken 42 rfl) ?_
          refine g_goto (tgt := 78) hX (dk DX12_taken 43 rfl) (by decide) ?_
          refine g_ireturn hX (dk DX12_taken 45 rfl) rfl (rfl) (by decide) (by decide) ?_
          exact qS_of hM hl (by unfold takenS; rw [if_neg (not_not_intro hc1), if_neg (not_not_intro hc2), tN_nI (by omega)]; first | exact if_pos (by grind) | exact if_neg (by grind)) hR
        · refine g_iload_2 hX (dk DX12_taken 24 rfl) ?_
          refine g_iconst (v := 1) hX (dk DX12_taken 25 rfl) (by decide) ?_
          refine g_icmp_ne (tgt := 51) hX (dk DX12_taken 26 rfl) (by decide) (fun hc5 => ?_) (fun hc5 => ?_)
          · refine g_iload_2 hX (dk DX12_taken 30 rfl) ?_
            refine g_iconst (v := 2) hX (dk DX12_taken 31 rfl) (by decide) ?_
            refine g_icmp_ne (tgt := 61) hX (dk DX12_taken 32 rfl) (by decide) (fun hc6 => ?_) (fun hc6 => ?_)
            · refine g_iload_2 hX (dk DX12_taken 36 rfl) ?_
              refine g_iconst (v := 3) hX (dk DX12_taken 37 rfl) (by decide) ?_
              refine g_icmp_ne (tgt := 76) hX (dk DX12_taken 38 rfl) (by decide) (fun hc7 => ?_) (fun hc7 => ?_)
              · refine g_bipush (v := -12) hX (dk DX12_taken 44 rfl) (by decide) ?_
                refine g_ireturn hX (dk DX12_taken 45 rfl) rfl (rfl) (by decide) (by decide) ?_
                exact qS_of hM hl (by unfold takenS; rw [if_neg (not_not_intro hc1), if_neg (not_not_intro hc2), tN_nI (by omega)]; first | exact if_pos (by grind) | exact if_neg (by grind)) hR
              · refine g_iload_3 hX (dk DX12_taken 39 rfl) ?_
                refine g_bipush (v := 6) hX (dk DX12_taken 40 rfl) (by decide) ?_
                refine g_icmp_ne (tgt := 76) hX (dk DX12_taken 41 rfl) (by decide) (fun hc8 => ?_) (fun hc8 => ?_)
                · refine g_bipush (v := -12) hX (dk DX12_taken 44 rfl) (by decide) ?_
                  refine g_ireturn hX (dk DX12_taken 45 rfl) rfl (rfl) (by decide) (by decide) ?_
                  exact qS_of hM hl (by unfold takenS; rw [if_neg (not_not_intro hc1), if_neg (not_not_intro hc2), tN_nI (by omega)]; first | exact if_pos (by grind) | exact if_neg (by grind)) hR
                · refine g_iload_3 hX (dk DX12_taken 42 rfl) ?_
                  refine g_goto (tgt := 78) hX (dk DX12_taken 43 rfl) (by decide) ?_
                  refine g_ireturn hX (dk DX12_taken 45 rfl) rfl (rfl) (by decide) (by decide) ?_
                  exact qS_of hM hl (by unfold takenS; rw [if_neg (not_not_intro hc1), if_neg (not_not_intro hc2), tN_nI (by omega)]; first | exact if_pos (by grind) | exact if_neg (by grind)) hR
            · refine g_iload_3 hX (dk DX12_taken 33 rfl) ?_
              refine g_iconst (v := 5) hX (dk DX12_taken 34 rfl) (by decide) ?_
              refine g_icmp_eq (tgt := 72) hX (dk DX12_taken 35 rfl) (by decide) (fun hc9 => ?_) (fun hc9 => ?_)
              · refine g_iload_3 hX (dk DX12_taken 42 rfl) ?_
                refine g_goto (tgt := 78) hX (dk DX12_taken 43 rfl) (by decide) ?_
                refine g_ireturn hX (dk DX12_taken 45 rfl) rfl (rfl) (by decide) (by decide) ?_
                exact qS_of hM hl (by unfold takenS; rw [if_neg (not_not_intro hc1), if_neg (not_not_intro hc2), tN_nI (by omega)]; first | exact if_pos (by grind) | exact if_neg (by grind)) hR
              · refine g_iload_2 hX (dk DX12_taken 36 rfl) ?_
                refine g_iconst (v := 3) hX (dk DX12_taken 37 rfl) (by decide) ?_
                refine g_icmp_ne (tgt := 76) hX (dk DX12_taken 38 rfl) (by decide) (fun hc10 => ?_) (fun hc10 => ?_)
                · refine g_bipush (v := -12) hX (dk DX12_taken 44 rfl) (by decide) ?_
                  refine g_ireturn hX (dk DX12_taken 45 rfl) rfl (rfl) (by decide) (by decide) ?_
                  exact qS_of hM hl (by unfold takenS; rw [if_neg (not_not_intro hc1), if_neg (not_not_intro hc2), tN_nI (by omega)]; first | exact if_pos (by grind) | exact if_neg (by grind)) hR
                · refine g_iload_3 hX (dk DX12_taken 39 rfl) ?_
                  refine g_bipush (v := 6) hX (dk DX12_taken 40 rfl) (by decide) ?_
                  refine g_icmp_ne (tgt := 76) hX (dk DX12_taken 41 rfl) (by decide) (fun hc11 => ?_) (fun hc11 => ?_)
                  · refine g_bipush (v := -12) hX (dk DX12_taken 44 rfl) (by decide) ?_
                    refine g_ireturn hX (dk DX12_taken 45 rfl) rfl (rfl) (by decide) (by decide) ?_
                    exact qS_of hM hl (by unfold takenS; rw [if_neg (not_not_intro hc1), if_neg (not_not_intro hc2), tN_nI (by omega)]; first | exact if_pos (by grind) | exact if_neg (by grind)) hR
                  · refine g_iload_3 hX (dk DX12_taken 42 rfl) ?_
                    refine g_goto (tgt := 78) hX (dk DX12_taken 43 rfl) (by decide) ?_
                    refine g_ireturn hX (dk DX12_taken 45 rfl) rfl (rfl) (by decide) (by decide) ?_
                    exact qS_of hM hl (by unfold takenS; rw [if_neg (not_not_intro hc1), if_neg (not_not_intro hc2), tN_nI (by omega)]; first | exact if_pos (by grind) | exact if_neg (by grind)) hR
          · refine g_iload_3 hX (dk DX12_taken 27 rfl) ?_
            refine g_iconst (v := 4) hX (dk DX12_taken 28 rfl) (by decide) ?_
            refine g_icmp_eq (tgt := 72) hX (dk DX12_taken 29 rfl) (by decide) (fun hc12 => ?_) (fun hc12 => ?_)
            · refine g_iload_3 hX (dk DX12_taken 42 rfl) ?_
              refine g_goto (tgt := 78) hX (dk DX12_taken 43 rfl) (by decide) ?_
              refine g_ireturn hX (dk DX12_taken 45 rfl) rfl (rfl) (by decide) (by decide) ?_
              exact qS_of hM hl (by unfold takenS; rw [if_neg (not_not_intro hc1), if_neg (not_not_intro hc2), tN_nI (by omega)]; first | exact if_pos (by grind) | exact if_neg (by grind)) hR
            · refine g_iload_2 hX (dk DX12_taken 30 rfl) ?_
              refine g_iconst (v := 2) hX (dk DX12_taken 31 rfl) (by decide) ?_
              refine g_icmp_ne (tgt := 61) hX (dk DX12_taken 32 rfl) (by decide) (fun hc13 => ?_) (fun hc13 => ?_)
              · refine g_iload_2 hX (dk DX12_taken 36 rfl) ?_
                refine g_iconst (v := 3) hX (dk DX12_taken 37 rfl) (by decide) ?_
                refine g_icmp_ne (tgt := 76) hX (dk DX12_taken 38 rfl) (by decide) (fun hc14 => ?_) (fun hc14 => ?_)
                · refine g_bipush (v := -12) hX (dk DX12_taken 44 rfl) (by decide) ?_
                  refine g_ireturn hX (dk DX12_taken 45 rfl) rfl (rfl) (by decide) (by decide) ?_
                  exact qS_of hM hl (by unfold takenS; rw [if_neg (not_not_intro hc1), if_neg (not_not_intro hc2), tN_nI (by omega)]; first | exact if_pos (by grind) | exact if_neg (by grind)) hR
                · refine g_iload_3 hX (dk DX12_taken 39 rfl) ?_
                  refine g_bipush (v := 6) hX (dk DX12_taken 40 rfl) (by decide) ?_
                  refine g_icmp_ne (tgt := 76) hX (dk DX12_taken 41 rfl) (by decide) (fun hc15 => ?_) (fun hc15 => ?_)
                  · refine g_bipush (v := -12) hX (dk DX12_taken 44 rfl) (by decide) ?_
                    refine g_ireturn hX (dk DX12_taken 45 rfl) rfl (rfl) (by decide) (by decide) ?_
                    exact qS_of hM hl (by unfold takenS; rw [if_neg (not_not_intro hc1), if_neg (not_not_intro hc2), tN_nI (by omega)]; first | exact if_pos (by grind) | exact if_neg (by grind)) hR
                  · refine g_iload_3 hX (dk DX12_taken 42 rfl) ?_
                    refine g_goto (tgt := 78) hX (dk DX12_taken 43 rfl) (by decide) ?_
                    refine g_ireturn hX (dk DX12_taken 45 rfl) rfl (rfl) (by decide) (by decide) ?_
                    exact qS_of hM hl (by unfold takenS; rw [if_neg (not_not_intro hc1), if_neg (not_not_intro hc2), tN_nI (by omega)]; first | exact if_pos (by grind) | exact if_neg (by grind)) hR
              · refine g_iload_3 hX (dk DX12_taken 33 rfl) ?_
                refine g_iconst (v := 5) hX (dk DX12_taken 34 rfl) (by decide) ?_
                refine g_icmp_eq (tgt := 72) hX (dk DX12_taken 35 rfl) (by decide) (fun hc16 => ?_) (fun hc16 => ?_)
                · refine g_iload_3 hX (dk DX12_taken 42 rfl) ?_
                  refine g_goto (tgt := 78) hX (dk DX12_taken 43 rfl) (by decide) ?_
                  refine g_ireturn hX (dk DX12_taken 45 rfl) rfl (rfl) (by decide) (by decide) ?_
                  exact qS_of hM hl (by unfold takenS; rw [if_neg (not_not_intro hc1), if_neg (not_not_intro hc2), tN_nI (by omega)]; first | exact if_pos (by grind) | exact if_neg (by grind)) hR
                · refine g_iload_2 hX (dk DX12_taken 36 rfl) ?_
                  refine g_iconst (v := 3) hX (dk DX12_taken 37 rfl) (by decide) ?_
                  refine g_icmp_ne (tgt := 76) hX (dk DX12_taken 38 rfl) (by decide) (fun hc17 => ?_) (fun hc17 => ?_)
                  · refine g_bipush (v := -12) hX (dk DX12_taken 44 rfl) (by decide) ?_
                    refine g_ireturn hX (dk DX12_taken 45 rfl) rfl (rfl) (by decide) (by decide) ?_
                    exact qS_of hM hl (by unfold takenS; rw [if_neg (not_not_intro hc1), if_neg (not_not_intro hc2), tN_nI (by omega)]; first | exact if_pos (by grind) | exact if_neg (by grind)) hR
                  · refine g_iload_3 hX (dk DX12_taken 39 rfl) ?_
                    refine g_bipush (v := 6) hX (dk DX12_taken 40 rfl) (by decide) ?_
                    refine g_icmp_ne (tgt := 76) hX (dk DX12_taken 41 rfl) (by decide) (fun hc18 => ?_) (fun hc18 => ?_)
                    · refine g_bipush (v := -12) hX (dk DX12_taken 44 rfl) (by decide) ?_
                      refine g_ireturn hX (dk DX12_taken 45 rfl) rfl (rfl) (by decide) (by decide) ?_
                      exact qS_of hM hl (by unfold takenS; rw [if_neg (not_not_intro hc1), if_neg (not_not_intro hc2), tN_nI (by omega)]; first | exact if_pos (by grind) | exact if_neg (by grind)) hR
                    · refine g_iload_3 hX (dk DX12_taken 42 rfl) ?_
                      refine g_goto (tgt := 78) hX (dk DX12_taken 43 rfl) (by decide) ?_
                      refine g_ireturn hX (dk DX12_taken 45 rfl) rfl (rfl) (by decide) (by decide) ?_
                      exact qS_of hM hl (by unfold takenS; rw [if_neg (not_not_intro hc1), if_neg (not_not_intro hc2), tN_nI (by omega)]; first | exact if_pos (by grind) | exact if_neg (by grind)) hR
    · refine g_bipush (v := -11) hX (dk DX12_taken 12 rfl) (by decide) ?_
      refine g_ireturn hX (dk DX12_taken 13 rfl) rfl (rfl) (by decide) (by decide) ?_
      exact qS_of hM hl (by unfold takenS; (try first | rw [if_pos hc1] | rw [if_neg hc1] | rw [if_neg (not_not_intro hc1)]); (try first | rw [if_pos hc2] | rw [if_neg hc2] | rw [if_neg (not_not_intro hc2)]); first | done | rfl) hR
  · refine g_bipush (v := -2) hX (dk DX12_taken 6 rfl) (by decide) ?_
    refine g_ireturn hX (dk DX12_taken 7 rfl) rfl (rfl) (by decide) (by decide) ?_
    exact qS_of hM hl (by unfold takenS; (try first | rw [if_pos hc1] | rw [if_neg hc1] | rw [if_neg (not_not_intro hc1)]); first | done | rfl) hR

set_option maxRecDepth 8000 in
set_option maxHeartbeats 4000000 in
theorem c_X12_count {G : Gt} (hG : Gok G) {I : It} {h : Ht} (hM : HM h) {E : It} (hE : Inv E) (hR : RM E I) {L : Nat → Int64} (hl : hL h 38 = L) {w : Int32} : Con G (2) 0 0 mX12_count [.ref 0, .int w] I h (qS (countS E w) L) := by
  refine con_intro (own := RX12) (lo0 := [some (.ref 0), some (.int w)]) hG rfl pl_X12 (Nat.le_of_ble_eq_true rfl) rfl (fun X hX => ?_)
  refine g_iload_1 hX (dk DX12_count 0 rfl) ?_
  refine g_tswitch (dt := 74) hX [(0, 40), (1, 45), (2, 50), (3, 55), (4, 60), (5, 65)] (dk DX12_count 1 rfl) (by decide +kernel) ?_
  refine ⟨fun hc1 => ?_, fun hc1n => ?_⟩
  · show GG _ _ _ _ _ _ _ _ _ _ _ _ _
    refine g_aload_0 hX (dk DX12_count 2 rfl) ?_
    refine g_getIv hX (dk DX12_count 3 rfl) KX12 fX12_7 (by decide) rfl (MLt hM (by decide)) (MC hM) (RM.f hR 0 (by decide) (by decide)) ?_
    refine g_ireturn hX (dk DX12_count 4 rfl) rfl (rfl) (by decide) (by decide) ?_
    exact qS_of hM hl (by unfold countS; (try first | rw [if_pos hc1] | rw [if_neg hc1] | rw [if_neg (not_not_intro hc1)]); first | done | rfl) hR
  refine ⟨fun hc2 => ?_, fun hc2n => ?_⟩
  · show GG _ _ _ _ _ _ _ _ _ _ _ _ _
    refine g_aload_0 hX (dk DX12_count 5 rfl) ?_
    refine g_getIv hX (dk DX12_count 6 rfl) KX12 fX12_56 (by decide) rfl (MLt hM (by decide)) (MC hM) (RM.f hR 15 (by decide) (by decide)) ?_
    refine g_ireturn hX (dk DX12_count 7 rfl) rfl (rfl) (by decide) (by decide) ?_
    exact qS_of hM hl (by unfold countS; (try first | rw [if_pos hc1n] | rw [if_neg hc1n] | rw [if_neg (not_not_intro hc1n)]); (try first | rw [if_pos hc2] | rw [if_neg hc2] | rw [if_neg (not_not_intro hc2)]); first | done | rfl) hR
  refine ⟨fun hc3 => ?_, fun hc3n => ?_⟩
  · show GG _ _ _ _ _ _ _ _ _ _ _ _ _
    refine g_aload_0 hX (dk DX12_count 8 rfl) ?_
    refine g_getIv hX (dk DX12_count 9 rfl) KX12 fX12_144 (by decide) rfl (MLt hM (by decide)) (MC hM) (RM.f hR 44 (by decide) (by decide)) ?_
    refine g_ireturn hX (dk DX12_count 10 rfl) rfl (rfl) (by decide) (by decide) ?_
    exact qS_of hM hl (by unfold countS; (try first | rw [if_pos hc1n] | rw [if_neg hc1n] | rw [if_neg (not_not_intro hc1n)]); (try first | rw [if_pos hc2n] | rw [if_neg hc2n] | rw [if_neg (not_not_intro hc2n)]); (try first | rw [if_pos hc3] | rw [if_neg hc3] | rw [if_neg (not_not_intro hc3)]); first | done | rfl) hR
  refine ⟨fun hc4 => ?_, fun hc4n => ?_⟩
  · show GG _ _ _ _ _ _ _ _ _ _ _ _ _
    refine g_aload_0 hX (dk DX12_count 11 rfl) ?_
    refine g_getIv hX (dk DX12_count 12 rfl) KX12 fX12_62 (by decide) rfl (MLt hM (by decide)) (MC hM) (RM.f hR 17 (by decide) (by decide)) ?_
    refine g_ireturn hX (dk DX12_count 13 rfl) rfl (rfl) (by decide) (by decide) ?_
    exact qS_of hM hl (by unfold countS; (try first | rw [if_pos hc1n] | rw [if_neg hc1n] | rw [if_neg (not_not_intro hc1n)]); (try first | rw [if_pos hc2n] | rw [if_neg hc2n] | rw [if_neg (not_not_intro hc2n)]); (try first | rw [if_pos hc3n] | rw [if_neg hc3n] | rw [if_neg (not_not_intro hc3n)]); (try first | rw [if_pos hc4] | rw [if_neg hc4] | rw [if_neg (not_not_intro hc4)]); first | done | rfl) hR
  refine ⟨fun hc5 => ?_, fun hc5n => ?_⟩
  · show GG _ _ _ _ _ _ _ _ _ _ _ _ _
    refine g_aload_0 hX (dk DX12_count 14 rfl) ?_
    refine g_getIv hX (dk DX12_count 15 rfl) KX12 fX12_214 (by decide) rfl (MLt hM (by decide)) (MC hM) (RM.f hR 67 (by decide) (by decide)) ?_
    refine g_ireturn hX (dk DX12_count 16 rfl) rfl (rfl) (by decide) (by decide) ?_
    exact qS_of hM hl (by unfold countS; (try first | rw [if_pos hc1n] | rw [if_neg hc1n] | rw [if_neg (not_not_intro hc1n)]); (try first | rw [if_pos hc2n] | rw [if_neg hc2n] | rw [if_neg (not_not_intro hc2n)]); (try first | rw [if_pos hc3n] | rw [if_neg hc3n] | rw [if_neg (not_not_intro hc3n)]); (try first | rw [if_pos hc4n] | rw [if_neg hc4n] | rw [if_neg (not_not_intro hc4n)]); (try first | rw [if_pos hc5] | rw [if_neg hc5] | rw [if_neg (not_not_intro hc5)]); first | done | rfl) hR
  refine ⟨fun hc6 => ?_, fun hc6n => ?_⟩
  · show GG _ _ _ _ _ _ _ _ _ _ _ _ _
    refine g_aload_0 hX (dk DX12_count 17 rfl) ?_
    refine g_aload_0 hX (dk DX12_count 18 rfl) ?_
    refine g_getIv hX (dk DX12_count 19 rfl) KX12 fX12_25 (by decide) rfl (MLt hM (by decide)) (MC hM) (RM.f hR 5 (by decide) (by decide)) ?_
    refine g_c2I hX sX12_count_70 (by decide) (Nat.le_of_ble_eq_true rfl) (rc0 rfl (MLt hM (by decide)) (MC hM)) (by decide) (by decide) (cE_ones hG (inv_kn hE) (inv_cnt hE).2) ?_
    refine g_ireturn hX (dk DX12_count 21 rfl) rfl (rfl) (by decide) (by decide) ?_
    exact qS_of hM hl (by unfold countS; (try first | rw [if_pos hc1n] | rw [if_neg hc1n] | rw [if_neg (not_not_intro hc1n)]); (try first | rw [if_pos hc2n] | rw [if_neg hc2n] | rw [if_neg (not_not_intro hc2n)]); (try first | rw [if_pos hc3n] | rw [if_neg hc3n] | rw [if_neg (not_not_intro hc3n)]); (try first | rw [if_pos hc4n] | rw [if_neg hc4n] | rw [if_neg (not_not_intro hc4n)]); (try first | rw [if_pos hc5n] | rw [if_neg hc5n] | rw [if_neg (not_not_intro hc5n)]); (try first | rw [if_pos hc6] | rw [if_neg hc6] | rw [if_neg (not_not_intro hc6)]); first | done | rfl) hR
  show GG _ _ _ _ _ _ _ _ _ _ _ _ _
  refine g_bipush (v := -2) hX (dk DX12_count 22 rfl) (by decide) ?_
  refine g_ireturn hX (dk DX12_count 23 rfl) rfl (rfl) (by decide) (by decide) ?_
  exact qS_of hM hl (by unfold countS; (try first | rw [if_pos hc1n] | rw [if_neg hc1n] | rw [if_neg (not_not_intro hc1n)]); (try first | rw [if_pos hc2n] | rw [if_neg hc2n] | rw [if_neg (not_not_intro hc2n)]); (try first | rw [if_pos hc3n] | rw [if_neg hc3n] | rw [if_neg (not_not_intro hc3n)]); (try first | rw [if_pos hc4n] | rw [if_neg hc4n] | rw [if_neg (not_not_intro hc4n)]); (try first | rw [if_pos hc5n] | rw [if_neg hc5n] | rw [if_neg (not_not_intro hc5n)]); (try first | rw [if_pos hc6n] | rw [if_neg hc6n] | rw [if_neg (not_not_intro hc6n)]); first | done | rfl) hR

def readF (E : It) (L : Nat → Int64) (t i : Int32) : Int64 := if ¬ isT t then NOL else if E 36 (tN t) < 0 then NOL else if ¬ (0 ≤ i ∧ i ≤ E 37 (tN t) - 1) then NOL else L (60 * tN t + tN i)
def itemS (E : It) (L : Nat → Int64) (t i : Int32) (z : Int64) : Int32 × (Nat → Int64) := if ¬ isT t then (-1, L) else if ¬ 0 ≤ E 36 (tN t) then (-11, L) else if ¬ (0 ≤ i ∧ i ≤ E 37 (tN t) - 1) then (-13, L) else (1, vp_updL L (60 * tN t + tN i) (narF (E 36 (tN t)) z))
def tapeS (E : It) (t s n : Int32) : Int32 × It := if ¬ isT t then (-1, E) else if ¬ (-1 ≤ s ∧ s ≤ 4) then (-2, E) else if s < 0 then (1, upI (upI E 36 (tN t) s) 37 (tN t) 0) else if ¬ n ≤ 60 then (-2, E) else if ¬ 0 ≤ n then (-14, E) else (1, upI (upI E 36 (tN t) s) 37 (tN t) n)
def tapeL (L : Nat → Int64) (t s n : Int32) : Nat → Int64 := if ¬ isT t then L else if ¬ (-1 ≤ s ∧ s ≤ 4) then L else if s < 0 then fun j => if 60 * tN t ≤ j ∧ j < 60 * tN t + 60 then 0 else L j else if ¬ n ≤ 60 then L else if ¬ 0 ≤ n then L else fun j => if 60 * tN t ≤ j ∧ j < 60 * tN t + 60 then 0 else L j
def judgeS (E : It) (L : Nat → Int64) (t i : Int32) : Int32 × It := if ¬ isT t then (-1, E) else if E 36 (tN t) < 0 then (jdR E L (tN t) i (cnt E) 0, E) else if ¬ E 36 (tN t) = 4 then (-12, E) else (jdR E L (tN t) i (cnt E) 0, E)
theorem it_ix {t k : Nat} {q : Int32} (ht : t ≤ 5) (hk : k < 60) (hq : q = 60 * nI t + nI k) : idx q (60 * t + k) 360 := by
  rw [show (60 : Int32) = nI 60 from rfl, pk_mul, nI_add] at hq
  exact ⟨hq, by omega, by decide⟩
set_option maxRecDepth 8000 in
set_option maxHeartbeats 4000000 in
theorem c_X12_isTape {G : Gt} (hG : Gok G) {I : It} {h : Ht} (hM : HM h) {t : Int32} : Con G (2) 0 0 mX12_isTape [.ref 0, .int t] I h (rI (bI (isT t)) I h) := by
  refine con_intro (own := RX12) (lo0 := [some (.ref 0), some (.int t)]) hG rfl pl_X12 (Nat.le_of_ble_eq_true rfl) rfl (fun X hX => ?_)
  refine g_aload_0 hX (dk DX12_isTape 0 rfl) ?_
  refine g_iload_1 hX (dk DX12_isTape 1 rfl) ?_
  refine g_iconst (v := 0) hX (dk DX12_isTape 2 rfl) (by decide) ?_
  refine g_iconst (v := 5) hX (dk DX12_isTape 3 rfl) (by decide) ?_
  refine g_c4I hX sX12_isTape_4 (by decide) (Nat.le_of_ble_eq_true rfl) (rc0 rfl (MLt hM (by decide)) (MC hM)) (by decide) (by decide) (c_X12_in hG ) ?_
  refine g_ireturn hX (dk DX12_isTape 5 rfl) rfl (narB _) (by decide) (by decide) ?_
  exact rI_of rfl rfl rfl

set_option maxRecDepth 8000 in
set_option maxHeartbeats 4000000 in
theorem c_X12_narrow {G : Gt} (hG : Gok G) {I : It} {h : Ht}  {s : Int32} {z : Int64} : Con G (1) 0 0 mX12_narrow [.ref 0, .int s, .long z] I h (rL (narF s z) I h) := by
  refine con_intro (own := RX12) (lo0 := [some (.ref 0), some (.int s), some (.long z), none]) hG rfl pl_X12 (Nat.le_of_ble_eq_true rfl) rfl (fun X hX => ?_)
  refine g_iload_1 hX (dk DX12_narrow 0 rfl) ?_
  refine g_if_ne (tgt := 11) hX (dk DX12_narrow 1 rfl) (by decide) (fun hc1 => ?_) (fun hc1 => ?_)
  · refine g_iload_1 hX (dk DX12_narrow 7 rfl) ?_
    refine g_iconst (v := 1) hX (dk DX12_narrow 8 rfl) (by decide) ?_
    refine g_icmp_ne (tgt := 23) hX (dk DX12_narrow 9 rfl) (by decide) (fun hc2 => ?_) (fun hc2 => ?_)
    · refine g_iload_1 hX (dk DX12_narrow 15 rfl) ?_
      refine g_iconst (v := 2) hX (dk DX12_narrow 16 rfl) (by decide) ?_
      refine g_icmp_ne (tgt := 34) hX (dk DX12_narrow 17 rfl) (by decide) (fun hc3 => ?_) (fun hc3 => ?_)
      · refine g_iload_1 hX (dk DX12_narrow 22 rfl) ?_
        refine g_iconst (v := 4) hX (dk DX12_narrow 23 rfl) (by decide) ?_
        refine g_icmp_ne (tgt := 53) hX (dk DX12_narrow 24 rfl) (by decide) (fun hc4 => ?_) (fun hc4 => ?_)
        · refine g_lload_2 hX (dk DX12_narrow 33 rfl) ?_
          refine g_lreturn hX (dk DX12_narrow 34 rfl) rfl (by decide) (by decide) ?_
          exact rL_of (by unfold narF; (try rw [lg0] at *); (try first | rw [if_pos hc1] | rw [if_neg hc1] | rw [if_neg (not_not_intro hc1)]); (try first | rw [if_pos hc2] | rw [if_neg hc2] | rw [if_neg (not_not_intro hc2)]); (try first | rw [if_pos hc3] | rw [if_neg hc3] | rw [if_neg (not_not_intro hc3)]); (try first | rw [if_pos hc4] | rw [if_neg hc4] | rw [if_neg (not_not_intro hc4)]); first | done | rfl) rfl rfl
        · refine g_lload_2 hX (dk DX12_narrow 25 rfl) ?_
          refine g_lconst (v := 0) hX (dk DX12_narrow 26 rfl) (by decide) ?_
          refine g_lcmp hX (dk DX12_narrow 27 rfl) ?_
          refine g_if_eq (tgt := 49) hX (dk DX12_narrow 28 rfl) (by decide) (fun hc5 => ?_) (fun hc5 => ?_)
          · refine g_lconst (v := 0) hX (dk DX12_narrow 31 rfl) (by decide) ?_
            refine g_goto (tgt := 54) hX (dk DX12_narrow 32 rfl) (by decide) ?_
            refine g_lreturn hX (dk DX12_narrow 34 rfl) rfl (by decide) (by decide) ?_
            exact rL_of (by unfold narF; (try rw [lg0] at *); (try first | rw [if_pos hc1] | rw [if_neg hc1] | rw [if_neg (not_not_intro hc1)]); (try first | rw [if_pos hc2] | rw [if_neg hc2] | rw [if_neg (not_not_intro hc2)]); (try first | rw [if_pos hc3] | rw [if_neg hc3] | rw [if_neg (not_not_intro hc3)]); (try first | rw [if_pos hc4] | rw [if_neg hc4] | rw [if_neg (not_not_intro hc4)]); (try first | rw [if_pos hc5] | rw [if_neg hc5] | rw [if_neg (not_not_intro hc5)]); first | done | rfl) rfl rfl
          · refine g_lconst (v := 1) hX (dk DX12_narrow 29 rfl) (by decide) ?_
            refine g_goto (tgt := 54) hX (dk DX12_narrow 30 rfl) (by decide) ?_
            refine g_lreturn hX (dk DX12_narrow 34 rfl) rfl (by decide) (by decide) ?_
            exact rL_of (by unfold narF; (try rw [lg0] at *); (try first | rw [if_pos hc1] | rw [if_neg hc1] | rw [if_neg (not_not_intro hc1)]); (try first | rw [if_pos hc2] | rw [if_neg hc2] | rw [if_neg (not_not_intro hc2)]); (try first | rw [if_pos hc3] | rw [if_neg hc3] | rw [if_neg (not_not_intro hc3)]); (try first | rw [if_pos hc4] | rw [if_neg hc4] | rw [if_neg (not_not_intro hc4)]); (try first | rw [if_pos hc5] | rw [if_neg hc5] | rw [if_neg (not_not_intro hc5)]); first | done | rfl) rfl rfl
      · refine g_lload_2 hX (dk DX12_narrow 18 rfl) ?_
        refine g_l2i hX (dk DX12_narrow 19 rfl) ?_
        refine g_i2l hX (dk DX12_narrow 20 rfl) ?_
        refine g_goto (tgt := 54) hX (dk DX12_narrow 21 rfl) (by decide) ?_
        refine g_lreturn hX (dk DX12_narrow 34 rfl) rfl (by decide) (by decide) ?_
        exact rL_of (by unfold narF; (try rw [lg0] at *); (try first | rw [if_pos hc1] | rw [if_neg hc1] | rw [if_neg (not_not_intro hc1)]); (try first | rw [if_pos hc2] | rw [if_neg hc2] | rw [if_neg (not_not_intro hc2)]); (try first | rw [if_pos hc3] | rw [if_neg hc3] | rw [if_neg (not_not_intro hc3)]); first | done | rfl) rfl rfl
    · refine g_lload_2 hX (dk DX12_narrow 10 rfl) ?_
      refine g_l2i hX (dk DX12_narrow 11 rfl) ?_
      refine g_i2s hX (dk DX12_narrow 12 rfl) ?_
      refine g_i2l hX (dk DX12_narrow 13 rfl) ?_
      refine g_goto (tgt := 54) hX (dk DX12_narrow 14 rfl) (by decide) ?_
      refine g_lreturn hX (dk DX12_narrow 34 rfl) rfl (by decide) (by decide) ?_
      exact rL_of (by unfold narF; (try rw [lg0] at *); (try first | rw [if_pos hc1] | rw [if_neg hc1] | rw [if_neg (not_not_intro hc1)]); (try first | rw [if_pos hc2] | rw [if_neg hc2] | rw [if_neg (not_not_intro hc2)]); first | done | rfl) rfl rfl
  · refine g_lload_2 hX (dk DX12_narrow 2 rfl) ?_
    refine g_l2i hX (dk DX12_narrow 3 rfl) ?_
    refine g_i2b hX (dk DX12_narrow 4 rfl) ?_
    refine g_i2l hX (dk DX12_narrow 5 rfl) ?_
    refine g_goto (tgt := 54) hX (dk DX12_narrow 6 rfl) (by decide) ?_
    refine g_lreturn hX (dk DX12_narrow 34 rfl) rfl (by decide) (by decide) ?_
    exact rL_of (by unfold narF; (try rw [lg0] at *); (try first | rw [if_pos hc1] | rw [if_neg hc1] | rw [if_neg (not_not_intro hc1)]); first | done | rfl) rfl rfl

set_option maxRecDepth 8000 in
set_option maxHeartbeats 4000000 in
theorem c_X12_read {G : Gt} (hG : Gok G) {I : It} {h : Ht} (hM : HM h) {E : It} (hE : Inv E) (hR : RM E I) {L : Nat → Int64} (hl : hL h 38 = L) {a e : Int32} : Con G (3) 0 0 mX12_read [.ref 0, .int a, .int e] I h (qSL (readF E L a e) E L) := by
  refine con_intro (own := RX12) (lo0 := [some (.ref 0), some (.int a), some (.int e)]) hG rfl pl_X12 (Nat.le_of_ble_eq_true rfl) rfl (fun X hX => ?_)
  refine g_aload_0 hX (dk DX12_read 0 rfl) ?_
  refine g_iload_1 hX (dk DX12_read 1 rfl) ?_
  refine g_c2I hX sX12_read_2 (by decide) (Nat.le_of_ble_eq_true rfl) (rc0 rfl (MLt hM (by decide)) (MC hM)) (by decide) (by decide) (c_X12_isTape hG hM) ?_
  refine g_ifb_eq (tgt := 34) hX (dk DX12_read 3 rfl) (by decide) (fun hc1 => ?_) (fun hc1 => ?_)
  · refine g_ldc2_w (v := -9223372036854775808) hX (dk DX12_read 20 rfl) (tg_7 4 rfl rfl) ?_
    refine g_goto (tgt := 51) hX (dk DX12_read 21 rfl) (by decide) ?_
    refine g_lreturn hX (dk DX12_read 30 rfl) rfl (by decide) (by decide) ?_
    exact qSL_of hM hl (by unfold readF; (try rw [tN_nI (by omega)]); (try rw [tN_nI (by omega)]); (try rw [el]); (try first | rw [if_pos hc1] | rw [if_neg hc1] | rw [if_neg (not_not_intro hc1)]); first | done | rfl) hR
  · obtain ⟨t, ht, rfl⟩ := in_of (b := 5) (by decide) hc1
    refine g_aload_0 hX (dk DX12_read 4 rfl) ?_
    refine g_getRs (r := 36) hX (dk DX12_read 5 rfl) KX12 fX12_220 (by decide) rfl (MLt hM (by decide)) (MC hM) (MR hM 69 (by decide) rfl) ?_
    refine g_iload_1 hX (dk DX12_read 6 rfl) ?_
    refine v_iaload hX (dk DX12_read 7 rfl) (MLt hM (q := 36) (by decide)) (MS hM 36 (by decide) rfl) (⟨rfl, by omega, by decide⟩) (RM.c1 hR 36 _ (by decide) (by decide)) ?_
    refine g_if_lt (tgt := 34) hX (dk DX12_read 8 rfl) (by decide) (fun hc2 => ?_) (fun hc2 => ?_)
    · refine g_ldc2_w (v := -9223372036854775808) hX (dk DX12_read 20 rfl) (tg_7 4 rfl rfl) ?_
      refine g_goto (tgt := 51) hX (dk DX12_read 21 rfl) (by decide) ?_
      refine g_lreturn hX (dk DX12_read 30 rfl) rfl (by decide) (by decide) ?_
      exact qSL_of hM hl (by unfold readF; (try rw [tN_nI (by omega)]); (try rw [tN_nI (by omega)]); (try rw [el]); (try first | rw [if_pos hc1] | rw [if_neg hc1] | rw [if_neg (not_not_intro hc1)]); (try first | rw [if_pos hc2] | rw [if_neg hc2] | rw [if_neg (not_not_intro hc2)]); first | done | rfl) hR
    · refine g_aload_0 hX (dk DX12_read 9 rfl) ?_
      refine g_iload_2 hX (dk DX12_read 10 rfl) ?_
      refine g_iconst (v := 0) hX (dk DX12_read 11 rfl) (by decide) ?_
      refine g_aload_0 hX (dk DX12_read 12 rfl) ?_
      refine g_getRs (r := 37) hX (dk DX12_read 13 rfl) KX12 fX12_223 (by decide) rfl (MLt hM (by decide)) (MC hM) (MR hM 70 (by decide) rfl) ?_
      refine g_iload_1 hX (dk DX12_read 14 rfl) ?_
      refine v_iaload hX (dk DX12_read 15 rfl) (MLt hM (q := 37) (by decide)) (MS hM 37 (by decide) rfl) (⟨rfl, by omega, by decide⟩) (RM.c1 hR 37 _ (by decide) (by decide)) ?_
      refine g_iconst (v := 1) hX (dk DX12_read 16 rfl) (by decide) ?_
      refine g_isub hX (dk DX12_read 17 rfl) ?_
      refine g_c4I hX sX12_read_28 (by decide) (Nat.le_of_ble_eq_true rfl) (rc0 rfl (MLt hM (by decide)) (MC hM)) (by decide) (by decide) (c_X12_in hG ) ?_
      refine g_ifb_ne (tgt := 40) hX (dk DX12_read 19 rfl) (by decide) (fun hc3 => ?_) (fun hc3 => ?_)
      · obtain ⟨l, hl60, el⟩ := inv_tp hE (by omega) hc2
        rw [el] at hc3
        obtain ⟨j, hj, rfl⟩ := pl_of hl60 hc3
        have hrx := it_ix (t := t) (k := j) ht (by omega) rfl
        refine g_aload_0 hX (dk DX12_read 22 rfl) ?_
        refine g_getRs (r := 38) hX (dk DX12_read 23 rfl) KX12 fX12_226 (by decide) rfl (MLt hM (by decide)) (MC hM) (MR hM 71 (by decide) rfl) ?_
        refine g_bipush (v := 60) hX (dk DX12_read 24 rfl) (by decide) ?_
        refine g_iload_1 hX (dk DX12_read 25 rfl) ?_
        refine g_imul hX (dk DX12_read 26 rfl) ?_
        refine g_iload_2 hX (dk DX12_read 27 rfl) ?_
        refine g_iadd hX (dk DX12_read 28 rfl) ?_
        refine v_laload hX (dk DX12_read 29 rfl) (MLt hM (q := 38) (by decide)) (MS hM 38 (by decide) rfl) (hrx) (congrFun hl _) ?_
        refine g_lreturn hX (dk DX12_read 30 rfl) rfl (by decide) (by decide) ?_
        exact qSL_of hM hl (by unfold readF; (try rw [tN_nI (by omega)]); (try rw [tN_nI (by omega)]); (try rw [el]); (try first | rw [if_pos hc1] | rw [if_neg hc1] | rw [if_neg (not_not_intro hc1)]); (try first | rw [if_pos hc2] | rw [if_neg hc2] | rw [if_neg (not_not_intro hc2)]); (try first | rw [if_pos hc3] | rw [if_neg hc3] | rw [if_neg (not_not_intro hc3)]); first | done | rfl) hR
      · refine g_ldc2_w (v := -9223372036854775808) hX (dk DX12_read 20 rfl) (tg_7 4 rfl rfl) ?_
        refine g_goto (tgt := 51) hX (dk DX12_read 21 rfl) (by decide) ?_
        refine g_lreturn hX (dk DX12_read 30 rfl) rfl (by decide) (by decide) ?_
        exact qSL_of hM hl (by unfold readF; (try rw [tN_nI (by omega)]); (try rw [tN_nI (by omega)]); (try rw [el]); (try first | rw [if_pos hc1] | rw [if_neg hc1] | rw [if_neg (not_not_intro hc1)]); (try first | rw [if_pos hc2] | rw [if_neg hc2] | rw [if_neg (not_not_intro hc2)]); (try first | rw [if_pos hc3] | rw [if_neg hc3] | rw [if_neg (not_not_intro hc3)]); first | done | rfl) hR

