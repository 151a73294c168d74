set_option maxRecDepth 8000 in
set_option maxHeartbeats 4000000 in
theorem c_X12_doing {G : Gt} (hG : Gok G) {I : It} {h : Ht} (hM : HM h) {E : It} (hE : Inv E) (hR : RM E I) {L : Nat → Int64} (hl : hL h 38 = L) {k n r p c d : Int32} : Con G (3) 0 0 mX12_doing [.ref 0, .int k, .int n, .int r, .int p, .int c, .int d] I h (qS (doingS E k n r p c d) L) := by
  refine con_intro (own := RX12) (lo0 := [some (.ref 0), some (.int k), some (.int n), some (.int r), some (.int p), some (.int c), some (.int d), none]) hG rfl pl_X12 (Nat.le_of_ble_eq_true rfl) rfl (fun X hX => ?_)
  refine g_aload_0 hX (dk DX12_doing_0 0 rfl) ?_
  refine g_iload_1 hX (dk DX12_doing_0 1 rfl) ?_
  refine g_iconst (v := 0) hX (dk DX12_doing_0 2 rfl) (by decide) ?_
  refine g_bipush (v := 6) hX (dk DX12_doing_0 3 rfl) (by decide) ?_
  refine g_c4I hX sX12_doing_5 (by decide) (Nat.le_of_ble_eq_true rfl) (rc0 rfl (MLt hM (by decide)) (MC hM)) (by decide) (by decide) (c_X12_in hG ) ?_
  refine g_ifb_ne (tgt := 13) hX (dk DX12_doing_0 5 rfl) (by decide) (fun hc1 => ?_) (fun hc1 => ?_)
  · refine g_aload_0 hX (dk DX12_doing_0 8 rfl) ?_
    refine g_iload_2 hX (dk DX12_doing_0 9 rfl) ?_
    refine g_iconst (v := 0) hX (dk DX12_doing_0 10 rfl) (by decide) ?_
    refine g_bipush (v := 9) hX (dk DX12_doing_0 11 rfl) (by decide) ?_
    refine g_c4I hX sX12_doing_18 (by decide) (Nat.le_of_ble_eq_true rfl) (rc0 rfl (MLt hM (by decide)) (MC hM)) (by decide) (by decide) (c_X12_in hG ) ?_
    refine g_ifb_eq (tgt := 72) hX (dk DX12_doing_0 13 rfl) (by decide) (fun hc2 => ?_) (fun hc2 => ?_)
    · refine g_bipush (v := -2) hX (dk DX12_doing_0 40 rfl) (by decide) ?_
      refine g_ireturn hX (dk DX12_doing_0 41 rfl) rfl (rfl) (by decide) (by decide) ?_
      exact qS_of hM hl (by unfold doingS; (try first | rw [if_pos hc1] | rw [if_neg hc1] | rw [if_neg (not_not_intro hc1)]); (try first | rw [if_pos hc2] | rw [if_neg hc2] | rw [if_neg (not_not_intro hc2)]); first | done | rfl) hR
    · refine g_aload_0 hX (dk DX12_doing_0 14 rfl) ?_
      refine g_iload_3 hX (dk DX12_doing_0 15 rfl) ?_
      refine g_iconst (v := 1) hX (dk DX12_doing_0 16 rfl) (by decide) ?_
      refine g_bipush (v := 60) hX (dk DX12_doing_0 17 rfl) (by decide) ?_
      refine g_c4I hX sX12_doing_29 (by decide) (Nat.le_of_ble_eq_true rfl) (rc0 rfl (MLt hM (by decide)) (MC hM)) (by decide) (by decide) (c_X12_in hG ) ?_
      refine g_ifb_eq (tgt := 72) hX (dk DX12_doing_0 19 rfl) (by decide) (fun hc3 => ?_) (fun hc3 => ?_)
      · refine g_bipush (v := -2) hX (dk DX12_doing_0 40 rfl) (by decide) ?_
        refine g_ireturn hX (dk DX12_doing_0 41 rfl) rfl (rfl) (by decide) (by decide) ?_
        exact qS_of hM hl (by unfold doingS; (try first | rw [if_pos hc1] | rw [if_neg hc1] | rw [if_neg (not_not_intro hc1)]); (try first | rw [if_pos hc2] | rw [if_neg hc2] | rw [if_neg (not_not_intro hc2)]); (try first | rw [if_pos hc3] | rw [if_neg hc3] | rw [if_neg (not_not_intro hc3)]); first | done | rfl) hR
      · refine g_aload_0 hX (dk DX12_doing_0 20 rfl) ?_
        refine g_iload_4 hX (dk DX12_doing_0 21 rfl) ?_
        refine g_iconst (v := 0) hX (dk DX12_doing_0 22 rfl) (by decide) ?_
        refine g_iload_3 hX (dk DX12_doing_0 23 rfl) ?_
        refine g_iconst (v := 1) hX (dk DX12_doing_0 24 rfl) (by decide) ?_
        refine g_isub hX (dk DX12_doing_0 25 rfl) ?_
        refine g_c4I hX sX12_doing_42 (by decide) (Nat.le_of_ble_eq_true rfl) (rc0 rfl (MLt hM (by decide)) (MC hM)) (by decide) (by decide) (c_X12_in hG ) ?_
        refine g_ifb_eq (tgt := 72) hX (dk DX12_doing_0 27 rfl) (by decide) (fun hc4 => ?_) (fun hc4 => ?_)
        · refine g_bipush (v := -2) hX (dk DX12_doing_0 40 rfl) (by decide) ?_
          refine g_ireturn hX (dk DX12_doing_0 41 rfl) rfl (rfl) (by decide) (by decide) ?_
          exact qS_of hM hl (by unfold doingS; (try first | rw [if_pos hc1] | rw [if_neg hc1] | rw [if_neg (not_not_intro hc1)]); (try first | rw [if_pos hc2] | rw [if_neg hc2] | rw [if_neg (not_not_intro hc2)]); (try first | rw [if_pos hc3] | rw [if_neg hc3] | rw [if_neg (not_not_intro hc3)]); (try first | rw [if_pos hc4] | rw [if_neg hc4] | rw [if_neg (not_not_intro hc4)]); first | done | rfl) hR
        · refine g_aload_0 hX (dk DX12_doing_0 28 rfl) ?_
          refine g_iload_5 hX (dk DX12_doing_0 29 rfl) ?_
          refine g_iconst (v := 0) hX (dk DX12_doing_0 30 rfl) (by decide) ?_
          refine g_bipush (v := 99) hX (dk DX12_doing_0 31 rfl) (by decide) ?_
          refine g_c4I hX sX12_doing_54 (by decide) (Nat.le_of_ble_eq_true rfl) (rc0 rfl (MLt hM (by decide)) (MC hM)) (by decide) (by decide) (c_X12_in hG ) ?_
          refine g_ifb_eq (tgt := 72) hX (dk DX12_doing_0 33 rfl) (by decide) (fun hc5 => ?_) (fun hc5 => ?_)
          · refine g_bipush (v := -2) hX (dk DX12_doing_0 40 rfl) (by decide) ?_
            refine g_ireturn hX (dk DX12_doing_0 41 rfl) rfl (rfl) (by decide) (by decide) ?_
            exact qS_of hM hl (by unfold doingS; (try first | rw [if_pos hc1] | rw [if_neg hc1] | rw [if_neg (not_not_intro hc1)]); (try first | rw [if_pos hc2] | rw [if_neg hc2] | rw [if_neg (not_not_intro hc2)]); (try first | rw [if_pos hc3] | rw [if_neg hc3] | rw [if_neg (not_not_intro hc3)]); (try first | rw [if_pos hc4] | rw [if_neg hc4] | rw [if_neg (not_not_intro hc4)]); (try first | rw [if_pos hc5] | rw [if_neg hc5] | rw [if_neg (not_not_intro hc5)]); first | done | rfl) hR
          · refine g_aload_0 hX (dk DX12_doing_0 34 rfl) ?_
            refine g_iload_6 hX (dk DX12_doing_0 35 rfl) ?_
            refine g_iconst (v := 0) hX (dk DX12_doing_0 36 rfl) (by decide) ?_
            refine g_bipush (v := 99) hX (dk DX12_doing_0 37 rfl) (by decide) ?_
            refine g_c4I hX sX12_doing_66 (by decide) (Nat.le_of_ble_eq_true rfl) (rc0 rfl (MLt hM (by decide)) (MC hM)) (by decide) (by decide) (c_X12_in hG ) ?_
            refine g_ifb_ne (tgt := 75) hX (dk DX12_doing_0 39 rfl) (by decide) (fun hc6 => ?_) (fun hc6 => ?_)
            · refine g_aload_0 hX (dk DX12_doing_0 42 rfl) ?_
              refine g_getIv hX (dk DX12_doing_0 43 rfl) KX12 fX12_7 (by decide) rfl (MLt hM (by decide)) (MC hM) (RM.f hR 0 (by decide) (by decide)) ?_
              refine g_bipush (v := 10) hX (dk DX12_doing_0 44 rfl) (by decide) ?_
              refine g_icmp_ne (tgt := 87) hX (dk DX12_doing_0 45 rfl) (by decide) (fun hc7 => ?_) (fun hc7 => ?_)
              · have hix := dg_ix hE hc7
                refine g_aload_0 hX (dk DX12_doing_0 48 rfl) ?_
                refine g_getIv hX (dk DX12_doing_0 49 rfl) KX12 fX12_7 (by decide) rfl (MLt hM (by decide)) (MC hM) (RM.f hR 0 (by decide) (by decide)) ?_
                refine g_istore_7 hX (dk DX12_doing_0 50 rfl) (by decide) rfl ?_
                refine g_aload_0 hX (dk DX12_doing_0 51 rfl) ?_
                refine g_getRs (r := 1) hX (dk DX12_doing_0 52 rfl) KX12 fX12_31 (by decide) rfl (MLt hM (by decide)) (MC hM) (MR hM 7 (by decide) rfl) ?_
                refine g_iload_7 hX (dk DX12_doing_0 53 rfl) ?_
                refine g_iload_1 hX (dk DX12_doing_0 54 rfl) ?_
                refine i_iastore hX (dk DX12_doing_0 55 rfl) (MLt hM (q := 1) (by decide)) (MS hM 1 (by decide) rfl) (hix) ?_
                refine g_aload_0 hX (dk DX12_doing_0 56 rfl) ?_
                refine g_getRs (r := 2) hX (dk DX12_doing_0 57 rfl) KX12 fX12_35 (by decide) rfl (MLt hM (by decide)) (MC hM) (MR hM 8 (by decide) rfl) ?_
                refine g_iload_7 hX (dk DX12_doing_0 58 rfl) ?_
                refine g_iload_2 hX (dk DX12_doing_0 59 rfl) ?_
                refine i_iastore hX (dk DX12_doing_1 0 rfl) (MLt hM (q := 2) (by decide)) (MS hM 2 (by decide) rfl) (hix) ?_
                refine g_aload_0 hX (dk DX12_doing_1 1 rfl) ?_
                refine g_getRs (r := 3) hX (dk DX12_doing_1 2 rfl) KX12 fX12_38 (by decide) rfl (MLt hM (by decide)) (MC hM) (MR hM 9 (by decide) rfl) ?_
                refine g_iload_7 hX (dk DX12_doing_1 3 rfl) ?_
                refine g_iload_3 hX (dk DX12_doing_1 4 rfl) ?_
                refine i_iastore hX (dk DX12_doing_1 5 rfl) (MLt hM (q := 3) (by decide)) (MS hM 3 (by decide) rfl) (hix) ?_
                refine g_aload_0 hX (dk DX12_doing_1 6 rfl) ?_
                refine g_getRs (r := 4) hX (dk DX12_doing_1 7 rfl) KX12 fX12_41 (by decide) rfl (MLt hM (by decide)) (MC hM) (MR hM 10 (by decide) rfl) ?_
                refine g_iload_7 hX (dk DX12_doing_1 8 rfl) ?_
                refine g_iload_4 hX (dk DX12_doing_1 9 rfl) ?_
                refine i_iastore hX (dk DX12_doing_1 10 rfl) (MLt hM (q := 4) (by decide)) (MS hM 4 (by decide) rfl) (hix) ?_
                refine g_aload_0 hX (dk DX12_doing_1 11 rfl) ?_
                refine g_getRs (r := 5) hX (dk DX12_doing_1 12 rfl) KX12 fX12_44 (by decide) rfl (MLt hM (by decide)) (MC hM) (MR hM 11 (by decide) rfl) ?_
                refine g_iload_7 hX (dk DX12_doing_1 13 rfl) ?_
                refine g_iload_5 hX (dk DX12_doing_1 14 rfl) ?_
                refine i_iastore hX (dk DX12_doing_1 15 rfl) (MLt hM (q := 5) (by decide)) (MS hM 5 (by decide) rfl) (hix) ?_
                refine g_aload_0 hX (dk DX12_doing_1 16 rfl) ?_
                refine g_getRs (r := 6) hX (dk DX12_doing_1 17 rfl) KX12 fX12_47 (by decide) rfl (MLt hM (by decide)) (MC hM) (MR hM 12 (by decide) rfl) ?_
                refine g_iload_7 hX (dk DX12_doing_1 18 rfl) ?_
                refine g_iload_6 hX (dk DX12_doing_1 19 rfl) ?_
                refine i_iastore hX (dk DX12_doing_1 20 rfl) (MLt hM (q := 6) (by decide)) (MS hM 6 (by decide) rfl) (hix) ?_
                refine g_aload_0 hX (dk DX12_doing_1 21 rfl) ?_
                refine g_getRs (r := 7) hX (dk DX12_doing_1 22 rfl) KX12 fX12_50 (by decide) rfl (MLt hM (by decide)) (MC hM) (MR hM 13 (by decide) rfl) ?_
                refine g_iload_7 hX (dk DX12_doing_1 23 rfl) ?_
                refine g_iconst (v := 5) hX (dk DX12_doing_1 24 rfl) (by decide) ?_
                refine i_iastore hX (dk DX12_doing_1 25 rfl) (MLt hM (q := 7) (by decide)) (MS hM 7 (by decide) rfl) (hix) ?_
                refine g_aload_0 hX (dk DX12_doing_1 26 rfl) ?_
                refine g_aload_0 hX (dk DX12_doing_1 27 rfl) ?_
                refine g_aload_0 hX (dk DX12_doing_1 28 rfl) ?_
                refine g_getIv hX (dk DX12_doing_1 29 rfl) KX12 fX12_25 (by decide) rfl (MLt hM (by decide)) (MC hM) (RM.f hR 5 (by decide) (by decide)) ?_
                refine g_iload_7 hX (dk DX12_doing_1 30 rfl) ?_
                refine g_iconst (v := 0) hX (dk DX12_doing_1 31 rfl) (by decide) ?_
                refine g_c4I hX sX12_doing_161 (by decide) (Nat.le_of_ble_eq_true rfl) (rc0 rfl (MLt hM (by decide)) (MC hM)) (by decide) (by decide) (c_X12_with hG ) ?_
                refine g_putI hX (dk DX12_doing_1 33 rfl) KX12 fX12_25 (by decide) rfl (MLt hM (by decide)) (MC hM) (Or.inl rfl) (rfl) (rfl) ?_
                refine g_aload_0 hX (dk DX12_doing_1 34 rfl) ?_
                refine g_aload_0 hX (dk DX12_doing_1 35 rfl) ?_
                refine g_aload_0 hX (dk DX12_doing_1 36 rfl) ?_
                refine g_getIv hX (dk DX12_doing_1 37 rfl) KX12 fX12_28 (by decide) rfl (MLt hM (by decide)) (MC hM) (RM.f hR 6 (by decide) (by decide)) ?_
                refine g_iload_7 hX (dk DX12_doing_1 38 rfl) ?_
                refine g_iconst (v := 0) hX (dk DX12_doing_1 39 rfl) (by decide) ?_
                refine g_c4I hX sX12_doing_176 (by decide) (Nat.le_of_ble_eq_true rfl) (rc0 rfl (MLt hM (by decide)) (MC hM)) (by decide) (by decide) (c_X12_with hG ) ?_
                refine g_putI hX (dk DX12_doing_1 41 rfl) KX12 fX12_28 (by decide) rfl (MLt hM (by decide)) (MC hM) (Or.inl rfl) (rfl) (rfl) ?_
                refine g_aload_0 hX (dk DX12_doing_1 42 rfl) ?_
                refine g_dup hX (dk DX12_doing_1 43 rfl) rfl ?_
                refine g_getIv hX (dk DX12_doing_1 44 rfl) KX12 fX12_7 (by decide) rfl (MLt hM (by decide)) (MC hM) (RM.f hR 0 (by decide) (by decide)) ?_
                refine g_iconst (v := 1) hX (dk DX12_doing_1 45 rfl) (by decide) ?_
                refine g_iadd hX (dk DX12_doing_1 46 rfl) ?_
                refine g_putI hX (dk DX12_doing_1 47 rfl) KX12 fX12_7 (by decide) rfl (MLt hM (by decide)) (MC hM) (Or.inl rfl) (rfl) (rfl) ?_
                refine g_iload_7 hX (dk DX12_doing_1 48 rfl) ?_
                refine g_ireturn hX (dk DX12_doing_1 49 rfl) rfl (rfl) (by decide) (by decide) ?_
                exact qS_of hM hl (by unfold doingS; (try first | rw [if_pos hc1] | rw [if_neg hc1] | rw [if_neg (not_not_intro hc1)]); (try first | rw [if_pos hc2] | rw [if_neg hc2] | rw [if_neg (not_not_intro hc2)]); (try first | rw [if_pos hc3] | rw [if_neg hc3] | rw [if_neg (not_not_intro hc3)]); (try first | rw [if_pos hc4] | rw [if_neg hc4] | rw [if_neg (not_not_intro hc4)]); (try first | rw [if_pos hc5] | rw [if_neg hc5] | rw [if_neg (not_not_intro hc5)]); (try first | rw [if_pos hc6] | rw [if_neg hc6] | rw [if_neg (not_not_intro hc6)]); (try first | rw [if_pos hc7] | rw [if_neg hc7] | rw [if_neg (not_not_intro hc7)]); first | done | rfl) (RM.upf (RM.upf (RM.upf (RM.upc (RM.upc (RM.upc (RM.upc (RM.upc (RM.upc (RM.upc hR (by decide)) (by decide)) (by decide)) (by decide)) (by decide)) (by decide)) (by decide)) (by decide)) (by decide)) (by decide))
              · refine g_bipush (v := -4) hX (dk DX12_doing_0 46 rfl) (by decide) ?_
                refine g_ireturn hX (dk DX12_doing_0 47 rfl) rfl (rfl) (by decide) (by decide) ?_
                exact qS_of hM hl (by unfold doingS; (try first | rw [if_pos hc1] | rw [if_neg hc1] | rw [if_neg (not_not_intro hc1)]); (try first | rw [if_pos hc2] | rw [if_neg hc2] | rw [if_neg (not_not_intro hc2)]); (try first | rw [if_pos hc3] | rw [if_neg hc3] | rw [if_neg (not_not_intro hc3)]); (try first | rw [if_pos hc4] | rw [if_neg hc4] | rw [if_neg (not_not_intro hc4)]); (try first | rw [if_pos hc5] | rw [if_neg hc5] | rw [if_neg (not_not_intro hc5)]); (try first | rw [if_pos hc6] | rw [if_neg hc6] | rw [if_neg (not_not_intro hc6)]); (try first | rw [if_pos hc7] | rw [if_neg hc7] | rw [if_neg (not_not_intro hc7)]); first | done | rfl) hR
            · refine g_bipush (v := -2) hX (dk DX12_doing_0 40 rfl) (by decide) ?_
              refine g_ireturn hX (dk DX12_doing_0 41 rfl) rfl (rfl) (by decide) (by decide) ?_
              exact qS_of hM hl (by unfold doingS; (try first | rw [if_pos hc1] | rw [if_neg hc1] | rw [if_neg (not_not_intro hc1)]); (try first | rw [if_pos hc2] | rw [if_neg hc2] | rw [if_neg (not_not_intro hc2)]); (try first | rw [if_pos hc3] | rw [if_neg hc3] | rw [if_neg (not_not_intro hc3)]); (try first | rw [if_pos hc4] | rw [if_neg hc4] | rw [if_neg (not_not_intro hc4)]); (try first | rw [if_pos hc5] | rw [if_neg hc5] | rw [if_neg (not_not_intro hc5)]); (try first | rw [if_pos hc6] | rw [if_neg hc6] | rw [if_neg (not_not_intro hc6)]); first | done | rfl) hR
  · refine g_iconst (v := -1) hX (dk DX12_doing_0 6 rfl) (by decide) ?_
    refine g_ireturn hX (dk DX12_doing_0 7 rfl) rfl (rfl) (by decide) (by decide) ?_
    exact qS_of hM hl (by unfold doingS; (try first | rw [if_pos hc1] | rw [if_neg hc1] | rw [if_neg (not_not_intro hc1)]); first | done | rfl) hR

set_option maxRecDepth 8000 in
set_option maxHeartbeats 4000000 in
theorem c_X12_act {G : Gt} (hG : Gok G) {I : It} {h : Ht} (hM : HM h) {E : It} (hE : Inv E) (hR : RM E I) {L : Nat → Int64} (hl : hL h 38 = L) {a w x : Int32} : Con G (9) 0 0 mX12_act [.ref 0, .int a, .int w, .int x] I h (qS (actS E a w x) L) := by
  refine con_intro (own := RX12) (lo0 := [some (.ref 0), some (.int a), some (.int w), some (.int x)]) hG rfl pl_X12 (Nat.le_of_ble_eq_true rfl) rfl (fun X hX => ?_)
  refine g_aload_0 hX (dk DX12_act 0 rfl) ?_
  refine g_iconst (v := 0) hX (dk DX12_act 1 rfl) (by decide) ?_
  refine g_putI hX (dk DX12_act 2 rfl) KX12 fX12_214 (by decide) rfl (MLt hM (by decide)) (MC hM) (Or.inl rfl) (rfl) (rfl) ?_
  refine g_aload_0 hX (dk DX12_act 3 rfl) ?_
  refine g_iload_1 hX (dk DX12_act 4 rfl) ?_
  refine g_c2I hX sX12_act_7 (by decide) (Nat.le_of_ble_eq_true rfl) (rc0 rfl (MLt hM (by decide)) (MC hM)) (by decide) (by decide) (cE_isDoing hG hM (I := upI I 0 67 0) (E := E) (RM.f hR 0 (by decide) (by decide))) ?_
  refine g_ifb_eq (tgt := 23) hX (dk DX12_act 6 rfl) (by decide) (fun hc1 => ?_) (fun hc1 => ?_)
  · refine g_iconst (v := 0) hX (dk DX12_act 13 rfl) (by decide) ?_
    refine g_ireturn hX (dk DX12_act 14 rfl) rfl (rfl) (by decide) (by decide) ?_
    exact qS_of hM hl (by unfold actS; (try first | rw [if_pos hc1] | rw [if_neg hc1] | rw [if_neg (not_not_intro hc1)]); first | done | rfl) (RM.upf hR (by decide))
  · obtain ⟨d, hd, rfl⟩ := isD_of hE hc1
    have hd10 := Nat.lt_of_lt_of_le hd (inv_cnt hE).2
    refine g_aload_0 hX (dk DX12_act 7 rfl) ?_
    refine g_iload_2 hX (dk DX12_act 8 rfl) ?_
    refine g_iconst (v := 0) hX (dk DX12_act 9 rfl) (by decide) ?_
    refine g_iconst (v := 2) hX (dk DX12_act 10 rfl) (by decide) ?_
    refine g_c4I hX sX12_act_17 (by decide) (Nat.le_of_ble_eq_true rfl) (rc0 rfl (MLt hM (by decide)) (MC hM)) (by decide) (by decide) (c_X12_in hG ) ?_
    refine g_ifb_ne (tgt := 25) hX (dk DX12_act 12 rfl) (by decide) (fun hc2 => ?_) (fun hc2 => ?_)
    · have hA := Ag.keep (Ag.of hR (by decide) (by decide)) (Fr.pf (F := [67]) (C := []) (j := 67) (x := 0) Fr.rf (by decide)) (by decide) (by decide)
      have hr : upI I 0 67 0 0 67 = nI 0 := up0 _ _ _ _
      refine g_iload_2 hX (dk DX12_act 15 rfl) ?_
      refine g_if_ne (tgt := 38) hX (dk DX12_act 16 rfl) (by decide) (fun hc3 => ?_) (fun hc3 => ?_)
      · refine g_iload_2 hX (dk DX12_act 22 rfl) ?_
        refine g_iconst (v := 1) hX (dk DX12_act 23 rfl) (by decide) ?_
        refine g_icmp_ne (tgt := 52) hX (dk DX12_act 24 rfl) (by decide) (fun hc4 => ?_) (fun hc4 => ?_)
        · refine g_aload_0 hX (dk DX12_act 30 rfl) ?_
          refine g_iload_1 hX (dk DX12_act 31 rfl) ?_
          refine g_iload_3 hX (dk DX12_act 32 rfl) ?_
          refine g_c3I hX sX12_act_55 (by decide) (Nat.le_of_ble_eq_true rfl) (rc0 rfl (MLt hM (by decide)) (MC hM)) (by decide) (by decide) (c_X12_tellsAct hG hM hA hd10 hr (by decide)) ?_
          refine g_ireturn hX (dk DX12_act 34 rfl) rfl (rfl) (by decide) (by decide) ?_
          exact qS_of hM hl (by unfold actS; rw [tN_nI (by omega)]; (try first | rw [if_pos hc1] | rw [if_neg hc1] | rw [if_neg (not_not_intro hc1)]); (try first | rw [if_pos hc2] | rw [if_neg hc2] | rw [if_neg (not_not_intro hc2)]); (try first | rw [if_pos hc3] | rw [if_neg hc3] | rw [if_neg (not_not_intro hc3)]); (try first | rw [if_pos hc4] | rw [if_neg hc4] | rw [if_neg (not_not_intro hc4)]); first | done | rfl) (RM_putB _ (RM.upf hR (by decide)))
        · refine g_aload_0 hX (dk DX12_act 25 rfl) ?_
          refine g_iload_1 hX (dk DX12_act 26 rfl) ?_
          refine g_iload_3 hX (dk DX12_act 27 rfl) ?_
          refine g_c3I hX sX12_act_46 (by decide) (Nat.le_of_ble_eq_true rfl) (rc0 rfl (MLt hM (by decide)) (MC hM)) (by decide) (by decide) (c_X12_holdsAct hG hM hA hd10 hr (by decide)) ?_
          refine g_goto (tgt := 58) hX (dk DX12_act 29 rfl) (by decide) ?_
          refine g_ireturn hX (dk DX12_act 34 rfl) rfl (rfl) (by decide) (by decide) ?_
          exact qS_of hM hl (by unfold actS; rw [tN_nI (by omega)]; (try first | rw [if_pos hc1] | rw [if_neg hc1] | rw [if_neg (not_not_intro hc1)]); (try first | rw [if_pos hc2] | rw [if_neg hc2] | rw [if_neg (not_not_intro hc2)]); (try first | rw [if_pos hc3] | rw [if_neg hc3] | rw [if_neg (not_not_intro hc3)]); (try first | rw [if_pos hc4] | rw [if_neg hc4] | rw [if_neg (not_not_intro hc4)]); first | done | rfl) (RM_putB _ (RM.upf hR (by decide)))
      · refine g_aload_0 hX (dk DX12_act 17 rfl) ?_
        refine g_iload_1 hX (dk DX12_act 18 rfl) ?_
        refine g_iload_3 hX (dk DX12_act 19 rfl) ?_
        refine g_c3I hX sX12_act_32 (by decide) (Nat.le_of_ble_eq_true rfl) (rc0 rfl (MLt hM (by decide)) (MC hM)) (by decide) (by decide) (c_X12_saysAct hG hM hA hd10 hr (by decide)) ?_
        refine g_goto (tgt := 58) hX (dk DX12_act 21 rfl) (by decide) ?_
        refine g_ireturn hX (dk DX12_act 34 rfl) rfl (rfl) (by decide) (by decide) ?_
        exact qS_of hM hl (by unfold actS; rw [tN_nI (by omega)]; (try first | rw [if_pos hc1] | rw [if_neg hc1] | rw [if_neg (not_not_intro hc1)]); (try first | rw [if_pos hc2] | rw [if_neg hc2] | rw [if_neg (not_not_intro hc2)]); (try first | rw [if_pos hc3] | rw [if_neg hc3] | rw [if_neg (not_not_intro hc3)]); first | done | rfl) (RM_putB _ (RM.upf hR (by decide)))
    · refine g_iconst (v := 0) hX (dk DX12_act 13 rfl) (by decide) ?_
      refine g_ireturn hX (dk DX12_act 14 rfl) rfl (rfl) (by decide) (by decide) ?_
      exact qS_of hM hl (by unfold actS; (try first | rw [if_pos hc1] | rw [if_neg hc1] | rw [if_neg (not_not_intro hc1)]); (try first | rw [if_pos hc2] | rw [if_neg hc2] | rw [if_neg (not_not_intro hc2)]); first | done | rfl) (RM.upf hR (by decide))

