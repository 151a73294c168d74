set_option maxRecDepth 8000 in
set_option maxHeartbeats 4000000 in
theorem x_tape {G : Gt} (hG : Gok G) {I : It} {h : Ht}  {E : It} {L : Nat → Int64} (hE : Inv E) (hY : RY E L I h) {a s n : Int32} : Con G (3) 0 0 mX11_tape [.ref 0, .int a, .int s, .int n] I h (qX (tapeS E a s n) (tapeL L a s n) (hn h)) := by
  refine con_intro (own := RX11) (lo0 := [some (.ref 0), some (.int a), some (.int s), some (.int n)]) hG rfl pl_X11 (Nat.le_of_ble_eq_true rfl) rfl (fun X hX => ?_)
  have hW := hY.wx hE
  have hH := hW.1
  have hc10 := hW.2.1.2
  refine g_iload_1 hX (dk DX11_tape 0 rfl) ?_
  refine g_iconst (v := 0) hX (dk DX11_tape 1 rfl) (by decide) ?_
  refine g_iconst (v := 5) hX (dk DX11_tape 2 rfl) (by decide) ?_
  refine g_c3I hX sX11_tape_3 (by decide) (Nat.le_of_ble_eq_true rfl) rcN (by decide) (by decide) (c_X11_isNot hG ) ?_
  refine g_ifb_eq (tgt := 11) hX (dk DX11_tape 4 rfl) (by decide) (fun hc1 => ?_) (fun hc1 => ?_)
  · obtain ⟨t, ht5, rfl⟩ := in_of (b := 5) (by decide) (Decidable.not_not.mp hc1)
    have ht : t < 6 := by omega
    have hT := hY.2.2.2.2.2.2.1 t ht
    refine g_iload_2 hX (dk DX11_tape 7 rfl) ?_
    refine g_iconst (v := -1) hX (dk DX11_tape 8 rfl) (by decide) ?_
    refine g_iconst (v := 4) hX (dk DX11_tape 9 rfl) (by decide) ?_
    refine g_c3I hX sX11_tape_14 (by decide) (Nat.le_of_ble_eq_true rfl) rcN (by decide) (by decide) (c_X11_isNot hG ) ?_
    refine g_ifb_ne (tgt := 31) hX (dk DX11_tape 11 rfl) (by decide) (fun hc2 => ?_) (fun hc2 => ?_)
    · refine g_bipush (v := -2) hX (dk DX11_tape 18 rfl) (by decide) ?_
      refine g_ireturn hX (dk DX11_tape 19 rfl) rfl (rfl) (by decide) (by decide) ?_
      first
      | exact absurd (show s = -1 by assumption) (show ¬ s = -1 by assumption)
      | exact tp2_of (by unfold tapeS; rw [if_neg hc1, if_pos (show ¬ (-1 ≤ s ∧ s ≤ 4) by assumption)]) (by unfold tapeL; rw [if_neg hc1, if_pos (show ¬ (-1 ≤ s ∧ s ≤ 4) by assumption)]; first | done | rfl) rfl hY
      | exact tp2_of (by unfold tapeS; rw [if_neg hc1, if_neg (show ¬ ¬ (-1 ≤ s ∧ s ≤ 4) by assumption), if_neg (s_nn (show ¬ ¬ (-1 ≤ s ∧ s ≤ 4) by assumption) (show ¬ s = -1 by assumption)), if_pos (show ¬ n ≤ 60 by assumption)]) (by unfold tapeL; rw [if_neg hc1, if_neg (show ¬ ¬ (-1 ≤ s ∧ s ≤ 4) by assumption), if_neg (s_nn (show ¬ ¬ (-1 ≤ s ∧ s ≤ 4) by assumption) (show ¬ s = -1 by assumption)), if_pos (show ¬ n ≤ 60 by assumption)]; first | done | rfl) rfl hY
    · refine g_iload_2 hX (dk DX11_tape 12 rfl) ?_
      refine g_iconst (v := -1) hX (dk DX11_tape 13 rfl) (by decide) ?_
      refine g_icmp_eq (tgt := 34) hX (dk DX11_tape 14 rfl) (by decide) (fun hc3 => ?_) (fun hc3 => ?_)
      · refine g_iload_2 hX (dk DX11_tape 20 rfl) ?_
        refine g_iconst (v := -1) hX (dk DX11_tape 21 rfl) (by decide) ?_
        refine g_icmp_eq (tgt := 46) hX (dk DX11_tape 22 rfl) (by decide) (fun hc4 => ?_) (fun hc4 => ?_)
        · refine g_aload_0 hX (dk DX11_tape 27 rfl) ?_
          refine g_getRs (r := 34) hX (dk DX11_tape 28 rfl) KX11 fX11_47 (by decide) rfl (CLt hH (q := 0) (by decide)) (CC hH 0 (by decide) rfl) (CR hH 0 9 34 (by decide)) ?_
          refine g_iload_1 hX (dk DX11_tape 29 rfl) ?_
          refine g_iload_2 hX (dk DX11_tape 30 rfl) ?_
          refine i_iastore hX (dk DX11_tape 31 rfl) (CLt hH (q := 34) (by decide)) (CS hH 34 (by decide) rfl) (⟨rfl, ht, by decide⟩) ?_
          refine g_aload_0 hX (dk DX11_tape 32 rfl) ?_
          refine g_getRs (r := 35) hX (dk DX11_tape 33 rfl) KX11 fX11_51 (by decide) rfl (CLt hH (q := 0) (by decide)) (CC hH 0 (by decide) rfl) (CR hH 0 10 35 (by decide)) ?_
          refine g_iload_1 hX (dk DX11_tape 34 rfl) ?_
          refine g_iload_2 hX (dk DX11_tape 35 rfl) ?_
          refine g_iconst (v := -1) hX (dk DX11_tape 36 rfl) (by decide) ?_
          refine g_icmp_ne (tgt := 67) hX (dk DX11_tape 37 rfl) (by decide) (fun hc5 => ?_) (fun hc5 => ?_)
          · refine g_iload_3 hX (dk DX11_tape 40 rfl) ?_
            refine i_iastore hX (dk DX11_tape 41 rfl) (CLt hH (q := 35) (by decide)) (CS hH 35 (by decide) rfl) (⟨rfl, ht, by decide⟩) ?_
            refine g_aload_0 hX (dk DX11_tape 42 rfl) ?_
            refine g_getRs (r := 36) hX (dk DX11_tape 43 rfl) KX11 fX11_56 (by decide) rfl (CLt hH (q := 0) (by decide)) (CC hH 0 (by decide) rfl) (CR hH 0 11 36 (by decide)) ?_
            refine g_iload_1 hX (dk DX11_tape 44 rfl) ?_
            refine i_aaload (i0 := 7) hX (dk DX11_tape 45 rfl) (CLt hH (q := 36) (by decide)) (CS hH 36 (by decide) rfl) (by decide) rfl rfl (⟨rfl, ht, by decide⟩) (IT_r hH ht) ?_
            refine g_lconst (v := 0) hX (dk DX11_tape 46 rfl) (by decide) ?_
            refine g_c2v hX sX11_tape_76 (by decide) (Nat.le_of_ble_eq_true rfl) rcN (by decide) (by decide) (c_J7_fill_d0a16 hG (len := 60) (IT_lt hH ht) (IT_sh hH ht) (by decide)) ?_
            rintro I9 h9 ⟨f1, -, f3, f4, f5, f6, rfl⟩
            refine g_iconst (v := 1) hX (dk DX11_tape 48 rfl) (by decide) ?_
            refine g_ireturn hX (dk DX11_tape 49 rfl) rfl (rfl) (by decide) (by decide) ?_
            first
            | exact absurd (show s = -1 by assumption) (show ¬ s = -1 by assumption)
            | exact tp2_of (E' := (upI (upI E 36 t s) 37 t 0)) (by unfold tapeS; rw [if_neg hc1, if_neg (show ¬ ¬ (-1 ≤ s ∧ s ≤ 4) by assumption), if_pos (s_m1 (show s = -1 by assumption)), tN_nI (by omega)]) (by unfold tapeL; rw [if_neg hc1, if_neg (show ¬ ¬ (-1 ≤ s ∧ s ≤ 4) by assumption), if_pos (s_m1 (show s = -1 by assumption)), tN_nI (by omega)]; first | done | rfl) f6 (hY.tape ht s 0 f1 f3 f4 f5 f6)
            | exact tp2_of (E' := (upI (upI E 36 t s) 37 t n)) (by unfold tapeS; rw [if_neg hc1, if_neg (show ¬ ¬ (-1 ≤ s ∧ s ≤ 4) by assumption), if_neg (s_nn (show ¬ ¬ (-1 ≤ s ∧ s ≤ 4) by assumption) (show ¬ s = -1 by assumption)), if_neg (show ¬ ¬ n ≤ 60 from not_not_intro (by assumption)), if_neg (show ¬ ¬ 0 ≤ n from not_not_intro (by assumption)), tN_nI (by omega)]) (by unfold tapeL; rw [if_neg hc1, if_neg (show ¬ ¬ (-1 ≤ s ∧ s ≤ 4) by assumption), if_neg (s_nn (show ¬ ¬ (-1 ≤ s ∧ s ≤ 4) by assumption) (show ¬ s = -1 by assumption)), if_neg (show ¬ ¬ n ≤ 60 from not_not_intro (by assumption)), if_neg (show ¬ ¬ 0 ≤ n from not_not_intro (by assumption)), tN_nI (by omega)]; first | done | rfl) f6 (hY.tape ht s n f1 f3 f4 f5 f6)
          · refine g_iconst (v := 0) hX (dk DX11_tape 38 rfl) (by decide) ?_
            refine g_goto (tgt := 68) hX (dk DX11_tape 39 rfl) (by decide) ?_
            refine i_iastore hX (dk DX11_tape 41 rfl) (CLt hH (q := 35) (by decide)) (CS hH 35 (by decide) rfl) (⟨rfl, ht, by decide⟩) ?_
            refine g_aload_0 hX (dk DX11_tape 42 rfl) ?_
            refine g_getRs (r := 36) hX (dk DX11_tape 43 rfl) KX11 fX11_56 (by decide) rfl (CLt hH (q := 0) (by decide)) (CC hH 0 (by decide) rfl) (CR hH 0 11 36 (by decide)) ?_
            refine g_iload_1 hX (dk DX11_tape 44 rfl) ?_
            refine i_aaload (i0 := 7) hX (dk DX11_tape 45 rfl) (CLt hH (q := 36) (by decide)) (CS hH 36 (by decide) rfl) (by decide) rfl rfl (⟨rfl, ht, by decide⟩) (IT_r hH ht) ?_
            refine g_lconst (v := 0) hX (dk DX11_tape 46 rfl) (by decide) ?_
            refine g_c2v hX sX11_tape_76 (by decide) (Nat.le_of_ble_eq_true rfl) rcN (by decide) (by decide) (c_J7_fill_d0a16 hG (len := 60) (IT_lt hH ht) (IT_sh hH ht) (by decide)) ?_
            rintro I9 h9 ⟨f1, -, f3, f4, f5, f6, rfl⟩
            refine g_iconst (v := 1) hX (dk DX11_tape 48 rfl) (by decide) ?_
            refine g_ireturn hX (dk DX11_tape 49 rfl) rfl (rfl) (by decide) (by decide) ?_
            first
            | exact absurd (show s = -1 by assumption) (show ¬ s = -1 by assumption)
            | exact tp2_of (E' := (upI (upI E 36 t s) 37 t 0)) (by unfold tapeS; rw [if_neg hc1, if_neg (show ¬ ¬ (-1 ≤ s ∧ s ≤ 4) by assumption), if_pos (s_m1 (show s = -1 by assumption)), tN_nI (by omega)]) (by unfold tapeL; rw [if_neg hc1, if_neg (show ¬ ¬ (-1 ≤ s ∧ s ≤ 4) by assumption), if_pos (s_m1 (show s = -1 by assumption)), tN_nI (by omega)]; first | done | rfl) f6 (hY.tape ht s 0 f1 f3 f4 f5 f6)
            | exact tp2_of (E' := (upI (upI E 36 t s) 37 t n)) (by unfold tapeS; rw [if_neg hc1, if_neg (show ¬ ¬ (-1 ≤ s ∧ s ≤ 4) by assumption), if_neg (s_nn (show ¬ ¬ (-1 ≤ s ∧ s ≤ 4) by assumption) (show ¬ s = -1 by assumption)), if_neg (show ¬ ¬ n ≤ 60 from not_not_intro (by assumption)), if_neg (show ¬ ¬ 0 ≤ n from not_not_intro (by assumption)), tN_nI (by omega)]) (by unfold tapeL; rw [if_neg hc1, if_neg (show ¬ ¬ (-1 ≤ s ∧ s ≤ 4) by assumption), if_neg (s_nn (show ¬ ¬ (-1 ≤ s ∧ s ≤ 4) by assumption) (show ¬ s = -1 by assumption)), if_neg (show ¬ ¬ n ≤ 60 from not_not_intro (by assumption)), if_neg (show ¬ ¬ 0 ≤ n from not_not_intro (by assumption)), tN_nI (by omega)]; first | done | rfl) f6 (hY.tape ht s n f1 f3 f4 f5 f6)
        · refine g_iload_3 hX (dk DX11_tape 23 rfl) ?_
          refine g_if_ge (tgt := 46) hX (dk DX11_tape 24 rfl) (by decide) (fun hc6 => ?_) (fun hc6 => ?_)
          · refine g_aload_0 hX (dk DX11_tape 27 rfl) ?_
            refine g_getRs (r := 34) hX (dk DX11_tape 28 rfl) KX11 fX11_47 (by decide) rfl (CLt hH (q := 0) (by decide)) (CC hH 0 (by decide) rfl) (CR hH 0 9 34 (by decide)) ?_
            refine g_iload_1 hX (dk DX11_tape 29 rfl) ?_
            refine g_iload_2 hX (dk DX11_tape 30 rfl) ?_
            refine i_iastore hX (dk DX11_tape 31 rfl) (CLt hH (q := 34) (by decide)) (CS hH 34 (by decide) rfl) (⟨rfl, ht, by decide⟩) ?_
            refine g_aload_0 hX (dk DX11_tape 32 rfl) ?_
            refine g_getRs (r := 35) hX (dk DX11_tape 33 rfl) KX11 fX11_51 (by decide) rfl (CLt hH (q := 0) (by decide)) (CC hH 0 (by decide) rfl) (CR hH 0 10 35 (by decide)) ?_
            refine g_iload_1 hX (dk DX11_tape 34 rfl) ?_
            refine g_iload_2 hX (dk DX11_tape 35 rfl) ?_
            refine g_iconst (v := -1) hX (dk DX11_tape 36 rfl) (by decide) ?_
            refine g_icmp_ne (tgt := 67) hX (dk DX11_tape 37 rfl) (by decide) (fun hc7 => ?_) (fun hc7 => ?_)
            · refine g_iload_3 hX (dk DX11_tape 40 rfl) ?_
              refine i_iastore hX (dk DX11_tape 41 rfl) (CLt hH (q := 35) (by decide)) (CS hH 35 (by decide) rfl) (⟨rfl, ht, by decide⟩) ?_
              refine g_aload_0 hX (dk DX11_tape 42 rfl) ?_
              refine g_getRs (r := 36) hX (dk DX11_tape 43 rfl) KX11 fX11_56 (by decide) rfl (CLt hH (q := 0) (by decide)) (CC hH 0 (by decide) rfl) (CR hH 0 11 36 (by decide)) ?_
              refine g_iload_1 hX (dk DX11_tape 44 rfl) ?_
              refine i_aaload (i0 := 7) hX (dk DX11_tape 45 rfl) (CLt hH (q := 36) (by decide)) (CS hH 36 (by decide) rfl) (by decide) rfl rfl (⟨rfl, ht, by decide⟩) (IT_r hH ht) ?_
              refine g_lconst (v := 0) hX (dk DX11_tape 46 rfl) (by decide) ?_
              refine g_c2v hX sX11_tape_76 (by decide) (Nat.le_of_ble_eq_true rfl) rcN (by decide) (by decide) (c_J7_fill_d0a16 hG (len := 60) (IT_lt hH ht) (IT_sh hH ht) (by decide)) ?_
              rintro I9 h9 ⟨f1, -, f3, f4, f5, f6, rfl⟩
              refine g_iconst (v := 1) hX (dk DX11_tape 48 rfl) (by decide) ?_
              refine g_ireturn hX (dk DX11_tape 49 rfl) rfl (rfl) (by decide) (by decide) ?_
              first
              | exact absurd (show s = -1 by assumption) (show ¬ s = -1 by assumption)
              | exact tp2_of (E' := (upI (upI E 36 t s) 37 t 0)) (by unfold tapeS; rw [if_neg hc1, if_neg (show ¬ ¬ (-1 ≤ s ∧ s ≤ 4) by assumption), if_pos (s_m1 (show s = -1 by assumption)), tN_nI (by omega)]) (by unfold tapeL; rw [if_neg hc1, if_neg (show ¬ ¬ (-1 ≤ s ∧ s ≤ 4) by assumption), if_pos (s_m1 (show s = -1 by assumption)), tN_nI (by omega)]; first | done | rfl) f6 (hY.tape ht s 0 f1 f3 f4 f5 f6)
              | exact tp2_of (E' := (upI (upI E 36 t s) 37 t n)) (by unfold tapeS; rw [if_neg hc1, if_neg (show ¬ ¬ (-1 ≤ s ∧ s ≤ 4) by assumption), if_neg (s_nn (show ¬ ¬ (-1 ≤ s ∧ s ≤ 4) by assumption) (show ¬ s = -1 by assumption)), if_neg (show ¬ ¬ n ≤ 60 from not_not_intro (by assumption)), if_neg (show ¬ ¬ 0 ≤ n from not_not_intro (by assumption)), tN_nI (by omega)]) (by unfold tapeL; rw [if_neg hc1, if_neg (show ¬ ¬ (-1 ≤ s ∧ s ≤ 4) by assumption), if_neg (s_nn (show ¬ ¬ (-1 ≤ s ∧ s ≤ 4) by assumption) (show ¬ s = -1 by assumption)), if_neg (show ¬ ¬ n ≤ 60 from not_not_intro (by assumption)), if_neg (show ¬ ¬ 0 ≤ n from not_not_intro (by assumption)), tN_nI (by omega)]; first | done | rfl) f6 (hY.tape ht s n f1 f3 f4 f5 f6)
            · refine g_iconst (v := 0) hX (dk DX11_tape 38 rfl) (by decide) ?_
              refine g_goto (tgt := 68) hX (dk DX11_tape 39 rfl) (by decide) ?_
              refine i_iastore hX (dk DX11_tape 41 rfl) (CLt hH (q := 35) (by decide)) (CS hH 35 (by decide) rfl) (⟨rfl, ht, by decide⟩) ?_
              refine g_aload_0 hX (dk DX11_tape 42 rfl) ?_
              refine g_getRs (r := 36) hX (dk DX11_tape 43 rfl) KX11 fX11_56 (by decide) rfl (CLt hH (q := 0) (by decide)) (CC hH 0 (by decide) rfl) (CR hH 0 11 36 (by decide)) ?_
              refine g_iload_1 hX (dk DX11_tape 44 rfl) ?_
              refine i_aaload (i0 := 7) hX (dk DX11_tape 45 rfl) (CLt hH (q := 36) (by decide)) (CS hH 36 (by decide) rfl) (by decide) rfl rfl (⟨rfl, ht, by decide⟩) (IT_r hH ht) ?_
              refine g_lconst (v := 0) hX (dk DX11_tape 46 rfl) (by decide) ?_
              refine g_c2v hX sX11_tape_76 (by decide) (Nat.le_of_ble_eq_true rfl) rcN (by decide) (by decide) (c_J7_fill_d0a16 hG (len := 60) (IT_lt hH ht) (IT_sh hH ht) (by decide)) ?_
              rintro I9 h9 ⟨f1, -, f3, f4, f5, f6, rfl⟩
              refine g_iconst (v := 1) hX (dk DX11_tape 48 rfl) (by decide) ?_
              refine g_ireturn hX (dk DX11_tape 49 rfl) rfl (rfl) (by decide) (by decide) ?_
              first
              | exact absurd (show s = -1 by assumption) (show ¬ s = -1 by assumption)
              | exact tp2_of (E' := (upI (upI E 36 t s) 37 t 0)) (by unfold tapeS; rw [if_neg hc1, if_neg (show ¬ ¬ (-1 ≤ s ∧ s ≤ 4) by assumption), if_pos (s_m1 (show s = -1 by assumption)), tN_nI (by omega)]) (by unfold tapeL; rw [if_neg hc1, if_neg (show ¬ ¬ (-1 ≤ s ∧ s ≤ 4) by assumption), if_pos (s_m1 (show s = -1 by assumption)), tN_nI (by omega)]; first | done | rfl) f6 (hY.tape ht s 0 f1 f3 f4 f5 f6)
              | exact tp2_of (E' := (upI (upI E 36 t s) 37 t n)) (by unfold tapeS; rw [if_neg hc1, if_neg (show ¬ ¬ (-1 ≤ s ∧ s ≤ 4) by assumption), if_neg (s_nn (show ¬ ¬ (-1 ≤ s ∧ s ≤ 4) by assumption) (show ¬ s = -1 by assumption)), if_neg (show ¬ ¬ n ≤ 60 from not_not_intro (by assumption)), if_neg (show ¬ ¬ 0 ≤ n from not_not_intro (by assumption)), tN_nI (by omega)]) (by unfold tapeL; rw [if_neg hc1, if_neg (show ¬ ¬ (-1 ≤ s ∧ s ≤ 4) by assumption), if_neg (s_nn (show ¬ ¬ (-1 ≤ s ∧ s ≤ 4) by assumption) (show ¬ s = -1 by assumption)), if_neg (show ¬ ¬ n ≤ 60 from not_not_intro (by assumption)), if_neg (show ¬ ¬ 0 ≤ n from not_not_intro (by assumption)), tN_nI (by omega)]; first | done | rfl) f6 (hY.tape ht s n f1 f3 f4 f5 f6)
          · refine g_bipush (v := -14) hX (dk DX11_tape 25 rfl) (by decide) ?_
            refine g_ireturn hX (dk DX11_tape 26 rfl) rfl (rfl) (by decide) (by decide) ?_
            first
            | exact absurd (show s = -1 by assumption) (show ¬ s = -1 by assumption)
            | exact tp2_of (by unfold tapeS; rw [if_neg hc1, if_neg (show ¬ ¬ (-1 ≤ s ∧ s ≤ 4) by assumption), if_neg (s_nn (show ¬ ¬ (-1 ≤ s ∧ s ≤ 4) by assumption) (show ¬ s = -1 by assumption)), if_neg (show ¬ ¬ n ≤ 60 from not_not_intro (by assumption)), if_pos (show ¬ 0 ≤ n by assumption)]) (by unfold tapeL; rw [if_neg hc1, if_neg (show ¬ ¬ (-1 ≤ s ∧ s ≤ 4) by assumption), if_neg (s_nn (show ¬ ¬ (-1 ≤ s ∧ s ≤ 4) by assumption) (show ¬ s = -1 by assumption)), if_neg (show ¬ ¬ n ≤ 60 from not_not_intro (by assumption)), if_pos (show ¬ 0 ≤ n by assumption)]; first | done | rfl) rfl hY
      · refine g_iload_3 hX (dk DX11_tape 15 rfl) ?_
        refine g_bipush (v := 60) hX (dk DX11_tape 16 rfl) (by decide) ?_
        refine g_icmp_le (tgt := 34) hX (dk DX11_tape 17 rfl) (by decide) (fun hc8 => ?_) (fun hc8 => ?_)
        · refine g_iload_2 hX (dk DX11_tape 20 rfl) ?_
          refine g_iconst (v := -1) hX (dk DX11_tape 21 rfl) (by decide) ?_
          refine g_icmp_eq (tgt := 46) hX (dk DX11_tape 22 rfl) (by decide) (fun hc9 => ?_) (fun hc9 => ?_)
          · refine g_aload_0 hX (dk DX11_tape 27 rfl) ?_
            refine g_getRs (r := 34) hX (dk DX11_tape 28 rfl) KX11 fX11_47 (by decide) rfl (CLt hH (q := 0) (by decide)) (CC hH 0 (by decide) rfl) (CR hH 0 9 34 (by decide)) ?_
            refine g_iload_1 hX (dk DX11_tape 29 rfl) ?_
            refine g_iload_2 hX (dk DX11_tape 30 rfl) ?_
            refine i_iastore hX (dk DX11_tape 31 rfl) (CLt hH (q := 34) (by decide)) (CS hH 34 (by decide) rfl) (⟨rfl, ht, by decide⟩) ?_
            refine g_aload_0 hX (dk DX11_tape 32 rfl) ?_
            refine g_getRs (r := 35) hX (dk DX11_tape 33 rfl) KX11 fX11_51 (by decide) rfl (CLt hH (q := 0) (by decide)) (CC hH 0 (by decide) rfl) (CR hH 0 10 35 (by decide)) ?_
            refine g_iload_1 hX (dk DX11_tape 34 rfl) ?_
            refine g_iload_2 hX (dk DX11_tape 35 rfl) ?_
            refine g_iconst (v := -1) hX (dk DX11_tape 36 rfl) (by decide) ?_
            refine g_icmp_ne (tgt := 67) hX (dk DX11_tape 37 rfl) (by decide) (fun hc10 => ?_) (fun hc10 => ?_)
            · refine g_iload_3 hX (dk DX11_tape 40 rfl) ?_
              refine i_iastore hX (dk DX11_tape 41 rfl) (CLt hH (q := 35) (by decide)) (CS hH 35 (by decide) rfl) (⟨rfl, ht, by decide⟩) ?_
              refine g_aload_0 hX (dk DX11_tape 42 rfl) ?_
              refine g_getRs (r := 36) hX (dk DX11_tape 43 rfl) KX11 fX11_56 (by decide) rfl (CLt hH (q := 0) (by decide)) (CC hH 0 (by decide) rfl) (CR hH 0 11 36 (by decide)) ?_
              refine g_iload_1 hX (dk DX11_tape 44 rfl) ?_
              refine i_aaload (i0 := 7) hX (dk DX11_tape 45 rfl) (CLt hH (q := 36) (by decide)) (CS hH 36 (by decide) rfl) (by decide) rfl rfl (⟨rfl, ht, by decide⟩) (IT_r hH ht) ?_
              refine g_lconst (v := 0) hX (dk DX11_tape 46 rfl) (by decide) ?_
              refine g_c2v hX sX11_tape_76 (by decide) (Nat.le_of_ble_eq_true rfl) rcN (by decide) (by decide) (c_J7_fill_d0a16 hG (len := 60) (IT_lt hH ht) (IT_sh hH ht) (by decide)) ?_
              rintro I9 h9 ⟨f1, -, f3, f4, f5, f6, rfl⟩
              refine g_iconst (v := 1) hX (dk DX11_tape 48 rfl) (by decide) ?_
              refine g_ireturn hX (dk DX11_tape 49 rfl) rfl (rfl) (by decide) (by decide) ?_
              first
              | exact absurd (show s = -1 by assumption) (show ¬ s = -1 by assumption)
              | exact tp2_of (E' := (upI (upI E 36 t s) 37 t 0)) (by unfold tapeS; rw [if_neg hc1, if_neg (show ¬ ¬ (-1 ≤ s ∧ s ≤ 4) by assumption), if_pos (s_m1 (show s = -1 by assumption)), tN_nI (by omega)]) (by unfold tapeL; rw [if_neg hc1, if_neg (show ¬ ¬ (-1 ≤ s ∧ s ≤ 4) by assumption), if_pos (s_m1 (show s = -1 by assumption)), tN_nI (by omega)]; first | done | rfl) f6 (hY.tape ht s 0 f1 f3 f4 f5 f6)
              | exact tp2_of (E' := (upI (upI E 36 t s) 37 t n)) (by unfold tapeS; rw [if_neg hc1, if_neg (show ¬ ¬ (-1 ≤ s ∧ s ≤ 4) by assumption), if_neg (s_nn (show ¬ ¬ (-1 ≤ s ∧ s ≤ 4) by assumption) (show ¬ s = -1 by assumption)), if_neg (show ¬ ¬ n ≤ 60 from not_not_intro (by assumption)), if_neg (show ¬ ¬ 0 ≤ n from not_not_intro (by assumption)), tN_nI (by omega)]) (by unfold tapeL; rw [if_neg hc1, if_neg (show ¬ ¬ (-1 ≤ s ∧ s ≤ 4) by assumption), if_neg (s_nn (show ¬ ¬ (-1 ≤ s ∧ s ≤ 4) by assumption) (show ¬ s = -1 by assumption)), if_neg (show ¬ ¬ n ≤ 60 from not_not_intro (by assumption)), if_neg (show ¬ ¬ 0 ≤ n from not_not_intro (by assumption)), tN_nI (by omega)]; first | done | rfl) f6 (hY.tape ht s n f1 f3 f4 f5 f6)
            · refine g_iconst (v := 0) hX (dk DX11_tape 38 rfl) (by decide) ?_
              refine g_goto (tgt := 68) hX (dk DX11_tape 39 rfl) (by decide) ?_
              refine i_iastore hX (dk DX11_tape 41 rfl) (CLt hH (q := 35) (by decide)) (CS hH 35 (by decide) rfl) (⟨rfl, ht, by decide⟩) ?_
              refine g_aload_0 hX (dk DX11_tape 42 rfl) ?_
              refine g_getRs (r := 36) hX (dk DX11_tape 43 rfl) KX11 fX11_56 (by decide) rfl (CLt hH (q := 0) (by decide)) (CC hH 0 (by decide) rfl) (CR hH 0 11 36 (by decide)) ?_
              refine g_iload_1 hX (dk DX11_tape 44 rfl) ?_
              refine i_aaload (i0 := 7) hX (dk DX11_tape 45 rfl) (CLt hH (q := 36) (by decide)) (CS hH 36 (by decide) rfl) (by decide) rfl rfl (⟨rfl, ht, by decide⟩) (IT_r hH ht) ?_
              refine g_lconst (v := 0) hX (dk DX11_tape 46 rfl) (by decide) ?_
              refine g_c2v hX sX11_tape_76 (by decide) (Nat.le_of_ble_eq_true rfl) rcN (by decide) (by decide) (c_J7_fill_d0a16 hG (len := 60) (IT_lt hH ht) (IT_sh hH ht) (by decide)) ?_
              rintro I9 h9 ⟨f1, -, f3, f4, f5, f6, rfl⟩
              refine g_iconst (v := 1) hX (dk DX11_tape 48 rfl) (by decide) ?_
              refine g_ireturn hX (dk DX11_tape 49 rfl) rfl (rfl) (by decide) (by decide) ?_
              first
              | exact absurd (show s = -1 by assumption) (show ¬ s = -1 by assumption)
              | exact tp2_of (E' := (upI (upI E 36 t s) 37 t 0)) (by unfold tapeS; rw [if_neg hc1, if_neg (show ¬ ¬ (-1 ≤ s ∧ s ≤ 4) by assumption), if_pos (s_m1 (show s = -1 by assumption)), tN_nI (by omega)]) (by unfold tapeL; rw [if_neg hc1, if_neg (show ¬ ¬ (-1 ≤ s ∧ s ≤ 4) by assumption), if_pos (s_m1 (show s = -1 by assumption)), tN_nI (by omega)]; first | done | rfl) f6 (hY.tape ht s 0 f1 f3 f4 f5 f6)
              | exact tp2_of (E' := (upI (upI E 36 t s) 37 t n)) (by unfold tapeS; rw [if_neg hc1, if_neg (show ¬ ¬ (-1 ≤ s ∧ s ≤ 4) by assumption), if_neg (s_nn (show ¬ ¬ (-1 ≤ s ∧ s ≤ 4) by assumption) (show ¬ s = -1 by assumption)), if_neg (show ¬ ¬ n ≤ 60 from not_not_intro (by assumption)), if_neg (show ¬ ¬ 0 ≤ n from not_not_intro (by assumption)), tN_nI (by omega)]) (by unfold tapeL; rw [if_neg hc1, if_neg (show ¬ ¬ (-1 ≤ s ∧ s ≤ 4) by assumption), if_neg (s_nn (show ¬ ¬ (-1 ≤ s ∧ s ≤ 4) by assumption) (show ¬ s = -1 by assumption)), if_neg (show ¬ ¬ n ≤ 60 from not_not_intro (by assumption)), if_neg (show ¬ ¬ 0 ≤ n from not_not_intro (by assumption)), tN_nI (by omega)]; first | done | rfl) f6 (hY.tape ht s n f1 f3 f4 f5 f6)
          · refine g_iload_3 hX (dk DX11_tape 23 rfl) ?_
            refine g_if_ge (tgt := 46) hX (dk DX11_tape 24 rfl) (by decide) (fun hc11 => ?_) (fun hc11 => ?_)
            · refine g_aload_0 hX (dk DX11_tape 27 rfl) ?_
              refine g_getRs (r := 34) hX (dk DX11_tape 28 rfl) KX11 fX11_47 (by decide) rfl (CLt hH (q := 0) (by decide)) (CC hH 0 (by decide) rfl) (CR hH 0 9 34 (by decide)) ?_
              refine g_iload_1 hX (dk DX11_tape 29 rfl) ?_
              refine g_iload_2 hX (dk DX11_tape 30 rfl) ?_
              refine i_iastore hX (dk DX11_tape 31 rfl) (CLt hH (q := 34) (by decide)) (CS hH 34 (by decide) rfl) (⟨rfl, ht, by decide⟩) ?_
              refine g_aload_0 hX (dk DX11_tape 32 rfl) ?_
              refine g_getRs (r := 35) hX (dk DX11_tape 33 rfl) KX11 fX11_51 (by decide) rfl (CLt hH (q := 0) (by decide)) (CC hH 0 (by decide) rfl) (CR hH 0 10 35 (by decide)) ?_
              refine g_iload_1 hX (dk DX11_tape 34 rfl) ?_
              refine g_iload_2 hX (dk DX11_tape 35 rfl) ?_
              refine g_iconst (v := -1) hX (dk DX11_tape 36 rfl) (by decide) ?_
              refine g_icmp_ne (tgt := 67) hX (dk DX11_tape 37 rfl) (by decide) (fun hc12 => ?_) (fun hc12 => ?_)
              · refine g_iload_3 hX (dk DX11_tape 40 rfl) ?_
                refine i_iastore hX (dk DX11_tape 41 rfl) (CLt hH (q := 35) (by decide)) (CS hH 35 (by decide) rfl) (⟨rfl, ht, by decide⟩) ?_
                refine g_aload_0 hX (dk DX11_tape 42 rfl) ?_
                refine g_getRs (r := 36) hX (dk DX11_tape 43 rfl) KX11 fX11_56 (by decide) rfl (CLt hH (q := 0) (by decide)) (CC hH 0 (by decide) rfl) (CR hH 0 11 36 (by decide)) ?_
                refine g_iload_1 hX (dk DX11_tape 44 rfl) ?_
                refine i_aaload (i0 := 7) hX (dk DX11_tape 45 rfl) (CLt hH (q := 36) (by decide)) (CS hH 36 (by decide) rfl) (by decide) rfl rfl (⟨rfl, ht, by decide⟩) (IT_r hH ht) ?_
                refine g_lconst (v := 0) hX (dk DX11_tape 46 rfl) (by decide) ?_
                refine g_c2v hX sX11_tape_76 (by decide) (Nat.le_of_ble_eq_true rfl) rcN (by decide) (by decide) (c_J7_fill_d0a16 hG (len := 60) (IT_lt hH ht) (IT_sh hH ht) (by decide)) ?_
                rintro I9 h9 ⟨f1, -, f3, f4, f5, f6, rfl⟩
                refine g_iconst (v := 1) hX (dk DX11_tape 48 rfl) (by decide) ?_
                refine g_ireturn hX (dk DX11_tape 49 rfl) rfl (rfl) (by decide) (by decide) ?_
                first
                | exact absurd (show s = -1 by assumption) (show ¬ s = -1 by assumption)
                | exact tp2_of (E' := (upI (upI E 36 t s) 37 t 0)) (by unfold tapeS; rw [if_neg hc1, if_neg (show ¬ ¬ (-1 ≤ s ∧ s ≤ 4) by assumption), if_pos (s_m1 (show s = -1 by assumption)), tN_nI (by omega)]) (by unfold tapeL; rw [if_neg hc1, if_neg (show ¬ ¬ (-1 ≤ s ∧ s ≤ 4) by assumption), if_pos (s_m1 (show s = -1 by assumption)), tN_nI (by omega)]; first | done | rfl) f6 (hY.tape ht s 0 f1 f3 f4 f5 f6)
                | exact tp2_of (E' := (upI (upI E 36 t s) 37 t n)) (by unfold tapeS; rw [if_neg hc1, if_neg (show ¬ ¬ (-1 ≤ s ∧ s ≤ 4) by assumption), if_neg (s_nn (show ¬ ¬ (-1 ≤ s ∧ s ≤ 4) by assumption) (show ¬ s = -1 by assumption)), if_neg (show ¬ ¬ n ≤ 60 from not_not_intro (by assumption)), if_neg (show ¬ ¬ 0 ≤ n from not_not_intro (by assumption)), tN_nI (by omega)]) (by unfold tapeL; rw [if_neg hc1, if_neg (show ¬ ¬ (-1 ≤ s ∧ s ≤ 4) by assumption), if_neg (s_nn (show ¬ ¬ (-1 ≤ s ∧ s ≤ 4) by assumption) (show ¬ s = -1 by assumption)), if_neg (show ¬ ¬ n ≤ 60 from not_not_intro (by assumption)), if_neg (show ¬ ¬ 0 ≤ n from not_not_intro (by assumption)), tN_nI (by omega)]; first | done | rfl) f6 (hY.tape ht s n f1 f3 f4 f5 f6)
              · refine g_iconst (v := 0) hX (dk DX11_tape 38 rfl) (by decide) ?_
                refine g_goto (tgt := 68) hX (dk DX11_tape 39 rfl) (by decide) ?_
                refine i_iastore hX (dk DX11_tape 41 rfl) (CLt hH (q := 35) (by decide)) (CS hH 35 (by decide) rfl) (⟨rfl, ht, by decide⟩) ?_
                refine g_aload_0 hX (dk DX11_tape 42 rfl) ?_
                refine g_getRs (r := 36) hX (dk DX11_tape 43 rfl) KX11 fX11_56 (by decide) rfl (CLt hH (q := 0) (by decide)) (CC hH 0 (by decide) rfl) (CR hH 0 11 36 (by decide)) ?_
                refine g_iload_1 hX (dk DX11_tape 44 rfl) ?_
                refine i_aaload (i0 := 7) hX (dk DX11_tape 45 rfl) (CLt hH (q := 36) (by decide)) (CS hH 36 (by decide) rfl) (by decide) rfl rfl (⟨rfl, ht, by decide⟩) (IT_r hH ht) ?_
                refine g_lconst (v := 0) hX (dk DX11_tape 46 rfl) (by decide) ?_
                refine g_c2v hX sX11_tape_76 (by decide) (Nat.le_of_ble_eq_true rfl) rcN (by decide) (by decide) (c_J7_fill_d0a16 hG (len := 60) (IT_lt hH ht) (IT_sh hH ht) (by decide)) ?_
                rintro I9 h9 ⟨f1, -, f3, f4, f5, f6, rfl⟩
                refine g_iconst (v := 1) hX (dk DX11_tape 48 rfl) (by decide) ?_
                refine g_ireturn hX (dk DX11_tape 49 rfl) rfl (rfl) (by decide) (by decide) ?_
                first
                | exact absurd (show s = -1 by assumption) (show ¬ s = -1 by assumption)
                | exact tp2_of (E' := (upI (upI E 36 t s) 37 t 0)) (by unfold tapeS; rw [if_neg hc1, if_neg (show ¬ ¬ (-1 ≤ s ∧ s ≤ 4) by assumption), if_pos (s_m1 (show s = -1 by assumption)), tN_nI (by omega)]) (by unfold tapeL; rw [if_neg hc1, if_neg (show ¬ ¬ (-1 ≤ s ∧ s ≤ 4) by assumption), if_pos (s_m1 (show s = -1 by assumption)), tN_nI (by omega)]; first | done | rfl) f6 (hY.tape ht s 0 f1 f3 f4 f5 f6)
                | exact tp2_of (E' := (upI (upI E 36 t s) 37 t n)) (by unfold tapeS; rw [if_neg hc1, if_neg (show ¬ ¬ (-1 ≤ s ∧ s ≤ 4) by assumption), if_neg (s_nn (show ¬ ¬ (-1 ≤ s ∧ s ≤ 4) by assumption) (show ¬ s = -1 by assumption)), if_neg (show ¬ ¬ n ≤ 60 from not_not_intro (by assumption)), if_neg (show ¬ ¬ 0 ≤ n from not_not_intro (by assumption)), tN_nI (by omega)]) (by unfold tapeL; rw [if_neg hc1, if_neg (show ¬ ¬ (-1 ≤ s ∧ s ≤ 4) by assumption), if_neg (s_nn (show ¬ ¬ (-1 ≤ s ∧ s ≤ 4) by assumption) (show ¬ s = -1 by assumption)), if_neg (show ¬ ¬ n ≤ 60 from not_not_intro (by assumption)), if_neg (show ¬ ¬ 0 ≤ n from not_not_intro (by assumption)), tN_nI (by omega)]; first | done | rfl) f6 (hY.tape ht s n f1 f3 f4 f5 f6)
            · refine g_bipush (v := -14) hX (dk DX11_tape 25 rfl) (by decide) ?_
              refine g_ireturn hX (dk DX11_tape 26 rfl) rfl (rfl) (by decide) (by decide) ?_
              first
              | exact absurd (show s = -1 by assumption) (show ¬ s = -1 by assumption)
              | exact tp2_of (by unfold tapeS; rw [if_neg hc1, if_neg (show ¬ ¬ (-1 ≤ s ∧ s ≤ 4) by assumption), if_neg (s_nn (show ¬ ¬ (-1 ≤ s ∧ s ≤ 4) by assumption) (show ¬ s = -1 by assumption)), if_neg (show ¬ ¬ n ≤ 60 from not_not_intro (by assumption)), if_pos (show ¬ 0 ≤ n by assumption)]) (by unfold tapeL; rw [if_neg hc1, if_neg (show ¬ ¬ (-1 ≤ s ∧ s ≤ 4) by assumption), if_neg (s_nn (show ¬ ¬ (-1 ≤ s ∧ s ≤ 4) by assumption) (show ¬ s = -1 by assumption)), if_neg (show ¬ ¬ n ≤ 60 from not_not_intro (by assumption)), if_pos (show ¬ 0 ≤ n by assumption)]; first | done | rfl) rfl hY
        · refine g_bipush (v := -2) hX (dk DX11_tape 18 rfl) (by decide) ?_
          refine g_ireturn hX (dk DX11_tape 19 rfl) rfl (rfl) (by decide) (by decide) ?_
          first
          | exact absurd (show s = -1 by assumption) (show ¬ s = -1 by assumption)
          | exact tp2_of (by unfold tapeS; rw [if_neg hc1, if_pos (show ¬ (-1 ≤ s ∧ s ≤ 4) by assumption)]) (by unfold tapeL; rw [if_neg hc1, if_pos (show ¬ (-1 ≤ s ∧ s ≤ 4) by assumption)]; first | done | rfl) rfl hY
          | exact tp2_of (by unfold tapeS; rw [if_neg hc1, if_neg (show ¬ ¬ (-1 ≤ s ∧ s ≤ 4) by assumption), if_neg (s_nn (show ¬ ¬ (-1 ≤ s ∧ s ≤ 4) by assumption) (show ¬ s = -1 by assumption)), if_pos (show ¬ n ≤ 60 by assumption)]) (by unfold tapeL; rw [if_neg hc1, if_neg (show ¬ ¬ (-1 ≤ s ∧ s ≤ 4) by assumption), if_neg (s_nn (show ¬ ¬ (-1 ≤ s ∧ s ≤ 4) by assumption) (show ¬ s = -1 by assumption)), if_pos (show ¬ n ≤ 60 by assumption)]; first | done | rfl) rfl hY
  · refine g_iconst (v := -1) hX (dk DX11_tape 5 rfl) (by decide) ?_
    refine g_ireturn hX (dk DX11_tape 6 rfl) rfl (rfl) (by decide) (by decide) ?_
    exact tp2_of (by unfold tapeS; rw [if_pos hc1]) (by unfold tapeL; rw [if_pos hc1]; first | done | rfl) rfl hY

