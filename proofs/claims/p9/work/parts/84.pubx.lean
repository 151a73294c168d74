set_option maxRecDepth 8000 in
set_option maxHeartbeats 4000000 in
theorem x_go {G : Gt} (hG : Gok G) {I : It} {h : Ht}  {E : It} {L : Nat → Int64} (hE : Inv E) (hY : RY E L I h) {n : Int32} : Con G (8) 0 0 mX11_go [.ref 0, .int n] I h (qX (goS E n) L (hn h)) := by
  refine con_intro (own := RX11) (lo0 := [some (.ref 0), some (.int n)]) hG rfl pl_X11 (Nat.le_of_ble_eq_true rfl) rfl (fun X hX => ?_)
  have hW := hY.wx hE
  have hH := hW.1
  have hc10 := hW.2.1.2
  refine g_iload_1 hX (dk DX11_go_0 0 rfl) ?_
  refine g_iconst (v := 1) hX (dk DX11_go_0 1 rfl) (by decide) ?_
  refine g_bipush (v := 60) hX (dk DX11_go_0 2 rfl) (by decide) ?_
  refine g_c3I hX sX11_go_4 (by decide) (Nat.le_of_ble_eq_true rfl) rcN (by decide) (by decide) (c_X11_isNot hG ) ?_
  refine g_ifb_eq (tgt := 13) hX (dk DX11_go_0 4 rfl) (by decide) (fun hc1 => ?_) (fun hc1 => ?_)
  · refine g_aload_0 hX (dk DX11_go_0 7 rfl) ?_
    refine g_getRs (r := 1) hX (dk DX11_go_0 8 rfl) KX11 fX11_12 (by decide) rfl (CLt hH (q := 0) (by decide)) (CC hH 0 (by decide) rfl) (CR hH 0 0 1 (by decide)) ?_
    refine g_getIv hX (dk DX11_go_0 9 rfl) KX5 fX11_122 (by decide) rfl (CLt hH (q := 1) (by decide)) (CC hH 1 (by decide) rfl) (hY.2.1.1.2.1) ?_
    refine g_iload_1 hX (dk DX11_go_0 10 rfl) ?_
    refine g_iadd hX (dk DX11_go_0 11 rfl) ?_
    refine g_sipush (v := 9999) hX (dk DX11_go_0 12 rfl) (by decide) ?_
    refine g_icmp_le (tgt := 31) hX (dk DX11_go_0 13 rfl) (by decide) (fun hc2 => ?_) (fun hc2 => ?_)
    · refine g_aload_0 hX (dk DX11_go_0 16 rfl) ?_
      refine g_getRs (r := 13) hX (dk DX11_go_0 17 rfl) KX11 fX11_26 (by decide) rfl (CLt hH (q := 0) (by decide)) (CC hH 0 (by decide) rfl) (CR hH 0 3 13 (by decide)) ?_
      refine g_iload_1 hX (dk DX11_go_0 18 rfl) ?_
      refine g_c2v hX sX11_go_36 (by decide) (Nat.le_of_ble_eq_true rfl) (rc0 rfl (CLt hH (by decide)) (CC hH 13 (by decide) rfl)) (by decide) (by decide) (w_X0_look hG hW) ?_
      rintro J _ ⟨hS, rfl, m, hm, hsp⟩
      have hW2 := hW.sc hS
      refine g_aload_0 hX (dk DX11_go_0 20 rfl) ?_
      refine g_getRs (r := 1) hX (dk DX11_go_0 21 rfl) KX11 fX11_12 (by decide) rfl (CLt hH (q := 0) (by decide)) (CC hH 0 (by decide) rfl) (CR hH 0 0 1 (by decide)) ?_
      refine g_dup hX (dk DX11_go_0 22 rfl) rfl ?_
      refine g_getI hX (dk DX11_go_0 23 rfl) KX5 fX11_162 (by decide) rfl (CLt hH (q := 1) (by decide)) (CC hH 1 (by decide) rfl) ?_
      refine g_aload_0 hX (dk DX11_go_0 24 rfl) ?_
      refine g_getRs (r := 13) hX (dk DX11_go_0 25 rfl) KX11 fX11_26 (by decide) rfl (CLt hH (q := 0) (by decide)) (CC hH 0 (by decide) rfl) (CR hH 0 3 13 (by decide)) ?_
      refine g_aload_0 hX (dk DX11_go_0 26 rfl) ?_
      refine g_getRs (r := 1) hX (dk DX11_go_0 27 rfl) KX11 fX11_12 (by decide) rfl (CLt hH (q := 0) (by decide)) (CC hH 0 (by decide) rfl) (CR hH 0 0 1 (by decide)) ?_
      refine g_getI hX (dk DX11_go_0 28 rfl) KX5 fX11_116 (by decide) rfl (CLt hH (q := 1) (by decide)) (CC hH 1 (by decide) rfl) ?_
      refine g_aload_0 hX (dk DX11_go_0 29 rfl) ?_
      refine g_getRs (r := 1) hX (dk DX11_go_0 30 rfl) KX11 fX11_12 (by decide) rfl (CLt hH (q := 0) (by decide)) (CC hH 0 (by decide) rfl) (CR hH 0 0 1 (by decide)) ?_
      refine g_getI hX (dk DX11_go_0 31 rfl) KX5 fX11_109 (by decide) rfl (CLt hH (q := 1) (by decide)) (CC hH 1 (by decide) rfl) ?_
      refine g_c3q hX sX11_go_65 (by decide) (Nat.le_of_ble_eq_true rfl) (rc0 rfl (CLt hH (by decide)) (CC hH 13 (by decide) rfl)) (by decide) (by decide) (w_X0_pass hG hW2 hm hsp) ?_
      rintro _ J2 h9 ⟨hP2, e9⟩
      subst e9
      have hS2 := hS.trans hP2.sc
      refine g_iadd hX (dk DX11_go_0 33 rfl) ?_
      refine g_putI hX (dk DX11_go_0 34 rfl) KX5 fX11_162 (by decide) rfl (CLt hH (q := 1) (by decide)) (CC hH 1 (by decide) rfl) (Or.inl rfl) (rfl) (rfl) ?_
      refine g_aload_0 hX (dk DX11_go_0 35 rfl) ?_
      refine g_getRs (r := 1) hX (dk DX11_go_0 36 rfl) KX11 fX11_12 (by decide) rfl (CLt hH (q := 0) (by decide)) (CC hH 0 (by decide) rfl) (CR hH 0 0 1 (by decide)) ?_
      refine g_dup hX (dk DX11_go_0 37 rfl) rfl ?_
      refine g_getI hX (dk DX11_go_0 38 rfl) KX5 fX11_165 (by decide) rfl (CLt hH (q := 1) (by decide)) (CC hH 1 (by decide) rfl) ?_
      refine g_aload_0 hX (dk DX11_go_0 39 rfl) ?_
      refine g_getRs (r := 13) hX (dk DX11_go_0 40 rfl) KX11 fX11_26 (by decide) rfl (CLt hH (q := 0) (by decide)) (CC hH 0 (by decide) rfl) (CR hH 0 3 13 (by decide)) ?_
      refine g_getI hX (dk DX11_go_0 41 rfl) KX0 fX11_193 (by decide) rfl (CLt hH (q := 13) (by decide)) (CC hH 13 (by decide) rfl) ?_
      refine g_iadd hX (dk DX11_go_0 42 rfl) ?_
      refine g_putI hX (dk DX11_go_0 43 rfl) KX5 fX11_165 (by decide) rfl (CLt hH (q := 1) (by decide)) (CC hH 1 (by decide) rfl) (Or.inl rfl) (rfl) (rfl) ?_
      refine g_aload_0 hX (dk DX11_go_0 44 rfl) ?_
      refine g_getRs (r := 1) hX (dk DX11_go_0 45 rfl) KX11 fX11_12 (by decide) rfl (CLt hH (q := 0) (by decide)) (CC hH 0 (by decide) rfl) (CR hH 0 0 1 (by decide)) ?_
      refine g_dup hX (dk DX11_go_0 46 rfl) rfl ?_
      refine g_getI hX (dk DX11_go_0 47 rfl) KX5 fX11_168 (by decide) rfl (CLt hH (q := 1) (by decide)) (CC hH 1 (by decide) rfl) ?_
      refine g_aload_0 hX (dk DX11_go_0 48 rfl) ?_
      refine g_getRs (r := 13) hX (dk DX11_go_0 49 rfl) KX11 fX11_26 (by decide) rfl (CLt hH (q := 0) (by decide)) (CC hH 0 (by decide) rfl) (CR hH 0 3 13 (by decide)) ?_
      refine g_getI hX (dk DX11_go_0 50 rfl) KX0 fX11_194 (by decide) rfl (CLt hH (q := 13) (by decide)) (CC hH 13 (by decide) rfl) ?_
      refine g_iadd hX (dk DX11_go_0 51 rfl) ?_
      refine g_putI hX (dk DX11_go_0 52 rfl) KX5 fX11_168 (by decide) rfl (CLt hH (q := 1) (by decide)) (CC hH 1 (by decide) rfl) (Or.inl rfl) (rfl) (rfl) ?_
      refine g_aload_0 hX (dk DX11_go_0 53 rfl) ?_
      refine g_getRs (r := 1) hX (dk DX11_go_0 54 rfl) KX11 fX11_12 (by decide) rfl (CLt hH (q := 0) (by decide)) (CC hH 0 (by decide) rfl) (CR hH 0 0 1 (by decide)) ?_
      refine g_aload_0 hX (dk DX11_go_0 55 rfl) ?_
      refine g_getRs (r := 13) hX (dk DX11_go_0 56 rfl) KX11 fX11_26 (by decide) rfl (CLt hH (q := 0) (by decide)) (CC hH 0 (by decide) rfl) (CR hH 0 3 13 (by decide)) ?_
      refine g_getI hX (dk DX11_go_0 57 rfl) KX0 fX11_195 (by decide) rfl (CLt hH (q := 13) (by decide)) (CC hH 13 (by decide) rfl) ?_
      refine g_putI hX (dk DX11_go_0 58 rfl) KX5 fX11_116 (by decide) rfl (CLt hH (q := 1) (by decide)) (CC hH 1 (by decide) rfl) (Or.inl rfl) (rfl) (rfl) ?_
      refine g_gen (fun W eW => ?_)
      have hY4 : RY E L W h9 := by rw [eW]; exact ((((hY.sc hS2).u1 (j := 7) (by decide)).u1 (j := 8) (by decide)).u1 (j := 9) (by decide)).u1 (j := 3) (by decide)
      refine g_aload_0 hX (dk DX11_go_0 59 rfl) ?_
      refine g_getRs (r := 1) hX (dk DX11_go_1 0 rfl) KX11 fX11_12 (by decide) rfl (CLt hH (q := 0) (by decide)) (CC hH 0 (by decide) rfl) (CR hH 0 0 1 (by decide)) ?_
      refine g_dup hX (dk DX11_go_1 1 rfl) rfl ?_
      refine g_getIv hX (dk DX11_go_1 2 rfl) KX5 fX11_122 (by decide) rfl (CLt hH (q := 1) (by decide)) (CC hH 1 (by decide) rfl) (hY4.2.1.1.2.1) ?_
      refine g_iload_1 hX (dk DX11_go_1 3 rfl) ?_
      refine g_iadd hX (dk DX11_go_1 4 rfl) ?_
      refine g_putI hX (dk DX11_go_1 5 rfl) KX5 fX11_122 (by decide) rfl (CLt hH (q := 1) (by decide)) (CC hH 1 (by decide) rfl) (Or.inl rfl) (rfl) (rfl) ?_
      refine g_aload_0 hX (dk DX11_go_1 6 rfl) ?_
      refine g_getRs (r := 1) hX (dk DX11_go_1 7 rfl) KX11 fX11_12 (by decide) rfl (CLt hH (q := 0) (by decide)) (CC hH 0 (by decide) rfl) (CR hH 0 0 1 (by decide)) ?_
      refine g_getIv hX (dk DX11_go_1 8 rfl) KX5 fX11_122 (by decide) rfl (CLt hH (q := 1) (by decide)) (CC hH 1 (by decide) rfl) (up0 _ _ _ _) ?_
      refine g_ireturn hX (dk DX11_go_1 9 rfl) rfl (rfl) (by decide) (by decide) ?_
      exact qX_of (E' := goE E (runF E (E 0 5) (E 0 6) (tN n)) n) (by unfold goS; (try first | rw [if_pos hc1] | rw [if_neg hc1] | rw [if_neg (not_not_intro hc1)]); (try first | rw [if_pos hc2] | rw [if_neg hc2] | rw [if_neg (not_not_intro hc2)]); first | done | rfl) (by unfold goE; exact ((((hY4.wW).f (j := 5) (by decide)).f (j := 2) (by decide)).f (j := 3) (by decide)).f (j := 4) (by decide))
    · refine g_bipush (v := -3) hX (dk DX11_go_0 14 rfl) (by decide) ?_
      refine g_ireturn hX (dk DX11_go_0 15 rfl) rfl (rfl) (by decide) (by decide) ?_
      exact qX_of (by unfold goS; (try first | rw [if_pos hc1] | rw [if_neg hc1] | rw [if_neg (not_not_intro hc1)]); (try first | rw [if_pos hc2] | rw [if_neg hc2] | rw [if_neg (not_not_intro hc2)]); first | done | rfl) hY
  · refine g_bipush (v := -2) hX (dk DX11_go_0 5 rfl) (by decide) ?_
    refine g_ireturn hX (dk DX11_go_0 6 rfl) rfl (rfl) (by decide) (by decide) ?_
    exact qX_of (by unfold goS; (try first | rw [if_pos hc1] | rw [if_neg hc1] | rw [if_neg (not_not_intro hc1)]); first | done | rfl) hY

set_option maxRecDepth 8000 in
set_option maxHeartbeats 4000000 in
theorem y_list {G : Gt} (hG : Gok G) {I : It} {h : Ht}  {E : It} {L : Nat → Int64} (hE : Inv E) (hY : RY E L I h) {w : Int32} {d : Nat} (hd : d < cnt E) : Con G (3) 0 0 mX11_list [.ref 0, .int w, .int (nI d)] I h (qX (listS E w (nI d)) L (hn h)) := by
  refine con_intro (own := RX11) (lo0 := [some (.ref 0), some (.int w), some (.int (nI d))]) hG rfl pl_X11 (Nat.le_of_ble_eq_true rfl) rfl (fun X hX => ?_)
  have hW := hY.wx hE
  have hH := hW.1
  have hc10 := hW.2.1.2
  have hd10 : d < 10 := Nat.lt_of_lt_of_le hd (inv_cnt hE).2
  have hcd : d < cN I := by rw [hY.cn]; exact hd
  have hDD := isD_mk hE hd
  obtain ⟨g1, g2, g3, g4, g5, g6, g7, g8, g9, g10⟩ := hY.d hd
  obtain ⟨r, hr12, er⟩ := inv_rows hE
  have er2 : I 1 12 = nI r := hY.2.1.1.2.2.2.trans er
  refine g_iload_1 hX (dk DX11_list 0 rfl) ?_
  refine g_iconst (v := -1) hX (dk DX11_list 1 rfl) (by decide) ?_
  refine g_icmp_ne (tgt := 15) hX (dk DX11_list 2 rfl) (by decide) (fun hc1 => ?_) (fun hc1 => ?_)
  · refine g_iload_1 hX (dk DX11_list 9 rfl) ?_
    refine g_iconst (v := 0) hX (dk DX11_list 10 rfl) (by decide) ?_
    refine g_bipush (v := 99) hX (dk DX11_list 11 rfl) (by decide) ?_
    refine g_c3I hX sX11_list_19 (by decide) (Nat.le_of_ble_eq_true rfl) rcN (by decide) (by decide) (c_X11_isNot hG ) ?_
    refine g_ifb_eq (tgt := 28) hX (dk DX11_list 13 rfl) (by decide) (fun hc2 => ?_) (fun hc2 => ?_)
    · refine g_aload_0 hX (dk DX11_list 16 rfl) ?_
      refine g_getRs (r := 1) hX (dk DX11_list 17 rfl) KX11 fX11_12 (by decide) rfl (CLt hH (q := 0) (by decide)) (CC hH 0 (by decide) rfl) (CR hH 0 0 1 (by decide)) ?_
      refine g_iload_2 hX (dk DX11_list 18 rfl) ?_
      refine g_c2R hX sX11_list_33 (by decide) (Nat.le_of_ble_eq_true rfl) (rc0 rfl (CLt hH (by decide)) (CC hH 1 (by decide) rfl)) (by decide) (by decide) (c_X5_find hG hW (by exact hcd)) ?_
      refine g_ifnonnull (tgt := 41) hX (dk DX11_list 20 rfl) (by decide) ?_
      refine g_aload_0 hX (dk DX11_list 23 rfl) ?_
      refine g_getRs (r := 1) hX (dk DX11_list 24 rfl) KX11 fX11_12 (by decide) rfl (CLt hH (q := 0) (by decide)) (CC hH 0 (by decide) rfl) (CR hH 0 0 1 (by decide)) ?_
      refine g_getIv hX (dk DX11_list 25 rfl) KX5 fX11_231 (by decide) rfl (CLt hH (q := 1) (by decide)) (CC hH 1 (by decide) rfl) (er2) ?_
      refine g_bipush (v := 12) hX (dk DX11_list 26 rfl) (by decide) ?_
      refine g_icmp_lt (tgt := 58) hX (dk DX11_list 27 rfl) (by decide) (fun hc3 => ?_) (fun hc3 => ?_)
      · have hlt := hc3
        refine g_aload_0 hX (dk DX11_list 30 rfl) ?_
        refine g_getRs (r := 1) hX (dk DX11_list 31 rfl) KX11 fX11_12 (by decide) rfl (CLt hH (q := 0) (by decide)) (CC hH 0 (by decide) rfl) (CR hH 0 0 1 (by decide)) ?_
        refine g_aload_0 hX (dk DX11_list 32 rfl) ?_
        refine g_getRs (r := 1) hX (dk DX11_list 33 rfl) KX11 fX11_12 (by decide) rfl (CLt hH (q := 0) (by decide)) (CC hH 0 (by decide) rfl) (CR hH 0 0 1 (by decide)) ?_
        refine g_getI hX (dk DX11_list 34 rfl) KX5 fX11_122 (by decide) rfl (CLt hH (q := 1) (by decide)) (CC hH 1 (by decide) rfl) ?_
        refine g_iload_1 hX (dk DX11_list 35 rfl) ?_
        refine g_iadd hX (dk DX11_list 36 rfl) ?_
        refine g_iload_2 hX (dk DX11_list 37 rfl) ?_
        refine g_c3I hX sX11_list_72 (by decide) (Nat.le_of_ble_eq_true rfl) (rc0 rfl (CLt hH (by decide)) (CC hH 1 (by decide) rfl)) (by decide) (by decide) (c_X5_addRow hG hW er2 (lt_nI (b := 12) (by omega) (by decide) hlt)) ?_
        refine g_ireturn hX (dk DX11_list 39 rfl) rfl (rfl) (by decide) (by decide) ?_
        first
        | exact qX_of (E' := upI (upI (upI E 23 r w) 24 r (nI d)) 0 44 (nI (r + 1))) (by unfold listS; (try first | rw [if_pos hc1] | rw [if_neg hc1] | rw [if_neg (not_not_intro hc1)]); (try first | rw [if_pos hc2] | rw [if_neg hc2] | rw [if_neg (not_not_intro hc2)]); (try first | rw [if_pos hc3] | rw [if_neg hc3] | rw [if_neg (not_not_intro hc3)]); rw [if_neg (not_not_intro hDD), if_neg (show ¬ E 0 44 = 12 from fun z => by rw [er] at z; rw [z] at hlt; exact absurd hlt (by decide)), er, tN_nI (by omega), nI_1]) (by exact ((((hY.ua (a := 5) (by decide)).ua (a := 6) (by decide)).cc (a := 23) (by decide)).cc (a := 24) (by decide)).wR)
        | exact qX_of (by unfold listS; (try first | rw [if_pos hc1] | rw [if_neg hc1] | rw [if_neg (not_not_intro hc1)]); (try first | rw [if_pos hc2] | rw [if_neg hc2] | rw [if_neg (not_not_intro hc2)]); (try first | rw [if_pos hc3] | rw [if_neg hc3] | rw [if_neg (not_not_intro hc3)]); rw [if_neg (not_not_intro hDD), if_pos (show E 0 44 = 12 from by rw [er]; exact r_12 hr12 (by assumption))]) hY
      · refine g_bipush (v := -4) hX (dk DX11_list 28 rfl) (by decide) ?_
        refine g_goto (tgt := 75) hX (dk DX11_list 29 rfl) (by decide) ?_
        refine g_ireturn hX (dk DX11_list 39 rfl) rfl (rfl) (by decide) (by decide) ?_
        first
        | exact qX_of (E' := upI (upI (upI E 23 r w) 24 r (nI d)) 0 44 (nI (r + 1))) (by unfold listS; (try first | rw [if_pos hc1] | rw [if_neg hc1] | rw [if_neg (not_not_intro hc1)]); (try first | rw [if_pos hc2] | rw [if_neg hc2] | rw [if_neg (not_not_intro hc2)]); (try first | rw [if_pos hc3] | rw [if_neg hc3] | rw [if_neg (not_not_intro hc3)]); rw [if_neg (not_not_intro hDD), if_neg (show ¬ E 0 44 = 12 from fun z => by rw [er] at z; rw [z] at hlt; exact absurd hlt (by decide)), er, tN_nI (by omega), nI_1]) (by exact ((((hY.ua (a := 5) (by decide)).ua (a := 6) (by decide)).cc (a := 23) (by decide)).cc (a := 24) (by decide)).wR)
        | exact qX_of (by unfold listS; (try first | rw [if_pos hc1] | rw [if_neg hc1] | rw [if_neg (not_not_intro hc1)]); (try first | rw [if_pos hc2] | rw [if_neg hc2] | rw [if_neg (not_not_intro hc2)]); (try first | rw [if_pos hc3] | rw [if_neg hc3] | rw [if_neg (not_not_intro hc3)]); rw [if_neg (not_not_intro hDD), if_pos (show E 0 44 = 12 from by rw [er]; exact r_12 hr12 (by assumption))]) hY
    · refine g_bipush (v := -2) hX (dk DX11_list 14 rfl) (by decide) ?_
      refine g_ireturn hX (dk DX11_list 15 rfl) rfl (rfl) (by decide) (by decide) ?_
      exact qX_of (by unfold listS; (try first | rw [if_pos hc1] | rw [if_neg hc1] | rw [if_neg (not_not_intro hc1)]); (try first | rw [if_pos hc2] | rw [if_neg hc2] | rw [if_neg (not_not_intro hc2)]); first | done | rfl) hY
  · refine g_aload_0 hX (dk DX11_list 3 rfl) ?_
    refine g_getRs (r := 1) hX (dk DX11_list 4 rfl) KX11 fX11_12 (by decide) rfl (CLt hH (q := 0) (by decide)) (CC hH 0 (by decide) rfl) (CR hH 0 0 1 (by decide)) ?_
    refine g_iconst (v := 0) hX (dk DX11_list 5 rfl) (by decide) ?_
    refine g_putI hX (dk DX11_list 6 rfl) KX5 fX11_231 (by decide) rfl (CLt hH (q := 1) (by decide)) (CC hH 1 (by decide) rfl) (Or.inl rfl) (rfl) (rfl) ?_
    refine g_iconst (v := 0) hX (dk DX11_list 7 rfl) (by decide) ?_
    refine g_ireturn hX (dk DX11_list 8 rfl) rfl (rfl) (by decide) (by decide) ?_
    exact qX_of (by unfold listS; rw [if_pos (by assumption)]) (by exact hY.wR)

set_option maxRecDepth 8000 in
set_option maxHeartbeats 4000000 in
theorem z_list {G : Gt} (hG : Gok G) {I : It} {h : Ht}  {E : It} {L : Nat → Int64} (hE : Inv E) (hY : RY E L I h) {w a : Int32} (hno : ¬ isD E a) : Con G (3) 0 0 mX11_list [.ref 0, .int w, .int a] I h (qX (listS E w a) L (hn h)) := by
  refine con_intro (own := RX11) (lo0 := [some (.ref 0), some (.int w), some (.int a)]) hG rfl pl_X11 (Nat.le_of_ble_eq_true rfl) rfl (fun X hX => ?_)
  have hW := hY.wx hE
  have hH := hW.1
  have hc10 := hW.2.1.2
  obtain ⟨r, hr12, er⟩ := inv_rows hE
  have er2 : I 1 12 = nI r := hY.2.1.1.2.2.2.trans er
  refine g_iload_1 hX (dk DX11_list 0 rfl) ?_
  refine g_iconst (v := -1) hX (dk DX11_list 1 rfl) (by decide) ?_
  refine g_icmp_ne (tgt := 15) hX (dk DX11_list 2 rfl) (by decide) (fun hc1 => ?_) (fun hc1 => ?_)
  · refine g_iload_1 hX (dk DX11_list 9 rfl) ?_
    refine g_iconst (v := 0) hX (dk DX11_list 10 rfl) (by decide) ?_
    refine g_bipush (v := 99) hX (dk DX11_list 11 rfl) (by decide) ?_
    refine g_c3I hX sX11_list_19 (by decide) (Nat.le_of_ble_eq_true rfl) rcN (by decide) (by decide) (c_X11_isNot hG ) ?_
    refine g_ifb_eq (tgt := 28) hX (dk DX11_list 13 rfl) (by decide) (fun hc2 => ?_) (fun hc2 => ?_)
    · refine g_aload_0 hX (dk DX11_list 16 rfl) ?_
      refine g_getRs (r := 1) hX (dk DX11_list 17 rfl) KX11 fX11_12 (by decide) rfl (CLt hH (q := 0) (by decide)) (CC hH 0 (by decide) rfl) (CR hH 0 0 1 (by decide)) ?_
      refine g_iload_2 hX (dk DX11_list 18 rfl) ?_
      refine g_c2R hX sX11_list_33 (by decide) (Nat.le_of_ble_eq_true rfl) (rc0 rfl (CLt hH (by decide)) (CC hH 1 (by decide) rfl)) (by decide) (by decide) (c_X5_find0 hG hW (hY.no hE hno)) ?_
      refine g_ifnonnullN hX (dk DX11_list 20 rfl) ?_
      refine g_iconst (v := -1) hX (dk DX11_list 21 rfl) (by decide) ?_
      refine g_ireturn hX (dk DX11_list 22 rfl) rfl (rfl) (by decide) (by decide) ?_
      exact qX_of (by unfold listS; (try first | rw [if_pos hc1] | rw [if_neg hc1] | rw [if_neg (not_not_intro hc1)]); (try first | rw [if_pos hc2] | rw [if_neg hc2] | rw [if_neg (not_not_intro hc2)]); rw [if_pos hno]) hY
    · refine g_bipush (v := -2) hX (dk DX11_list 14 rfl) (by decide) ?_
      refine g_ireturn hX (dk DX11_list 15 rfl) rfl (rfl) (by decide) (by decide) ?_
      exact qX_of (by unfold listS; (try first | rw [if_pos hc1] | rw [if_neg hc1] | rw [if_neg (not_not_intro hc1)]); (try first | rw [if_pos hc2] | rw [if_neg hc2] | rw [if_neg (not_not_intro hc2)]); first | done | rfl) hY
  · refine g_aload_0 hX (dk DX11_list 3 rfl) ?_
    refine g_getRs (r := 1) hX (dk DX11_list 4 rfl) KX11 fX11_12 (by decide) rfl (CLt hH (q := 0) (by decide)) (CC hH 0 (by decide) rfl) (CR hH 0 0 1 (by decide)) ?_
    refine g_iconst (v := 0) hX (dk DX11_list 5 rfl) (by decide) ?_
    refine g_putI hX (dk DX11_list 6 rfl) KX5 fX11_231 (by decide) rfl (CLt hH (q := 1) (by decide)) (CC hH 1 (by decide) rfl) (Or.inl rfl) (rfl) (rfl) ?_
    refine g_iconst (v := 0) hX (dk DX11_list 7 rfl) (by decide) ?_
    refine g_ireturn hX (dk DX11_list 8 rfl) rfl (rfl) (by decide) (by decide) ?_
    exact qX_of (by unfold listS; rw [if_pos (by assumption)]) (by exact hY.wR)

theorem x_list {G : Gt} (hG : Gok G) {I : It} {h : Ht} {E : It} {L : Nat → Int64} (hE : Inv E) (hY : RY E L I h) {w a : Int32} : Con G 3 0 0 mX11_list [.ref 0, .int w, .int a] I h (qX (listS E w a) L (hn h)) := by
  by_cases hh : isD E a
  · obtain ⟨d, hd, rfl⟩ := isD_of hE hh
    exact y_list hG hE hY hd
  · exact z_list hG hE hY hh
