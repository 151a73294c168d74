section
set_option maxRecDepth 8000 in
set_option maxHeartbeats 4000000 in
theorem x_go {G : Gt} (hG : Gok G) {I : It} {h : Ht}  {E : It} {L : Nat → Int64} (hE : Inv E) (hY : RY E L I h) {n : Int32} : Con G (8) 0 0 mX11_go [.ref 0, .int n] I h (qX (goS E n) L (hn h)) := by
  refine con_intro (own := RX11) (lo0 := [some (.ref 0), some (.int n)]) hG rfl pl_X11 (Nat.le_of_ble_eq_true rfl) rfl (fun X hX => ?_)
  have hW := hY.wx hE
  have hH := hW.1
  have hc10 := hW.2.1.2
  refine g_iload_1 hX (dk DX11_go_0 0 rfl) ?_
  refine g_iconst (v := 1) hX (dk DX11_go_0 1 rfl) (by decide) ?_
  refine g_bipush (v := 60) hX (dk DX11_go_0 2 rfl) (by decide) ?_
  refine g_c3I hX sX11_go_4 (by decide) (Nat.le_of_ble_eq_true rfl) rcN (by decide) (by decide) (c_X11_isNot hG ) ?_
  refine g_ifb_eq (tgt := 13) hX (dk DX11_go_0 4 rfl) (by decide) (fun hc1 => ?_) (fun hc1 => ?_)
  · refine g_aload_0 hX (dk DX11_go_0 7 rfl) ?_
    refine g_getRs (r := 1) hX (dk DX11_go_0 8 rfl) KX11 fX11_12 (by decide) rfl (CLt hH (q := 0) (by decide)) (CC hH 0 (by decide) rfl) (CR hH 0 0 1 (by decide)) ?_
    refine g_getIv hX (dk DX11_go_0 9 rfl) KX5 fX11_122 (by decide) rfl (CLt hH (q := 1) (by decide)) (CC hH 1 (by decide) rfl) (hY.2.1.1.2.1) ?_
    refine g_iload_1 hX (dk DX11_go_0 10 rfl) ?_
    refine g_iadd hX (dk DX11_go_0 11 rfl) ?_
    refine g_sipush (v := 9999) hX (dk DX11_go_0 12 rfl) (by decide) ?_
    refine g_icmp_le (tgt := 31) hX (dk DX11_go_0 13 rfl) (by decide) (fun hc2 => ?_) (fun hc2 => ?_)
    · refine g_aload_0 hX (dk DX11_go_0 16 rfl) ?_
      refine g_getRs (r := 13) hX (dk DX11_go_0 17 rfl) KX11 fX11_26 (by decide) rfl (CLt hH (q := 0) (by decide)) (CC hH 0 (by decide) rfl) (CR hH 0 3 13 (by decide)) ?_
      refine g_iload_1 hX (dk DX11_go_0 18 rfl) ?_
      refine g_c2v hX sX11_go_36 (by decide) (Nat.le_of_ble_eq_true rfl) (rc0 rfl (CLt hH (by decide)) (CC hH 13 (by decide) rfl)) (by decide) (by decide) (w_X0_look hG hW) ?_
      rintro J _ ⟨hS, rfl, m, hm, hsp⟩
      have hW2 := hW.sc hS
      refine g_aload_0 hX (dk DX11_go_0 20 rfl) ?_
      refine g_getRs (r := 1) hX (dk DX11_go_0 21 rfl) KX11 fX11_12 (by decide) rfl (CLt hH (q := 0) (by decide)) (CC hH 0 (by decide) rfl) (CR hH 0 0 1 (by decide)) ?_
      refine g_dup hX (dk DX11_go_0 22 rfl) rfl ?_
      refine g_getI hX (dk DX11_go_0 23 rfl) KX5 fX11_162 (by decide) rfl (CLt hH (q := 1) (by decide)) (CC hH 1 (by decide) rfl) ?_
      refine g_aload_0 hX (dk DX11_go_0 24 rfl) ?_
      refine g_getRs (r := 13) hX (dk DX11_go_0 25 rfl) KX11 fX11_26 (by decide) rfl (CLt hH (q := 0) (by decide)) (CC hH 0 (by decide) rfl) (CR hH 0 3 13 (by decide)) ?_
      refine g_aload_0 hX (dk DX11_go_0 26 rfl) ?_
      refine g_getRs (r := 1) hX (dk DX11_go_0 27 rfl) KX11 fX11_12 (by decide) rfl (CLt hH (q := 0) (by decide)) (CC hH 0 (by decide) rfl) (CR hH 0 0 1 (by decide)) ?_
      refine g_getI hX (dk DX11_go_0 28 rfl) KX5 fX11_116 (by decide) rfl (CLt hH (q := 1) (by decide)) (CC hH 1 (by decide) rfl) ?_
      refine g_aload_0 hX (dk DX11_go_0 29 rfl) ?_
      refine g_getRs (r := 1) hX (dk DX11_go_0 30 rfl) KX11 fX11_12 (by decide) rfl (CLt hH (q := 0) (by decide)) (CC hH 0 (by decide) rfl) (CR hH 0 0 1 (by decide)) ?_
      refine g_getI hX (dk DX11_go_0 31 rfl) KX5 fX11_109 (by decide) rfl (CLt hH (q := 1) (by decide)) (CC hH 1 (by decide) rfl) ?_
      refine g_c3q hX sX11_go_65 (by decide) (Nat.le_of_ble_eq_true rfl) (rc0 rfl (CLt hH (by decide)) (CC hH 13 (by decide) rfl)) (by decide) (by decide) (w_X0_pass hG hW2 hm hsp) ?_
      rintro _ J2 h9 ⟨hP2, e9⟩
      subst e9
      have hS2 := hS.trans hP2.sc
      refine g_iadd hX (dk DX11_go_0 33 rfl) ?_
      refine g_putI hX (dk DX11_go_0 34 rfl) KX5 fX11_162 (by decide) rfl (CLt hH (q := 1) (by decide)) (CC hH 1 (by decide) rfl) (Or.inl rfl) (rfl) (rfl) ?_
      refine g_aload_0 hX (dk DX11_go_0 35 rfl) ?_
      refine g_getRs (r := 1) hX (dk DX11_go_0 36 rfl) KX11 fX11_12 (by decide) rfl (CLt hH (q := 0) (by decide)) (CC hH 0 (by decide) rfl) (CR hH 0 0 1 (by decide)) ?_
      refine g_dup hX (dk DX11_go_0 37 rfl) rfl ?_
      refine g_getI hX (dk DX11_go_0 38 rfl) KX5 fX11_165 (by decide) rfl (CLt hH (q := 1) (by decide)) (CC hH 1 (by decide) rfl) ?_
      refine g_aload_0 hX (dk DX11_go_0 39 rfl) ?_
      refine g_getRs (r := 13) hX (dk DX11_go_0 40 rfl) KX11 fX11_26 (by decide) rfl (CLt hH (q := 0) (by decide)) (CC hH 0 (by decide) rfl) (CR hH 0 3 13 (by decide)) ?_
      refine g_getI hX (dk DX11_go_0 41 rfl) KX0 fX11_193 (by decide) rfl (CLt hH (q := 13) (by decide)) (CC hH 13 (by decide) rfl) ?_
      refine g_iadd hX (dk DX11_go_0 42 rfl) ?_
      refine g_putI hX (dk DX11_go_0 43 rfl) KX5 fX11_165 (by decide) rfl (CLt hH (q := 1) (by decide)) (CC hH 1 (by decide) rfl) (Or.inl rfl) (rfl) (rfl) ?_
      refine g_aload_0 hX (dk DX11_go_0 44 rfl) ?_
      refine g_getRs (r := 1) hX (dk DX11_go_0 45 rfl) KX11 fX11_12 (by decide) rfl (CLt hH (q := 0) (by decide)) (CC hH 0 (by decide) rfl) (CR hH 0 0 1 (by decide)) ?_
      refine g_dup hX (dk DX11_go_0 46 rfl) rfl ?_
      refine g_getI hX (dk DX11_go_0 47 rfl) KX5 fX11_168 (by decide) rfl (CLt hH (q := 1) (by decide)) (CC hH 1 (by decide) rfl) ?_
      refine g_aload_0 hX (dk DX11_go_0 48 rfl) ?_
      refine g_getRs (r := 13) hX (dk DX11_go_0 49 rfl) KX11 fX11_26 (by decide) rfl (CLt hH (q := 0) (by decide)) (CC hH 0 (by decide) rfl) (CR hH 0 3 13 (by decide)) ?_
      refine g_getI hX (dk DX11_go_0 50 rfl) KX0 fX11_194 (by decide) rfl (CLt hH (q := 13) (by decide)) (CC hH 13 (by decide) rfl) ?_
      refine g_iadd hX (dk DX11_go_0 51 rfl) ?_
      refine g_putI hX (dk DX11_go_0 52 rfl) KX5 fX11_168 (by decide) rfl (CLt hH (q := 1) (by decide)) (CC hH 1 (by decide) rfl) (Or.inl rfl) (rfl) (rfl) ?_
      refine g_aload_0 hX (dk DX11_go_0 53 rfl) ?_
      refine g_getRs (r := 1) hX (dk DX11_go_0 54 rfl) KX11 fX11_12 (by decide) rfl (CLt hH (q := 0) (by decide)) (CC hH 0 (by decide) rfl) (CR hH 0 0 1 (by decide)) ?_
      refine g_aload_0 hX (dk DX11_go_0 55 rfl) ?_
      refine g_getRs (r := 13) hX (dk DX11_go_0 56 rfl) KX11 fX11_26 (by decide) rfl (CLt hH (q := 0) (by decide)) (CC hH 0 (by decide) rfl) (CR hH 0 3 13 (by decide)) ?_
      refine g_getI hX (dk DX11_go_0 57 rfl) KX0 fX11_195 (by decide) rfl (CLt hH (q := 13) (by decide)) (CC hH 13 (by decide) rfl) ?_
      refine g_putI hX (dk DX11_go_0 58 rfl) KX5 fX11_116 (by decide) rfl (CLt hH (q := 1) (by decide)) (CC hH 1 (by decide) rfl) (Or.inl rfl) (rfl) (rfl) ?_
      refine g_gen (fun W eW => ?_)
      have hY4 : RY E L W h9 := by rw [eW]; exact ((((hY.sc hS2).u1 (j := 7) (by decide)).u1 (j := 8) (by decide)).u1 (j := 9) (by decide)).u1 (j := 3) (by decide)
      refine g_aload_0 hX (dk DX11_go_0 59 rfl) ?_
      refine g_getRs (r := 1) hX (dk DX11_go_1 0 rfl) KX11 fX11_12 (by decide) rfl (CLt hH (q := 0) (by decide)) (CC hH 0 (by decide) rfl) (CR hH 0 0 1 (by decide)) ?_
      refine g_dup hX (dk DX11_go_1 1 rfl) rfl ?_
      refine g_getIv hX (dk DX11_go_1 2 rfl) KX5 fX11_122 (by decide) rfl (CLt hH (q := 1) (by decide)) (CC hH 1 (by decide) rfl) (hY4.2.1.1.2.1) ?_
      refine g_iload_1 hX (dk DX11_go_1 3 rfl) ?_
      refine g_iadd hX (dk DX11_go_1 4 rfl) ?_
      refine g_putI hX (dk DX11_go_1 5 rfl) KX5 fX11_122 (by decide) rfl (CLt hH (q := 1) (by decide)) (CC hH 1 (by decide) rfl) (Or.inl rfl) (rfl) (rfl) ?_
      refine g_aload_0 hX (dk DX11_go_1 6 rfl) ?_
      refine g_getRs (r := 1) hX (dk DX11_go_1 7 rfl) KX11 fX11_12 (by decide) rfl (CLt hH (q := 0) (by decide)) (CC hH 0 (by decide) rfl) (CR hH 0 0 1 (by decide)) ?_
      refine g_getIv hX (dk DX11_go_1 8 rfl) KX5 fX11_122 (by decide) rfl (CLt hH (q := 1) (by decide)) (CC hH 1 (by decide) rfl) (up0 _ _ _ _) ?_
      refine g_ireturn hX (dk DX11_go_1 9 rfl) rfl (rfl) (by decide) (by decide) ?_
      exact qX_of (E' := goE E (runF E (E 0 5) (E 0 6) (tN n)) n) (by unfold goS; (try first | rw [if_pos hc1] | rw [if_neg hc1] | rw [if_neg (not_not_intro hc1)]); (try first | rw [if_pos hc2] | rw [if_neg hc2] | rw [if_neg (not_not_intro hc2)]); first | done | rfl) (by unfold goE; exact ((((hY4.wW).f (j := 5) (by decide)).f (j := 2) (by decide)).f (j := 3) (by decide)).f (j := 4) (by decide))
    · refine g_bipush (v := -3) hX (dk DX11_go_0 14 rfl) (by decide) ?_
      refine g_ireturn hX (dk DX11_go_0 15 rfl) rfl (rfl) (by decide) (by decide) ?_
      exact qX_of (by unfold goS; (try first | rw [if_pos hc1] | rw [if_neg hc1] | rw [if_neg (not_not_intro hc1)]); (try first | rw [if_pos hc2] | rw [if_neg hc2] | rw [if_neg (not_not_intro hc2)]); first | done | rfl) hY
  · refine g_bipush (v := -2) hX (dk DX11_go_0 5 rfl) (by decide) ?_
    refine g_ireturn hX (dk DX11_go_0 6 rfl) rfl (rfl) (by decide) (by decide) ?_
    exact qX_of (by unfold goS; (try first | rw [if_pos hc1] | rw [if_neg hc1] | rw [if_neg (not_not_intro hc1)]); first | done | rfl) hY

set_option maxRecDepth 8000 in
set_option maxHeartbeats 4000000 in
theorem y_list {G : Gt} (hG : Gok G) {I : It} {h : Ht}  {E : It} {L : Nat → Int64} (hE : Inv E) (hY : RY E L I h) {w : Int32} {d : Nat} (hd : d < cnt E) : Con G (3) 0 0 mX11_list [.ref 0, .int w, .int (nI d)] I h (qX (listS E w (nI d)) L (hn h)) := by
  refine con_intro (own := RX11) (lo0 := [some (.ref 0), some (.int w), some (.int (nI d))]) hG rfl pl_X11 (Nat.le_of_ble_eq_true rfl) rfl (fun X hX => ?_)
  have hW := hY.wx hE
  have hH := hW.1
  have hc10 := hW.2.1.2
  have hd10 : d < 10 := Nat.lt_of_lt_of_le hd (inv_cnt hE).2
  have hcd : d < cN I := by rw [hY.cn]; exact hd
  have hDD := isD_mk hE hd
  obtain ⟨g1, g2, g3, g4, g5, g6, g7, g8, g9, g10⟩ := hY.d hd
  obtain ⟨r, hr12, er⟩ := inv_rows hE
  have er2 : I 1 12 = nI r := hY.2.1.1.2.2.2.trans er
  refine g_iload_1 hX (dk DX11_list 0 rfl) ?_
  refine g_iconst (v := -1) hX (dk DX11_list 1 rfl) (by decide) ?_
  refine g_icmp_ne (tgt := 15) hX (dk DX11_list 2 rfl) (by decide) (fun hc1 => ?_) (fun hc1 => ?_)
  · refine g_iload_1 hX (dk DX11_list 9 rfl) ?_
    refine g_iconst (v := 0) hX (dk DX11_list 10 rfl) (by decide) ?_
    refine g_bipush (v := 99) hX (dk DX11_list 11 rfl) (by decide) ?_
    refine g_c3I hX sX11_list_19 (by decide) (Nat.le_of_ble_eq_true rfl) rcN (by decide) (by decide) (c_X11_isNot hG ) ?_
    refine g_ifb_eq (tgt := 28) hX (dk DX11_list 13 rfl) (by decide) (fun hc2 => ?_) (fun hc2 => ?_)
    · refine g_aload_0 hX (dk DX11_list 16 rfl) ?_
      refine g_getRs (r := 1) hX (dk DX11_list 17 rfl) KX11 fX11_12 (by decide) rfl (CLt hH (q := 0) (by decide)) (CC hH 0 (by decide) rfl) (CR hH 0 0 1 (by decide)) ?_
      refine g_iload_2 hX (dk DX11_list 18 rfl) ?_
      refine g_c2R hX sX11_list_33 (by decide) (Nat.le_of_ble_eq_true rfl) (rc0 rfl (CLt hH (by decide)) (CC hH 1 (by decide) rfl)) (by decide) (by decide) (c_X5_find hG hW (by exact hcd)) ?_
      refine g_ifnonnull (tgt := 41) hX (dk DX11_list 20 rfl) (by decide) ?_
      refine g_aload_0 hX (dk DX11_list 23 rfl) ?_
      refine g_getRs (r := 1) hX (dk DX11_list 24 rfl) KX11 fX11_12 (by decide) rfl (CLt hH (q := 0) (by decide)) (CC hH 0 (by decide) rfl) (CR hH 0 0 1 (by decide)) ?_
      refine g_getIv hX (dk DX11_list 25 rfl) KX5 fX11_231 (by decide) rfl (CLt hH (q := 1) (by decide)) (CC hH 1 (by decide) rfl) (er2) ?_
      refine g_bipush (v := 12) hX (dk DX11_list 26 rfl) (by decide) ?_
      refine g_icmp_lt (tgt := 58) hX (dk DX11_list 27 rfl) (by decide) (fun hc3 => ?_) (fun hc3 => ?_)
      · have hlt := hc3
        refine g_aload_0 hX (dk DX11_list 30 rfl) ?_
        refine g_getRs (r := 1) hX (dk DX11_list 31 rfl) KX11 fX11_12 (by decide) rfl (CLt hH (q := 0) (by decide)) (CC hH 0 (by decide) rfl) (CR hH 0 0 1 (by decide)) ?_
        refine g_aload_0 hX (dk DX11_list 32 rfl) ?_
        refine g_getRs (r := 1) hX (dk DX11_list 33 rfl) KX11 fX11_12 (by decide) rfl (CLt hH (q := 0) (by decide)) (CC hH 0 (by decide) rfl) (CR hH 0 0 1 (by decide)) ?_
        refine g_getI hX (dk DX11_list 34 rfl) KX5 fX11_122 (by decide) rfl (CLt hH (q := 1) (by decide)) (CC hH 1 (by decide) rfl) ?_
        refine g_iload_1 hX (dk DX11_list 35 rfl) ?_
        refine g_iadd hX (dk DX11_list 36 rfl) ?_
        refine g_iload_2 hX (dk DX11_list 37 rfl) ?_
        refine g_c3I hX sX11_list_72 (by decide) (Nat.le_of_ble_eq_true rfl) (rc0 rfl (CLt hH (by decide)) (CC hH 1 (by decide) rfl)) (by decide) (by decide) (c_X5_addRow hG hW er2 (lt_nI (b := 12) (by omega) (by decide) hlt)) ?_
        refine g_ireturn hX (dk DX11_list 39 rfl) rfl (rfl) (by decide) (by decide) ?_
        first
        | exact qX_of (E' := upI (upI (upI E 23 r w) 24 r (nI d)) 0 44 (nI (r + 1))) (by unfold listS; (try first | rw [if_pos hc1] | rw [if_neg hc1] | rw [if_neg (not_not_intro hc1)]); (try first | rw [if_pos hc2] | rw [if_neg hc2] | rw [if_neg (not_not_intro hc2)]); (try first | rw [if_pos hc3] | rw [if_neg hc3] | rw [if_neg (not_not_intro hc3)]); rw [if_neg (not_not_intro hDD), if_neg (show ¬ E 0 44 = 12 from fun z => by rw [er] at z; rw [z] at hlt; exact absurd hlt (by decide)), er, tN_nI (by omega), nI_1]) (by exact ((((hY.ua (a := 5) (by decide)).ua (a := 6) (by decide)).cc (a := 23) (by decide)).cc (a := 24) (by decide)).wR)
        | exact qX_of (by unfold listS; (try first | rw [if_pos hc1] | rw [if_neg hc1] | rw [if_neg (not_not_intro hc1)]); (try first | rw [if_pos hc2] | rw [if_neg hc2] | rw [if_neg (not_not_intro hc2)]); (try first | rw [if_pos hc3] | rw [if_neg hc3] | rw [if_neg (not_not_intro hc3)]); rw [if_neg (not_not_intro hDD), if_pos (show E 0 44 = 12 from by rw [er]; exact r_12 hr12 (by assumption))]) hY
      · refine g_bipush (v := -4) hX (dk DX11_list 28 rfl) (by decide) ?_
        refine g_goto (tgt := 75) hX (dk DX11_list 29 rfl) (by decide) ?_
        refine g_ireturn hX (dk DX11_list 39 rfl) rfl (rfl) (by decide) (by decide) ?_
        first
        | exact qX_of (E' := upI (upI (upI E 23 r w) 24 r (nI d)) 0 44 (nI (r + 1))) (by unfold listS; (try first | rw [if_pos hc1] | rw [if_neg hc1] | rw [if_neg (not_not_intro hc1)]); (try first | rw [if_pos hc2] | rw [if_neg hc2] | rw [if_neg (not_not_intro hc2)]); (try first | rw [if_pos hc3] | rw [if_neg hc3] | rw [if_neg (not_not_intro hc3)]); rw [if_neg (not_not_intro hDD), if_neg (show ¬ E 0 44 = 12 from fun z => by rw [er] at z; rw [z] at hlt; exact absurd hlt (by decide)), er, tN_nI (by omega), nI_1]) (by exact ((((hY.ua (a := 5) (by decide)).ua (a := 6) (by decide)).cc (a := 23) (by decide)).cc (a := 24) (by decide)).wR)
        | exact qX_of (by unfold listS; (try first | rw [if_pos hc1] | rw [if_neg hc1] | rw [if_neg (not_not_intro hc1)]); (try first | rw [if_pos hc2] | rw [if_neg hc2] | rw [if_neg (not_not_intro hc2)]); (try first | rw [if_pos hc3] | rw [if_neg hc3] | rw [if_neg (not_not_intro hc3)]); rw [if_neg (not_not_intro hDD), if_pos (show E 0 44 = 12 from by rw [er]; exact r_12 hr12 (by assumption))]) hY
    · refine g_bipush (v := -2) hX (dk DX11_list 14 rfl) (by decide) ?_
      refine g_ireturn hX (dk DX11_list 15 rfl) rfl (rfl) (by decide) (by decide) ?_
      exact qX_of (by unfold listS; (try first | rw [if_pos hc1] | rw [if_neg hc1] | rw [if_neg (not_not_intro hc1)]); (try first | rw [if_pos hc2] | rw [if_neg hc2] | rw [if_neg (not_not_intro hc2)]); first | done | rfl) hY
  · refine g_aload_0 hX (dk DX11_list 3 rfl) ?_
    refine g_getRs (r := 1) hX (dk DX11_list 4 rfl) KX11 fX11_12 (by decide) rfl (CLt hH (q := 0) (by decide)) (CC hH 0 (by decide) rfl) (CR hH 0 0 1 (by decide)) ?_
    refine g_iconst (v := 0) hX (dk DX11_list 5 rfl) (by decide) ?_
    refine g_putI hX (dk DX11_list 6 rfl) KX5 fX11_231 (by decide) rfl (CLt hH (q := 1) (by decide)) (CC hH 1 (by decide) rfl) (Or.inl rfl) (rfl) (rfl) ?_
    refine g_iconst (v := 0) hX (dk DX11_list 7 rfl) (by decide) ?_
    refine g_ireturn hX (dk DX11_list 8 rfl) rfl (rfl) (by decide) (by decide) ?_
    exact qX_of (by unfold listS; rw [if_pos (by assumption)]) (by exact hY.wR)

set_option maxRecDepth 8000 in
set_option maxHeartbeats 4000000 in
theorem z_list {G : Gt} (hG : Gok G) {I : It} {h : Ht}  {E : It} {L : Nat → Int64} (hE : Inv E) (hY : RY E L I h) {w a : Int32} (hno : ¬ isD E a) : Con G (3) 0 0 mX11_list [.ref 0, .int w, .int a] I h (qX (listS E w a) L (hn h)) := by
  refine con_intro (own := RX11) (lo0 := [some (.ref 0), some (.int w), some (.int a)]) hG rfl pl_X11 (Nat.le_of_ble_eq_true rfl) rfl (fun X hX => ?_)
  have hW := hY.wx hE
  have hH := hW.1
  have hc10 := hW.2.1.2
  obtain ⟨r, hr12, er⟩ := inv_rows hE
  have er2 : I 1 12 = nI r := hY.2.1.1.2.2.2.trans er
  refine g_iload_1 hX (dk DX11_list 0 rfl) ?_
  refine g_iconst (v := -1) hX (dk DX11_list 1 rfl) (by decide) ?_
  refine g_icmp_ne (tgt := 15) hX (dk DX11_list 2 rfl) (by decide) (fun hc1 => ?_) (fun hc1 => ?_)
  · refine g_iload_1 hX (dk DX11_list 9 rfl) ?_
    refine g_iconst (v := 0) hX (dk DX11_list 10 rfl) (by decide) ?_
    refine g_bipush (v := 99) hX (dk DX11_list 11 rfl) (by decide) ?_
    refine g_c3I hX sX11_list_19 (by decide) (Nat.le_of_ble_eq_true rfl) rcN (by decide) (by decide) (c_X11_isNot hG ) ?_
    refine g_ifb_eq (tgt := 28) hX (dk DX11_list 13 rfl) (by decide) (fun hc2 => ?_) (fun hc2 => ?_)
    · refine g_aload_0 hX (dk DX11_list 16 rfl) ?_
      refine g_getRs (r := 1) hX (dk DX11_list 17 rfl) KX11 fX11_12 (by decide) rfl (CLt hH (q := 0) (by decide)) (CC hH 0 (by decide) rfl) (CR hH 0 0 1 (by decide)) ?_
      refine g_iload_2 hX (dk DX11_list 18 rfl) ?_
      refine g_c2R hX sX11_list_33 (by decide) (Nat.le_of_ble_eq_true rfl) (rc0 rfl (CLt hH (by decide)) (CC hH 1 (by decide) rfl)) (by decide) (by decide) (c_X5_find0 hG hW (hY.no hE hno)) ?_
      refine g_ifnonnullN hX (dk DX11_list 20 rfl) ?_
      refine g_iconst (v := -1) hX (dk DX11_list 21 rfl) (by decide) ?_
      refine g_ireturn hX (dk DX11_list 22 rfl) rfl (rfl) (by decide) (by decide) ?_
      exact qX_of (by unfold listS; (try first | rw [if_pos hc1] | rw [if_neg hc1] | rw [if_neg (not_not_intro hc1)]); (try first | rw [if_pos hc2] | rw [if_neg hc2] | rw [if_neg (not_not_intro hc2)]); rw [if_pos hno]) hY
    · refine g_bipush (v := -2) hX (dk DX11_list 14 rfl) (by decide) ?_
      refine g_ireturn hX (dk DX11_list 15 rfl) rfl (rfl) (by decide) (by decide) ?_
      exact qX_of (by unfold listS; (try first | rw [if_pos hc1] | rw [if_neg hc1] | rw [if_neg (not_not_intro hc1)]); (try first | rw [if_pos hc2] | rw [if_neg hc2] | rw [if_neg (not_not_intro hc2)]); first | done | rfl) hY
  · refine g_aload_0 hX (dk DX11_list 3 rfl) ?_
    refine g_getRs (r := 1) hX (dk DX11_list 4 rfl) KX11 fX11_12 (by decide) rfl (CLt hH (q := 0) (by decide)) (CC hH 0 (by decide) rfl) (CR hH 0 0 1 (by decide)) ?_
    refine g_iconst (v := 0) hX (dk DX11_list 5 rfl) (by decide) ?_
    refine g_putI hX (dk DX11_list 6 rfl) KX5 fX11_231 (by decide) rfl (CLt hH (q := 1) (by decide)) (CC hH 1 (by decide) rfl) (Or.inl rfl) (rfl) (rfl) ?_
    refine g_iconst (v := 0) hX (dk DX11_list 7 rfl) (by decide) ?_
    refine g_ireturn hX (dk DX11_list 8 rfl) rfl (rfl) (by decide) (by decide) ?_
    exact qX_of (by unfold listS; rw [if_pos (by assumption)]) (by exact hY.wR)

theorem x_list {G : Gt} (hG : Gok G) {I : It} {h : Ht} {E : It} {L : Nat → Int64} (hE : Inv E) (hY : RY E L I h) {w a : Int32} : Con G 3 0 0 mX11_list [.ref 0, .int w, .int a] I h (qX (listS E w a) L (hn h)) := by
  by_cases hh : isD E a
  · obtain ⟨d, hd, rfl⟩ := isD_of hE hh
    exact y_list hG hE hY hd
  · exact z_list hG hE hY hh
end
section
/-! the image taken, and taken back -/
theorem img_off {E : It} {a : Nat} (h0 : a ≠ 0) (h : ¬ (25 ≤ a ∧ a ≤ 34)) : imgC (imgF E) a = E a := by
  funext j
  unfold imgC imgF
  rw [if_neg (by omega), if_neg (by omega), if_neg (by omega)]
  simp only [upI_off h0]
theorem img_0 {E : It} {j : Nat} (h : j ∉ [47, 48, 49, 50, 51, 52, 53, 54, 55, 56]) : imgC (imgF E) 0 j = E 0 j := by
  simp only [List.mem_cons, List.not_mem_nil, or_false, not_or] at h
  unfold imgC imgF
  rw [if_neg (by omega), if_neg (by omega), if_neg (by omega)]
  rw [upn (by omega), upn (by omega), upn (by omega), upn (by omega), upn (by omega), upn (by omega), upn (by omega), upn (by omega), upn (by omega), upn (by omega)]
theorem img_in {E : It} {a : Nat} (h1 : 25 ≤ a) (h2 : a ≤ 31) {j : Nat} (hj : j < 10) : imgC (imgF E) a j = E (a - 24) j := by
  unfold imgC imgF
  rw [if_pos ⟨h1, h2⟩, if_pos hj]
  simp only [upI_off (show a - 24 ≠ 0 by omega)]
theorem img_32 {E : It} {j : Nat} (hj : j < 4) : imgC (imgF E) 32 j = E 8 j := by
  unfold imgC imgF
  rw [if_neg (by omega), if_pos rfl, if_pos hj]
  rfl
theorem RY.img {E : It} {L : Nat → Int64} {I J : It} {h h2 : Ht} (hE : Inv E) (hY : RY E L I h) (hT : TF 7 1 I h J h2) : RY (imgC (imgF E)) L (upI J 0 2 1) h2 := by
  obtain ⟨t1, t2, t3, t4, t5, t6, t7, t8, t9, t10, es, en, el, hx⟩ := hT
  obtain ⟨g1, g2, ⟨g3, g4⟩, ⟨g5, g5b⟩, ⟨g6, g7⟩, ⟨g8, g9⟩, gt, g10, g11⟩ := hY
  obtain ⟨e0, hc⟩ := inv_cnt hE
  have K : ∀ a, a ≠ 0 → a ∉ [7, 9, 10, 11, 12] → upI J 0 2 1 a = I a := fun a h0 ha => (upI_off h0).trans (t6 a ha)
  have K0 : ∀ j, j ≠ 2 → upI J 0 2 1 0 j = I 0 j := fun j hj => (upn (fun z => hj z.2)).trans (congrFun (t6 0 (by decide)) j)
  have hPO : PO (upI J 0 2 1) h2 := ⟨fun r hr => g6.1 r (by rw [← t9 1 (by decide) (by decide)]; exact hr), fun p hp => ⟨by rw [K _ (by omega) (by simp; omega)]; exact (g6.2 p hp).1, fun k hk => by rw [K _ (by omega) (by simp; omega)]; exact (g6.2 p hp).2 k hk⟩⟩
  refine ⟨hx, ?_, ⟨?_, fun _ => ?_⟩, ⟨fun j hj => ?_, fun j hj => ?_⟩, ⟨hPO, fun r hr => g6.1 r (t8.symm.trans hr)⟩, ⟨?_, fun j hj => ?_⟩, fun t ht => ?_, ?_, ?_⟩
  · unfold St1
    rw [img_0 (by decide), img_0 (by decide), img_0 (by decide), img_0 (by decide), img_off (by decide) (by decide), img_off (by decide) (by decide), img_off (by decide) (by decide), img_off (by decide) (by decide), img_off (by decide) (by decide), img_off (by decide) (by decide), img_off (by decide) (by decide), img_off (by decide) (by decide)]
    exact StR.keep g2 (fun a ha => K a (by omega) (by simp; omega)) (fun j => congrFun (t9 2 (by decide) (by decide)) j) (Nat.le_of_eq en.symm) (fun a _ => by rw [es])
  · rw [up0]; rfl
  · obtain ⟨⟨s1, s2, s3, s4⟩, s5, s6, s7⟩ := g2
    have q : ∀ f, f ∈ [2, 3, 4, 6, 7, 8, 9, 12] → upI J 0 2 1 7 f = I 1 f := fun f hf => by rw [upI_off (by decide)]; exact t1 f hf
    refine ⟨⟨(q 2 (by decide)).trans s1, (q 6 (by decide)).trans s2, (q 4 (by decide)).trans s3, (q 12 (by decide)).trans s4⟩, fun j hj => ?_, fun y hy => ?_, fun d hd => ?_⟩
    · rw [img_in (by decide) (by decide) hj, upI_off (by decide)]; exact (t2 j hj).trans (s5 j hj)
    · rw [img_32 hy, upI_off (by decide)]; exact (t3 y hy).trans (s6 y hy)
    · have hd' : d < cnt E := hd
      have hd10 : d < 10 := by omega
      rw [img_in (by decide) (by decide) hd10, img_in (by decide) (by decide) hd10, img_in (by decide) (by decide) hd10, img_in (by decide) (by decide) hd10, img_in (by decide) (by decide) hd10, img_in (by decide) (by decide) hd10]
      obtain ⟨a, a1, a2, a3, a4, a5⟩ := s7 d hd'
      refine ⟨a, (t7 d hd10).trans a1, a2, by rw [en]; exact a3, by rw [es]; exact a4, ?_⟩
      rw [K a (by omega) (by simp; omega)]
      exact a5
  · rw [show hR h2 2 j = hR h 2 j from congrFun (t9 2 (by decide) (by decide)) j]; exact okD.mv en es (g5 j hj)
  · rw [show hR h2 8 j = hR h 2 j from t7 j hj]; exact okD.mv en es (g5 j hj)
  · rw [img_0 (by decide), K 32 (by decide) (by decide)]; exact g8
  · rw [img_off (by decide) (by decide), K 33 (by decide) (by decide)]; exact g9 j hj
  · rw [img_off (by decide) (by decide), img_off (by decide) (by decide), K 34 (by decide) (by decide), K 35 (by decide) (by decide), el]; exact gt t ht
  · rw [K0 5 (by decide)]; exact g10
  · rw [K0 7 (by decide)]; exact g11
theorem und_off {E : It} {a : Nat} (h0 : a ≠ 0) (h : ¬ ((1 ≤ a ∧ a ≤ 8) ∨ a = 23 ∨ a = 24)) : undC (undF E) a = E a := by
  funext j
  unfold undC undF
  rw [if_neg (by omega), if_neg (by omega), if_neg (by omega)]
  simp only [upI_off h0]
theorem und_0 {E : It} {j : Nat} (h : j ∉ [16, 0, 1, 2, 3, 4, 5, 6, 44]) : undC (undF E) 0 j = E 0 j := by
  simp only [List.mem_cons, List.not_mem_nil, or_false, not_or] at h
  unfold undC undF
  rw [if_neg (by omega), if_neg (by omega), if_neg (by omega)]
  rw [upn (by omega), upn (by omega), upn (by omega), upn (by omega), upn (by omega), upn (by omega), upn (by omega), upn (by omega), upn (by omega)]
theorem und_in {E : It} {a : Nat} (h1 : 1 ≤ a) (h2 : a ≤ 7) {j : Nat} (hj : j < 10) : undC (undF E) a j = E (a + 24) j := by
  unfold undC undF
  rw [if_pos ⟨h1, h2⟩, if_pos hj]
  simp only [upI_off (show a + 24 ≠ 0 by omega)]
theorem und_8 {E : It} {j : Nat} (hj : j < 4) : undC (undF E) 8 j = E 32 j := by
  unfold undC undF
  rw [if_neg (by omega), if_pos rfl, if_pos hj]
  rfl
theorem RY.und {E : It} {L : Nat → Int64} {I J : It} {h h2 : Ht} (hE : Inv E) (h47 : ¬ E 0 47 = 0) (hY : RY E L I h) (hT : TF 1 7 I h J h2) : RY (undC (undF E)) L J h2 := by
  obtain ⟨t1, t2, t3, t4, t5, t6, t7, t8, t9, t10, es, en, el, hx⟩ := hT
  obtain ⟨g1, g2, ⟨g3, g4⟩, ⟨g5, g5b⟩, ⟨g6, g7⟩, ⟨g8, g9⟩, gt, g10, g11⟩ := hY
  have h1 : E 0 47 = 1 := by rcases hE.2.1 with z | z; exact absurd z h47; exact z.1
  have hn : tN (E 0 49) ≤ 10 := by
    rcases hE.2.1 with z | z
    · exact absurd z h47
    · obtain ⟨x, hx, e, -⟩ := z.2.1
      rw [e, tN_nI (by omega)]; exact hx
  have K : ∀ a, a ∉ [1, 3, 4, 5, 6] → J a = I a := t6
  have hPO : PO J h2 := ⟨fun r hr => g7 r (t8.symm.trans hr), fun p hp => ⟨by rw [K _ (by simp; omega)]; exact (g6.2 p hp).1, fun k hk => by rw [K _ (by simp; omega)]; exact (g6.2 p hp).2 k hk⟩⟩
  have f0 : undC (undF E) 0 0 = E 0 49 ∧ undC (undF E) 0 1 = E 0 50 ∧ undC (undF E) 0 6 = E 0 55 ∧ undC (undF E) 0 44 = E 0 56 := ⟨rfl, rfl, rfl, rfl⟩
  obtain ⟨z0, z1, z6, z44⟩ := f0
  refine ⟨hx, ?_, ⟨?_, fun _ => ?_⟩, ⟨fun j hj => ?_, fun j hj => ?_⟩, ⟨hPO, fun r hr => g7 r (by rw [← t9 7 (by decide) (by decide)]; exact hr)⟩, ⟨?_, fun j hj => ?_⟩, fun t ht => ?_, ?_, ?_⟩
  · obtain ⟨⟨s1, s2, s3, s4⟩, s5, s6, s7⟩ := g4 h1
    unfold St1
    rw [z0, z1, z6, z44]
    refine ⟨⟨(t1 2 (by decide)).trans s1, (t1 6 (by decide)).trans s2, (t1 4 (by decide)).trans s3, (t1 12 (by decide)).trans s4⟩, fun j hj => ?_, fun y hy => ?_, fun d hd => ?_⟩
    · rw [und_in (by decide) (by decide) hj]; exact (t2 j hj).trans (s5 j hj)
    · rw [und_8 hy]; exact (t3 y hy).trans (s6 y hy)
    · have hd10 : d < 10 := by omega
      rw [und_in (by decide) (by decide) hd10, und_in (by decide) (by decide) hd10, und_in (by decide) (by decide) hd10, und_in (by decide) (by decide) hd10, und_in (by decide) (by decide) hd10, und_in (by decide) (by decide) hd10]
      obtain ⟨a, a1, a2, a3, a4, a5⟩ := s7 d hd
      refine ⟨a, (t7 d hd10).trans a1, a2, by rw [en]; exact a3, by rw [es]; exact a4, ?_⟩
      rw [K a (by simp; omega)]
      exact a5
  · rw [und_0 (by decide), K 0 (by decide)]; exact g3
  · unfold St7
    rw [und_0 (by decide), und_0 (by decide), und_0 (by decide), und_0 (by decide), und_off (by decide) (by decide), und_off (by decide) (by decide), und_off (by decide) (by decide), und_off (by decide) (by decide), und_off (by decide) (by decide), und_off (by decide) (by decide), und_off (by decide) (by decide), und_off (by decide) (by decide)]
    exact StR.keep (g4 h1) (fun a ha => K a (by simp; omega)) (fun j => congrFun (t9 8 (by decide) (by decide)) j) (Nat.le_of_eq en.symm) (fun a _ => by rw [es])
  · rw [show hR h2 2 j = hR h 8 j from t7 j hj]; exact okD.mv en es (g5b j hj)
  · rw [show hR h2 8 j = hR h 8 j from congrFun (t9 8 (by decide) (by decide)) j]; exact okD.mv en es (g5b j hj)
  · rw [und_0 (by decide), K 32 (by decide)]; exact g8
  · rw [und_off (by decide) (by decide), K 33 (by decide)]; exact g9 j hj
  · rw [und_off (by decide) (by decide), und_off (by decide) (by decide), K 34 (by decide), K 35 (by decide), el]; exact gt t ht
  · rw [K 0 (by decide)]; exact g10
  · rw [K 0 (by decide)]; exact g11

theorem qX_ofN {s : Int32 × It} {v : Int32} {E' J : It} {L : Nat → Int64} {h : Ht} {N : Nat} (e : s = (v, E')) (hY : RY E' L J h) (hN : hn h ≤ N) : qX s L N (some (.int v)) J h := ⟨v, rfl, by rw [e], by rw [e]; exact hY, hN⟩
set_option maxRecDepth 8000 in
set_option maxHeartbeats 4000000 in
theorem x_image {G : Gt} (hG : Gok G) {I : It} {h : Ht}  {E : It} {L : Nat → Int64} (hE : Inv E) (hY : RY E L I h)  : Con G (3) 0 0 mX11_image [.ref 0] I h (qX (imageS E) L (hn h)) := by
  refine con_intro (own := RX11) (lo0 := [some (.ref 0)]) hG rfl pl_X11 (Nat.le_of_ble_eq_true rfl) rfl (fun X hX => ?_)
  have hW := hY.wx hE
  have hH := hW.1
  have hc10 := hW.2.1.2
  refine g_aload_0 hX (dk DX11_image 0 rfl) ?_
  refine g_getRs (r := 7) hX (dk DX11_image 1 rfl) KX11 fX11_18 (by decide) rfl (CLt hH (q := 0) (by decide)) (CC hH 0 (by decide) rfl) (CR hH 0 1 7 (by decide)) ?_
  refine g_aload_0 hX (dk DX11_image 2 rfl) ?_
  refine g_getRs (r := 1) hX (dk DX11_image 3 rfl) KX11 fX11_12 (by decide) rfl (CLt hH (q := 0) (by decide)) (CC hH 0 (by decide) rfl) (CR hH 0 0 1 (by decide)) ?_
  refine g_c2v hX sX11_image_8 (by decide) (Nat.le_of_ble_eq_true rfl) (rc0 rfl (CLt hH (by decide)) (CC hH 7 (by decide) rfl)) (by decide) (by decide) (c_take7 hG hH hY.2.2.2.1.1) ?_
  rintro J h9 hT
  have en : hn h9 = hn h := hT.2.2.2.2.2.2.2.2.2.2.2.1
  have hx9 : HX h9 := hT.2.2.2.2.2.2.2.2.2.2.2.2.2
  have hY9 := hY.img hE hT
  have hH := hx9
  refine g_aload_0 hX (dk DX11_image 5 rfl) ?_
  refine g_iconst (v := 1) hX (dk DX11_image 6 rfl) (by decide) ?_
  refine g_putI hX (dk DX11_image 7 rfl) KX11 fX11_254 (by decide) rfl (CLt hH (q := 0) (by decide)) (CC hH 0 (by decide) rfl) (Or.inl rfl) (by decide) (by decide) ?_
  refine g_aload_0 hX (dk DX11_image 8 rfl) ?_
  refine g_getRs (r := 1) hX (dk DX11_image 9 rfl) KX11 fX11_12 (by decide) rfl (CLt hH (q := 0) (by decide)) (CC hH 0 (by decide) rfl) (CR hH 0 0 1 (by decide)) ?_
  refine g_getIv hX (dk DX11_image 10 rfl) KX5 fX11_72 (by decide) rfl (CLt hH (q := 1) (by decide)) (CC hH 1 (by decide) rfl) ((hY9.2.1.1.1.trans (img_0 (by decide)))) ?_
  refine g_ireturn hX (dk DX11_image 11 rfl) rfl (rfl) (by decide) (by decide) ?_
  exact qX_ofN rfl hY9 (Nat.le_of_eq en)

set_option maxRecDepth 8000 in
set_option maxHeartbeats 4000000 in
theorem x_undo {G : Gt} (hG : Gok G) {I : It} {h : Ht}  {E : It} {L : Nat → Int64} (hE : Inv E) (hY : RY E L I h)  : Con G (3) 0 0 mX11_undo [.ref 0] I h (qX (undoS E) L (hn h)) := by
  refine con_intro (own := RX11) (lo0 := [some (.ref 0)]) hG rfl pl_X11 (Nat.le_of_ble_eq_true rfl) rfl (fun X hX => ?_)
  have hW := hY.wx hE
  have hH := hW.1
  have hc10 := hW.2.1.2
  refine g_aload_0 hX (dk DX11_undo 0 rfl) ?_
  refine g_getIv hX (dk DX11_undo 1 rfl) KX11 fX11_254 (by decide) rfl (CLt hH (q := 0) (by decide)) (CC hH 0 (by decide) rfl) (hY.2.2.1.1) ?_
  refine g_if_ne (tgt := 10) hX (dk DX11_undo 2 rfl) (by decide) (fun hc1 => ?_) (fun hc1 => ?_)
  · refine g_aload_0 hX (dk DX11_undo 5 rfl) ?_
    refine g_getRs (r := 1) hX (dk DX11_undo 6 rfl) KX11 fX11_12 (by decide) rfl (CLt hH (q := 0) (by decide)) (CC hH 0 (by decide) rfl) (CR hH 0 0 1 (by decide)) ?_
    refine g_aload_0 hX (dk DX11_undo 7 rfl) ?_
    refine g_getRs (r := 7) hX (dk DX11_undo 8 rfl) KX11 fX11_18 (by decide) rfl (CLt hH (q := 0) (by decide)) (CC hH 0 (by decide) rfl) (CR hH 0 1 7 (by decide)) ?_
    refine g_c2v hX sX11_undo_18 (by decide) (Nat.le_of_ble_eq_true rfl) (rc0 rfl (CLt hH (by decide)) (CC hH 1 (by decide) rfl)) (by decide) (by decide) (c_take1 hG hH hY.2.2.2.1.2) ?_
    rintro J h9 hT
    have en : hn h9 = hn h := hT.2.2.2.2.2.2.2.2.2.2.2.1
    have hx9 : HX h9 := hT.2.2.2.2.2.2.2.2.2.2.2.2.2
    have hY9 := hY.und hE hc1 hT
    have hH := hx9
    refine g_aload_0 hX (dk DX11_undo 10 rfl) ?_
    refine g_getRs (r := 1) hX (dk DX11_undo 11 rfl) KX11 fX11_12 (by decide) rfl (CLt hH (q := 0) (by decide)) (CC hH 0 (by decide) rfl) (CR hH 0 0 1 (by decide)) ?_
    refine g_getIv hX (dk DX11_undo 12 rfl) KX5 fX11_72 (by decide) rfl (CLt hH (q := 1) (by decide)) (CC hH 1 (by decide) rfl) (hY9.2.1.1.1) ?_
    refine g_ireturn hX (dk DX11_undo 13 rfl) rfl (rfl) (by decide) (by decide) ?_
    exact qX_ofN (by unfold undoS; rw [if_neg hc1]; rfl) hY9 (Nat.le_of_eq en)
  · refine g_bipush (v := -3) hX (dk DX11_undo 3 rfl) (by decide) ?_
    refine g_ireturn hX (dk DX11_undo 4 rfl) rfl (rfl) (by decide) (by decide) ?_
    exact qX_of (by unfold undoS; rw [if_pos (by first | exact hc1 | exact Decidable.not_not.mp hc1)]) hY
end
section
/-! acts: the bodies that ran -/
def TrE (E J : It) : Prop := J 32 1 = E 0 67 ∧ ∀ j, j < 20 → J 33 j = E 35 j
theorem tr_1 {E J : It} (b : Int32) (h : TrE E J) : TrE (body1 E b) (tb1 J b) := by
  obtain ⟨h1, h2⟩ := h
  unfold body1 tb1
  rw [h1]
  refine ⟨by rw [up0, up0], fun j hj => ?_⟩
  rw [upI_off (show (33 : Nat) ≠ 32 by decide), upI_off (show (35 : Nat) ≠ 0 by decide)]
  split
  · by_cases e : j = tN (E 0 67)
    · rw [e, up0, up0]
    · rw [upn (fun z => e z.2), upn (fun z => e z.2)]; exact h2 j hj
  · exact h2 j hj
theorem tr_L : ∀ (l : List Int32) {E J : It}, TrE E J → TrE (putB E l) (tbL J l) := by
  intro l
  induction l with
  | nil => intro E J h; exact h
  | cons b t ih => intro E J h; exact ih (tr_1 b h)
theorem RY.tr {E E2 : It} {L : Nat → Int64} {I J : It} {h : Ht} (hY : RY E L I h) (ht : TrE E2 J) (hf : Fr [67] [35] E E2) (hJ : ∀ a, a ≠ 32 → a ≠ 33 → J a = I a) : RY E2 L J h := by
  have q : RY (fun a j => if a = 0 then (if j = 67 then E 0 67 else E2 0 j) else if a = 35 then E 35 j else E2 a j) L I h := by
    refine hY.eE (fun j hj => ?_) (fun a ha => ?_)
    · show (if (0 : Nat) = 0 then (if j = 67 then E 0 67 else E2 0 j) else _) = E 0 j
      rw [if_pos rfl]
      split
      · next e => rw [e]
      · next e => exact hf.1 j (by simpa using e)
    · funext j
      show (if a = 0 then (if j = 67 then E 0 67 else E2 0 j) else if a = 35 then E 35 j else E2 a j) = E a j
      have h0 : a ≠ 0 := by rintro rfl; revert ha; decide
      rw [if_neg h0]
      split
      · next e => rw [e]
      · next e => exact congrFun (hf.2 a h0 (by simpa using e)) j
  obtain ⟨g1, g2, ⟨g3, g4⟩, g5, ⟨g6, g7⟩, -, gt, g10, g11⟩ := q
  refine ⟨g1, StR.keep g2 (fun a ha => hJ a (by omega) (by omega)) (fun _ => rfl) (Nat.le_refl _) (fun _ _ => rfl), ⟨by rw [hJ 0 (by decide) (by decide)]; exact g3, fun e => StR.keep (g4 e) (fun a ha => hJ a (by omega) (by omega)) (fun _ => rfl) (Nat.le_refl _) (fun _ _ => rfl)⟩, g5, ⟨g6.mv (fun a ha _ => hJ a (by omega) (by omega)), g7⟩, ht, ?_, ?_, ?_⟩
  · intro t ht2; rw [hJ 34 (by decide) (by decide), hJ 35 (by decide) (by decide)]; exact gt t ht2
  · rw [hJ 0 (by decide) (by decide)]; exact g10
  · rw [hJ 0 (by decide) (by decide)]; exact g11
theorem WX.tr {I J : It} {h : Ht} (hW : WX I h) (hS : ∀ a, a ≠ 32 → a ≠ 33 → J a = I a) : WX J h := by
  obtain ⟨h1, ⟨h2, h3⟩, h4, ⟨h5, h6⟩, ⟨h7, h8⟩, h9⟩ := hW
  have e1 : J 1 = I 1 := hS 1 (by omega) (by omega)
  have ec : cN J = cN I := by unfold cN; rw [e1]
  have ew : weN J = weN I := by unfold weN; rw [e1]
  refine ⟨h1, ⟨by rw [e1, ec]; exact h2, by rw [ec]; exact h3⟩, fun d hd => ?_, ⟨h5, fun p hp => ⟨?_, fun k hk => ?_⟩⟩, ⟨by rw [e1, ew]; exact h7, by rw [ew]; exact h8⟩, by rw [e1]; exact h9⟩
  · obtain ⟨g1, g2, g3, g4, g5, g6⟩ := h4 d (by rw [← ec]; exact hd)
    refine ⟨g1, g2, g3, g4, ?_, ?_⟩
    · rw [hS _ (by omega) (by omega)]; exact g5
    · rw [hS _ (by omega) (by omega)]; exact g6
  · rw [hS _ (by omega) (by omega)]; exact (h6 p hp).1
  · rw [hS _ (by omega) (by omega)]; exact (h6 p hp).2 k hk
theorem ac_all {E : It} (hE : Inv E) {d : Nat} (hd : d < cnt E) : ((∀ x, dsV (kcl (E 1 d)) (nI d) (E 2 d) x = saysV E d x) ∧ dsB (kcl (E 1 d)) = saysB E d) ∧ ((∀ x, dhV (kcl (E 1 d)) (nI d) (E 2 d) x = holdsV E d x) ∧ dhB (kcl (E 1 d)) = holdsB E d) ∧ (∀ x, dtlV (kcl (E 1 d)) (nI d) (E 2 d) x = tellsV E d x) ∧ dtlB (kcl (E 1 d)) = tellsB E d := by
  obtain ⟨k, hk, e⟩ := (inv_d hE hd).1
  unfold dtlV dtlB dtV dhV dhB dkV dsV dsB tellsV tellsB ktV ktB holdsV holdsB khV khB saysV saysB
  rw [e]
  rcases (by omega : k = 0 ∨ k = 1 ∨ k = 2 ∨ k = 3 ∨ k = 4 ∨ k = 5 ∨ k = 6) with rfl | rfl | rfl | rfl | rfl | rfl | rfl <;> exact ⟨⟨fun _ => rfl, rfl⟩, ⟨fun _ => rfl, rfl⟩, fun _ => rfl, rfl⟩
theorem w012 {w : Int32} (h0 : ¬ w = 0) (h1 : ¬ w = 1) (h2 : ¬ w = 2) : ¬ (0 ≤ w ∧ w ≤ 2) := by
  intro h
  obtain ⟨n, hn, rfl⟩ := in_of (b := 2) (by decide) h
  rcases (by omega : n = 0 ∨ n = 1 ∨ n = 2) with rfl | rfl | rfl
  · exact h0 rfl
  · exact h1 rfl
  · exact h2 rfl
theorem tr_0 {E I : It} {L : Nat → Int64} {h : Ht} (hY : RY E L I h) : TrE (upI E 0 67 0) (upI I 32 1 0) := ⟨by rw [up0, up0], fun j hj => by rw [upI_off (by decide), upI_off (by decide)]; exact hY.2.2.2.2.2.1.2 j hj⟩
theorem fr_0 (E : It) (l : List Int32) : Fr [67] [35] E (putB (upI E 0 67 0) l) := (Fr.rf.pf (by decide)).trans (putB_fr l _)
theorem of_0 (I : It) (l : List Int32) : ∀ a, a ≠ 32 → a ≠ 33 → tbL (upI I 32 1 0) l a = I a := fun _ h1 h2 => (tbL_off l _ h1 h2).trans (upI_off h1)
theorem RY.act {E : It} {L : Nat → Int64} {I : It} {h : Ht} (hY : RY E L I h) (l : List Int32) : RY (putB (upI E 0 67 0) l) L (tbL (upI I 32 1 0) l) h := hY.tr (tr_L l (tr_0 hY)) (fr_0 E l) (of_0 I l)

set_option maxRecDepth 8000 in
set_option maxHeartbeats 4000000 in
theorem y_act {G : Gt} (hG : Gok G) {I : It} {h : Ht}  {E : It} {L : Nat → Int64} (hE : Inv E) (hY : RY E L I h) {d : Nat} (hd : d < cnt E) {w x : Int32} : Con G (9) 0 0 mX11_act [.ref 0, .int (nI d), .int w, .int x] I h (qX (actS E (nI d) w x) L (hn h)) := by
  refine con_intro (own := RX11) (lo0 := [some (.ref 0), some (.int (nI d)), some (.int w), some (.int x), none]) hG rfl pl_X11 (Nat.le_of_ble_eq_true rfl) rfl (fun X hX => ?_)
  have hW := hY.wx hE
  have hH := hW.1
  have hc10 := hW.2.1.2
  have hd10 : d < 10 := Nat.lt_of_lt_of_le hd (inv_cnt hE).2
  have hcd : d < cN I := by rw [hY.cn]; exact hd
  have hDD := isD_mk hE hd
  obtain ⟨g1, g2, g3, g4, g5, g6, g7, g8, g9, g10⟩ := hY.d hd
  refine g_aload_0 hX (dk DX11_act 0 rfl) ?_
  refine g_getRs (r := 32) hX (dk DX11_act 1 rfl) KX11 fX11_43 (by decide) rfl (CLt hH (q := 0) (by decide)) (CC hH 0 (by decide) rfl) (CR hH 0 8 32 (by decide)) ?_
  refine g_iconst (v := 0) hX (dk DX11_act 2 rfl) (by decide) ?_
  refine g_putI hX (dk DX11_act 3 rfl) KX7 fX11_258 (by decide) rfl (CLt hH (q := 32) (by decide)) (CC hH 32 (by decide) rfl) (Or.inl rfl) (rfl) (rfl) ?_
  refine g_aload_0 hX (dk DX11_act 4 rfl) ?_
  refine g_getRs (r := 1) hX (dk DX11_act 5 rfl) KX11 fX11_12 (by decide) rfl (CLt hH (q := 0) (by decide)) (CC hH 0 (by decide) rfl) (CR hH 0 0 1 (by decide)) ?_
  refine g_iload_1 hX (dk DX11_act 6 rfl) ?_
  refine g_c2R hX sX11_act_13 (by decide) (Nat.le_of_ble_eq_true rfl) (rc0 rfl (CLt hH (by decide)) (CC hH 1 (by decide) rfl)) (by decide) (by decide) (c_X5_find hG (hW.tr (of_0 I [])) (by exact hcd)) ?_
  refine g_astore_4 hX (dk DX11_act 8 rfl) (by decide) rfl ?_
  refine g_aload_4 hX (dk DX11_act 9 rfl) ?_
  refine g_ifnonnull (tgt := 25) hX (dk DX11_act 10 rfl) (by decide) ?_
  refine g_iload_2 hX (dk DX11_act 13 rfl) ?_
  refine g_tswitch (dt := 85) hX [(0, 52), (1, 63), (2, 74)] (dk DX11_act 14 rfl) (by decide +kernel) ?_
  refine ⟨fun hc1 => ?_, fun hc1n => ?_⟩
  · show GG _ _ _ _ _ _ _ _ _ _ _ _ _
    refine g_aload_4 hX (dk DX11_act 15 rfl) ?_
    refine g_iload_3 hX (dk DX11_act 16 rfl) ?_
    refine g_aload_0 hX (dk DX11_act 17 rfl) ?_
    refine g_getRs (r := 32) hX (dk DX11_act 18 rfl) KX11 fX11_43 (by decide) rfl (CLt hH (q := 0) (by decide)) (CC hH 0 (by decide) rfl) (CR hH 0 8 32 (by decide)) ?_
    refine g_c3I hX (sD_X11_act_59 _ (by rw [g4]; exact kcl_dc _)) (by decide) (Nat.le_of_ble_eq_true rfl) (rc0 rfl g3 rfl) (by decide) (by decide) (cD_says hG g3 (by rw [g4]; exact kcl_dc _) hH (r := 0) (by exact up0 _ _ _ _) (by decide) (by omega) (by omega)) ?_
    refine g_ireturn hX (dk DX11_act 20 rfl) rfl (rfl) (by decide) (by decide) ?_
    exact qX_of (E' := putB (upI E 0 67 0) (saysB E d)) (by unfold actS; rw [if_neg (not_not_intro hDD), show w = 0 by assumption, if_neg (by decide), if_neg (by decide), tN_nI (by omega), show tbL (upI I 32 1 0) [] (dn h d) = I (dn h d) from upI_off (by omega), g5, g6, g4, (ac_all hE hd).1.1 x]) (by rw [g4, (ac_all hE hd).1.2]; exact hY.act _)
  refine ⟨fun hc2 => ?_, fun hc2n => ?_⟩
  · show GG _ _ _ _ _ _ _ _ _ _ _ _ _
    refine g_aload_4 hX (dk DX11_act 21 rfl) ?_
    refine g_iload_3 hX (dk DX11_act 22 rfl) ?_
    refine g_aload_0 hX (dk DX11_act 23 rfl) ?_
    refine g_getRs (r := 32) hX (dk DX11_act 24 rfl) KX11 fX11_43 (by decide) rfl (CLt hH (q := 0) (by decide)) (CC hH 0 (by decide) rfl) (CR hH 0 8 32 (by decide)) ?_
    refine g_c3I hX (sD_X11_act_70 _ (by rw [g4]; exact kcl_dc _)) (by decide) (Nat.le_of_ble_eq_true rfl) (rc0 rfl g3 rfl) (by decide) (by decide) (cD_holds hG g3 (by rw [g4]; exact kcl_dc _) hH (r := 0) (by exact up0 _ _ _ _) (by decide) (by omega) (by omega)) ?_
    refine g_ireturn hX (dk DX11_act 26 rfl) rfl (rfl) (by decide) (by decide) ?_
    exact qX_of (E' := putB (upI E 0 67 0) (holdsB E d)) (by unfold actS; rw [if_neg (not_not_intro hDD), show w = 1 by assumption, if_neg (by decide), if_pos (by decide), if_pos rfl, tN_nI (by omega), show tbL (upI I 32 1 0) [] (dn h d) = I (dn h d) from upI_off (by omega), g5, g6, g4, (ac_all hE hd).2.1.1 x]) (by rw [g4, (ac_all hE hd).2.1.2]; exact hY.act _)
  refine ⟨fun hc3 => ?_, fun hc3n => ?_⟩
  · show GG _ _ _ _ _ _ _ _ _ _ _ _ _
    refine g_aload_4 hX (dk DX11_act 27 rfl) ?_
    refine g_iload_3 hX (dk DX11_act 28 rfl) ?_
    refine g_aload_0 hX (dk DX11_act 29 rfl) ?_
    refine g_getRs (r := 32) hX (dk DX11_act 30 rfl) KX11 fX11_43 (by decide) rfl (CLt hH (q := 0) (by decide)) (CC hH 0 (by decide) rfl) (CR hH 0 8 32 (by decide)) ?_
    refine g_c3I hX (sD_X11_act_81 _ (by rw [g4]; exact kcl_dc _)) (by decide) (Nat.le_of_ble_eq_true rfl) (rc0 rfl g3 rfl) (by decide) (by decide) (cD_tells hG g3 (by rw [g4]; exact kcl_dc _) hH (r := 0) (by exact up0 _ _ _ _) (by decide) (by omega) (by omega)) ?_
    refine g_ireturn hX (dk DX11_act 32 rfl) rfl (rfl) (by decide) (by decide) ?_
    exact qX_of (E' := putB (upI E 0 67 0) (tellsB E d)) (by unfold actS; rw [if_neg (not_not_intro hDD), show w = 2 by assumption, if_neg (by decide), if_pos (by decide), if_neg (by decide), tN_nI (by omega), show tbL (upI I 32 1 0) [] (dn h d) = I (dn h d) from upI_off (by omega), g5, g6, g4, (ac_all hE hd).2.2.1 x]) (by rw [g4, (ac_all hE hd).2.2.2]; exact hY.act _)
  show GG _ _ _ _ _ _ _ _ _ _ _ _ _
  refine g_iconst (v := 0) hX (dk DX11_act 33 rfl) (by decide) ?_
  refine g_ireturn hX (dk DX11_act 34 rfl) rfl (rfl) (by decide) (by decide) ?_
  exact qX_of (E' := upI E 0 67 0) (by unfold actS; rw [if_neg (not_not_intro hDD), if_pos (w012 (by assumption) (by assumption) (by assumption))]) (by exact hY.act [])

set_option maxRecDepth 8000 in
set_option maxHeartbeats 4000000 in
theorem z_act {G : Gt} (hG : Gok G) {I : It} {h : Ht}  {E : It} {L : Nat → Int64} (hE : Inv E) (hY : RY E L I h) {a : Int32} (hno : ¬ isD E a) {w x : Int32} : Con G (9) 0 0 mX11_act [.ref 0, .int a, .int w, .int x] I h (qX (actS E a w x) L (hn h)) := by
  refine con_intro (own := RX11) (lo0 := [some (.ref 0), some (.int a), some (.int w), some (.int x), none]) hG rfl pl_X11 (Nat.le_of_ble_eq_true rfl) rfl (fun X hX => ?_)
  have hW := hY.wx hE
  have hH := hW.1
  have hc10 := hW.2.1.2
  refine g_aload_0 hX (dk DX11_act 0 rfl) ?_
  refine g_getRs (r := 32) hX (dk DX11_act 1 rfl) KX11 fX11_43 (by decide) rfl (CLt hH (q := 0) (by decide)) (CC hH 0 (by decide) rfl) (CR hH 0 8 32 (by decide)) ?_
  refine g_iconst (v := 0) hX (dk DX11_act 2 rfl) (by decide) ?_
  refine g_putI hX (dk DX11_act 3 rfl) KX7 fX11_258 (by decide) rfl (CLt hH (q := 32) (by decide)) (CC hH 32 (by decide) rfl) (Or.inl rfl) (rfl) (rfl) ?_
  refine g_aload_0 hX (dk DX11_act 4 rfl) ?_
  refine g_getRs (r := 1) hX (dk DX11_act 5 rfl) KX11 fX11_12 (by decide) rfl (CLt hH (q := 0) (by decide)) (CC hH 0 (by decide) rfl) (CR hH 0 0 1 (by decide)) ?_
  refine g_iload_1 hX (dk DX11_act 6 rfl) ?_
  refine g_c2R hX sX11_act_13 (by decide) (Nat.le_of_ble_eq_true rfl) (rc0 rfl (CLt hH (by decide)) (CC hH 1 (by decide) rfl)) (by decide) (by decide) (c_X5_find0 hG (hW.tr (of_0 I [])) (by exact hY.no hE hno)) ?_
  refine g_astoreN_4 hX (dk DX11_act 8 rfl) (by decide) rfl ?_
  refine g_aloadN_4 hX (dk DX11_act 9 rfl) ?_
  refine g_ifnonnullN hX (dk DX11_act 10 rfl) ?_
  refine g_iconst (v := 0) hX (dk DX11_act 11 rfl) (by decide) ?_
  refine g_ireturn hX (dk DX11_act 12 rfl) rfl (rfl) (by decide) (by decide) ?_
  exact qX_of (E' := upI E 0 67 0) (by unfold actS; rw [if_pos hno]) (by exact hY.act [])

theorem x_act {G : Gt} (hG : Gok G) {I : It} {h : Ht} {E : It} {L : Nat → Int64} (hE : Inv E) (hY : RY E L I h) {a : Int32} {w x : Int32} : Con G 9 0 0 mX11_act [.ref 0, .int a, .int w, .int x] I h (qX (actS E a w x) L (hn h)) := by
  by_cases hh : isD E a
  · obtain ⟨d, hd, rfl⟩ := isD_of hE hh
    exact y_act hG hE hY hd
  · exact z_act hG hE hY hh
end
section
/-! tapes -/
theorem RY.tp {E E2 : It} {L L2 : Nat → Int64} {I J : It} {h h2 : Ht} (hY : RY E L I h) (hT : TpR E2 L2 J h2) (hE2 : ∀ a, a ≠ 36 → a ≠ 37 → E2 a = E a) (hJ : ∀ a, a ≠ 34 → a ≠ 35 → J a = I a) (e1 : hR h2 = hR h) (e2 : hs h2 = hs h) (e3 : hn h2 = hn h) : RY E2 L2 J h2 := by
  obtain ⟨g1, g2, ⟨g3, g4⟩, ⟨g5, g5b⟩, ⟨g6, g7⟩, ⟨g8, g9⟩, -, g10, g11⟩ := hY
  have hx : HX h2 := ⟨by rw [e3]; exact g1.1, fun q hq => by rw [e2]; exact g1.2.1 q hq, fun x hx => by rw [e1]; exact g1.2.2 x hx⟩
  refine ⟨hx, ?_, ⟨?_, fun e => ?_⟩, ⟨fun j hj => by rw [e1]; exact okD.mv e3 e2 (g5 j hj), fun j hj => by rw [e1]; exact okD.mv e3 e2 (g5b j hj)⟩, ⟨⟨fun r hr => g6.1 r (by rw [← e1]; exact hr), (g6.mv (h := h) (J := J) (fun a ha _ => hJ a (by omega) (by omega))).2⟩, fun r hr => g7 r (by rw [← e1]; exact hr)⟩, ⟨?_, fun j hj => ?_⟩, hT, ?_, ?_⟩
  · unfold St1
    rw [hE2 0 (by decide) (by decide), hE2 1 (by decide) (by decide), hE2 2 (by decide) (by decide), hE2 3 (by decide) (by decide), hE2 4 (by decide) (by decide), hE2 5 (by decide) (by decide), hE2 6 (by decide) (by decide), hE2 7 (by decide) (by decide), hE2 8 (by decide) (by decide)]
    exact StR.keep g2 (fun a ha => hJ a (by omega) (by omega)) (fun j => by rw [e1]) (Nat.le_of_eq e3.symm) (fun a _ => by rw [e2])
  · rw [hE2 0 (by decide) (by decide), hJ 0 (by decide) (by decide)]; exact g3
  · rw [hE2 0 (by decide) (by decide)] at e
    unfold St7
    rw [hE2 0 (by decide) (by decide), hE2 25 (by decide) (by decide), hE2 26 (by decide) (by decide), hE2 27 (by decide) (by decide), hE2 28 (by decide) (by decide), hE2 29 (by decide) (by decide), hE2 30 (by decide) (by decide), hE2 31 (by decide) (by decide), hE2 32 (by decide) (by decide)]
    exact StR.keep (g4 e) (fun a ha => hJ a (by omega) (by omega)) (fun j => by rw [e1]) (Nat.le_of_eq e3.symm) (fun a _ => by rw [e2])
  · rw [hE2 0 (by decide) (by decide), hJ 32 (by decide) (by decide)]; exact g8
  · rw [hE2 35 (by decide) (by decide), hJ 33 (by decide) (by decide)]; exact g9 j hj
  · rw [hJ 0 (by decide) (by decide)]; exact g10
  · rw [hJ 0 (by decide) (by decide)]; exact g11
theorem tp_of {E : It} (hE : Inv E) {t : Nat} (ht : t < 6) : ∃ l, l ≤ 60 ∧ E 37 t = nI l ∧ (E 36 t < 0 → l = 0) ∧ (E 36 t = -1 ∨ ∃ s, s ≤ 4 ∧ E 36 t = nI s) := by
  rcases hE.2.2.2.2.2.2 t ht with ⟨e, e2⟩ | ⟨s, l, hs, hl, e, e2⟩
  · exact ⟨0, by decide, e2, fun _ => rfl, Or.inl e⟩
  · exact ⟨l, hl, e2, fun z => absurd (by rw [e] at z; exact z) (nI_pos (by omega)), Or.inr ⟨s, hs, e⟩⟩
theorem tp_in {E : It} (hE : Inv E) {t : Nat} (ht : t < 6) {i : Int32} (h : 0 ≤ i ∧ i ≤ E 37 t - 1) : ¬ E 36 t < 0 ∧ ∃ k, k < 60 ∧ i = nI k := by
  obtain ⟨l, hl, e, hz, -⟩ := tp_of hE ht
  rw [e] at h
  obtain ⟨k, hk, ek⟩ := pl_of hl h
  exact ⟨fun z => by rw [hz z] at hk; omega, k, by omega, ek⟩
theorem tp_idx {t : Nat} {a : Int32} (h : a = nI t) (ht : t < 6) : idx a t 6 := ⟨h, ht, by decide⟩
/-- one item is written -/
theorem RY.it {E : It} {L : Nat → Int64} {I : It} {h : Ht} (hY : RY E L I h) {t k : Nat} (ht : t < 6) (hk : k < 60) (v : Int64) : RY E (vp_updL L (60 * t + k) v) I (wL h (37 + t) k v) := by
  refine hY.tp (fun s hs => ⟨(hY.2.2.2.2.2.2.1 s hs).1, (hY.2.2.2.2.2.2.1 s hs).2.1, fun j hj => ?_⟩) (fun _ _ _ => rfl) (fun _ _ _ => rfl) rfl rfl rfl
  show (if 37 + s = 37 + t ∧ j = k then v else hL h (37 + s) j) = vp_updL L (60 * t + k) v (60 * s + j)
  unfold vp_updL
  by_cases e : s = t
  · subst e
    by_cases e2 : j = k
    · subst e2
      rw [if_pos ⟨rfl, rfl⟩, if_pos rfl]
    · rw [if_neg (fun z => e2 z.2), if_neg (by omega)]
      exact (hY.2.2.2.2.2.2.1 s hs).2.2 j hj
  · rw [if_neg (fun z => e (by omega)), if_neg (by omega)]
    exact (hY.2.2.2.2.2.2.1 s hs).2.2 j hj
theorem it_of {E J : It} {s : Int32 × (Nat → Int64)} {v : Int32} {L' : Nat → Int64} {h : Ht} (e : s = (v, L')) (hY : RY E L' J h) : qX (s.1, E) s.2 (hn h) (some (.int v)) J h := ⟨v, rfl, by rw [e], by rw [e]; exact hY, Nat.le_refl _⟩
theorem tp2_of {E' J : It} {s : Int32 × It} {v : Int32} {L2 L' : Nat → Int64} {h h2 : Ht} (e : s = (v, E')) (eL : L2 = L') (en : hn h2 = hn h) (hY : RY E' L' J h2) : qX s L2 (hn h) (some (.int v)) J h2 := ⟨v, rfl, by rw [e], by rw [e, eL]; exact hY, Nat.le_of_eq en⟩
theorem s_nn {s : Int32} (h : ¬ ¬ (-1 ≤ s ∧ s ≤ 4)) (hne : ¬ s = -1) : ¬ s < 0 := by
  have h1 := (Decidable.not_not.mp h).1
  intro h2
  refine hne (Int32.toInt_inj.mp ?_)
  have a1 := Int32.le_iff_toInt_le.mp h1
  have a2 := Int32.lt_iff_toInt_lt.mp h2
  have e1 : (-1 : Int32).toInt = -1 := by decide
  have e0 : (0 : Int32).toInt = 0 := by decide
  omega
theorem s_m1 {s : Int32} (h : s = -1) : s < 0 := by rw [h]; decide
def zeL (L : Nat → Int64) (t : Nat) : Nat → Int64 := fun j => if 60 * t ≤ j ∧ j < 60 * t + 60 then 0 else L j
theorem RY.tape {E : It} {L : Nat → Int64} {I : It} {h h2 : Ht} (hY : RY E L I h) {t : Nat} (ht : t < 6) (s n : Int32) (f1 : ∀ j, j < 60 → hL h2 (37 + t) j = 0) (f3 : ∀ a, a ≠ 37 + t → hL h2 a = hL h a) (f4 : hR h2 = hR h) (f5 : hs h2 = hs h) (f6 : hn h2 = hn h) : RY (upI (upI E 36 t s) 37 t n) (zeL L t) (upI (upI I 34 t s) 35 t n) h2 := by
  refine hY.tp (fun r hr => ?_) (fun a h1 h2 => by rw [upI_off h2, upI_off h1]) (fun a h1 h2 => by rw [upI_off h2, upI_off h1]) f4 f5 f6
  obtain ⟨q1, q2, q3⟩ := hY.2.2.2.2.2.2.1 r hr
  have a34 : upI (upI I 34 t s) 35 t n 34 = upI I 34 t s 34 := upI_off (by decide)
  have e36 : upI (upI E 36 t s) 37 t n 36 = upI E 36 t s 36 := upI_off (by decide)
  have b35 : upI I 34 t s 35 = I 35 := upI_off (by decide)
  have b37 : upI E 36 t s 37 = E 37 := upI_off (by decide)
  by_cases e : r = t
  · subst e
    refine ⟨by rw [a34, e36, up0, up0], by rw [up0, up0], fun j hj => ?_⟩
    unfold zeL
    rw [f1 j hj, if_pos (by omega)]
  · refine ⟨by rw [a34, e36, upn (fun z => e z.2), upn (fun z => e z.2)]; exact q1, by rw [show upI (upI I 34 t s) 35 t n 35 r = upI I 34 t s 35 r from upn (fun z => e z.2), b35, upn (fun z => e z.2), b37]; exact q2, fun j hj => ?_⟩
    unfold zeL
    rw [f3 _ (by omega), if_neg (by omega)]
    exact q3 j hj
theorem jd_ix {e : Int32} {l d : Nat} (h0 : ¬ e < 0) (h1 : e < nI l - nI d) (hl : l ≤ 60) (hd : d ≤ 10) : ∃ q, e = nI q ∧ q + d < 60 := by
  obtain ⟨q, hq, rfl⟩ := nI_of h0
  have h2 := sh_le hl (n := d) (i := q) (by omega) hq (Int32.le_of_lt h1)
  rw [pk_sub (by omega)] at h1
  have := lt_nI hq (by omega) h1
  exact ⟨q, rfl, by omega⟩

set_option maxRecDepth 8000 in
set_option maxHeartbeats 4000000 in
theorem x_read {G : Gt} (hG : Gok G) {I : It} {h : Ht}  {E : It} {L : Nat → Int64} (hE : Inv E) (hY : RY E L I h) {a e : Int32} : Con G (3) 0 0 mX11_read [.ref 0, .int a, .int e] I h (qXL (readF E L a e) E L (hn h)) := by
  refine con_intro (own := RX11) (lo0 := [some (.ref 0), some (.int a), some (.int e)]) hG rfl pl_X11 (Nat.le_of_ble_eq_true rfl) rfl (fun X hX => ?_)
  have hW := hY.wx hE
  have hH := hW.1
  have hc10 := hW.2.1.2
  refine g_iload_1 hX (dk DX11_read 0 rfl) ?_
  refine g_iconst (v := 0) hX (dk DX11_read 1 rfl) (by decide) ?_
  refine g_iconst (v := 5) hX (dk DX11_read 2 rfl) (by decide) ?_
  refine g_c3I hX sX11_read_3 (by decide) (Nat.le_of_ble_eq_true rfl) rcN (by decide) (by decide) (c_X11_isNot hG ) ?_
  refine g_ifb_ne (tgt := 25) hX (dk DX11_read 4 rfl) (by decide) (fun hc1 => ?_) (fun hc1 => ?_)
  · refine g_ldc2_w (v := -9223372036854775808) hX (dk DX11_read 15 rfl) (tg_4 79 rfl rfl) ?_
    refine g_lreturn hX (dk DX11_read 16 rfl) rfl (by decide) (by decide) ?_
    first
    | exact qXL_of (by unfold readF; rw [if_pos hc1]; rfl) hY
    | exact qXL_of (by unfold readF; rw [if_neg hc1, tN_nI (by omega)]; split <;> first | rfl | (rw [if_pos hc2]; rfl)) hY
  · obtain ⟨t, ht5, rfl⟩ := in_of (b := 5) (by decide) (Decidable.not_not.mp hc1)
    have ht : t < 6 := by omega
    have hT := hY.2.2.2.2.2.2.1 t ht
    refine g_iload_2 hX (dk DX11_read 5 rfl) ?_
    refine g_iconst (v := 0) hX (dk DX11_read 6 rfl) (by decide) ?_
    refine g_aload_0 hX (dk DX11_read 7 rfl) ?_
    refine g_getRs (r := 35) hX (dk DX11_read 8 rfl) KX11 fX11_51 (by decide) rfl (CLt hH (q := 0) (by decide)) (CC hH 0 (by decide) rfl) (CR hH 0 10 35 (by decide)) ?_
    refine g_iload_1 hX (dk DX11_read 9 rfl) ?_
    refine v_iaload hX (dk DX11_read 10 rfl) (CLt hH (q := 35) (by decide)) (CS hH 35 (by decide) rfl) (⟨rfl, ht, by decide⟩) (hT.2.1) ?_
    refine g_iconst (v := 1) hX (dk DX11_read 11 rfl) (by decide) ?_
    refine g_isub hX (dk DX11_read 12 rfl) ?_
    refine g_c3I hX sX11_read_19 (by decide) (Nat.le_of_ble_eq_true rfl) rcN (by decide) (by decide) (c_X11_isNot hG ) ?_
    refine g_ifb_eq (tgt := 29) hX (dk DX11_read 14 rfl) (by decide) (fun hc2 => ?_) (fun hc2 => ?_)
    · obtain ⟨hs0, k, hk, ek⟩ := tp_in hE ht (Decidable.not_not.mp hc2)
      refine g_aload_0 hX (dk DX11_read 17 rfl) ?_
      refine g_getRs (r := 36) hX (dk DX11_read 18 rfl) KX11 fX11_56 (by decide) rfl (CLt hH (q := 0) (by decide)) (CC hH 0 (by decide) rfl) (CR hH 0 11 36 (by decide)) ?_
      refine g_iload_1 hX (dk DX11_read 19 rfl) ?_
      refine i_aaload (i0 := 7) hX (dk DX11_read 20 rfl) (CLt hH (q := 36) (by decide)) (CS hH 36 (by decide) rfl) (by decide) rfl rfl (⟨rfl, ht, by decide⟩) (IT_r hH ht) ?_
      refine g_iload_2 hX (dk DX11_read 21 rfl) ?_
      refine v_laload hX (dk DX11_read 22 rfl) (IT_lt hH ht) (IT_sh hH ht) (⟨ek, hk, by decide⟩) (hT.2.2 k hk) ?_
      refine g_lreturn hX (dk DX11_read 23 rfl) rfl (by decide) (by decide) ?_
      exact qXL_of (by unfold readF; rw [if_neg hc1, tN_nI (by omega), if_neg hs0, if_neg hc2, ek, tN_nI (by omega)]) hY
    · refine g_ldc2_w (v := -9223372036854775808) hX (dk DX11_read 15 rfl) (tg_4 79 rfl rfl) ?_
      refine g_lreturn hX (dk DX11_read 16 rfl) rfl (by decide) (by decide) ?_
      first
      | exact qXL_of (by unfold readF; rw [if_pos hc1]; rfl) hY
      | exact qXL_of (by unfold readF; rw [if_neg hc1, tN_nI (by omega)]; split <;> first | rfl | (rw [if_pos hc2]; rfl)) hY

set_option maxRecDepth 8000 in
set_option maxHeartbeats 4000000 in
theorem c_X11_cut {G : Gt} (hG : Gok G) {I : It} {h : Ht}  {s : Nat} {v : Int64} (hs : s ≤ 4) : Con G (1) 0 0 mX11_cut [.long v, .int (nI s)] I h (rL (narF (nI s) v) I h) := by
  refine con_intro (own := RX11) (lo0 := [some (.long v), none, some (.int (nI s))]) hG rfl pl_X11 (Nat.le_of_ble_eq_true rfl) rfl (fun X hX => ?_)
  refine g_iload_2 hX (dk DX11_cut 0 rfl) ?_
  refine g_tswitch (dt := 48) hX [(0, 32), (1, 37), (2, 42), (3, 46)] (dk DX11_cut 1 rfl) (by decide +kernel) ?_
  refine ⟨fun hc1 => ?_, fun hc1n => ?_⟩
  · show GG _ _ _ _ _ _ _ _ _ _ _ _ _
    refine g_lload_0 hX (dk DX11_cut 2 rfl) ?_
    refine g_l2i hX (dk DX11_cut 3 rfl) ?_
    refine g_i2b hX (dk DX11_cut 4 rfl) ?_
    refine g_i2l hX (dk DX11_cut 5 rfl) ?_
    refine g_lreturn hX (dk DX11_cut 6 rfl) rfl (by decide) (by decide) ?_
    exact rL_of (by rw [hc1]; rfl) rfl rfl
  refine ⟨fun hc2 => ?_, fun hc2n => ?_⟩
  · show GG _ _ _ _ _ _ _ _ _ _ _ _ _
    refine g_lload_0 hX (dk DX11_cut 7 rfl) ?_
    refine g_l2i hX (dk DX11_cut 8 rfl) ?_
    refine g_i2s hX (dk DX11_cut 9 rfl) ?_
    refine g_i2l hX (dk DX11_cut 10 rfl) ?_
    refine g_lreturn hX (dk DX11_cut 11 rfl) rfl (by decide) (by decide) ?_
    exact rL_of (by rw [hc2]; rfl) rfl rfl
  refine ⟨fun hc3 => ?_, fun hc3n => ?_⟩
  · show GG _ _ _ _ _ _ _ _ _ _ _ _ _
    refine g_lload_0 hX (dk DX11_cut 12 rfl) ?_
    refine g_l2i hX (dk DX11_cut 13 rfl) ?_
    refine g_i2l hX (dk DX11_cut 14 rfl) ?_
    refine g_lreturn hX (dk DX11_cut 15 rfl) rfl (by decide) (by decide) ?_
    exact rL_of (by rw [hc3]; rfl) rfl rfl
  refine ⟨fun hc4 => ?_, fun hc4n => ?_⟩
  · show GG _ _ _ _ _ _ _ _ _ _ _ _ _
    refine g_lload_0 hX (dk DX11_cut 16 rfl) ?_
    refine g_lreturn hX (dk DX11_cut 17 rfl) rfl (by decide) (by decide) ?_
    exact rL_of (by rw [hc4]; rfl) rfl rfl
  show GG _ _ _ _ _ _ _ _ _ _ _ _ _
  refine g_lload_0 hX (dk DX11_cut 18 rfl) ?_
  refine g_lconst (v := 0) hX (dk DX11_cut 19 rfl) (by decide) ?_
  refine g_lcmp hX (dk DX11_cut 20 rfl) ?_
  refine g_if_eq (tgt := 58) hX (dk DX11_cut 21 rfl) (by decide) (fun hc6 => ?_) (fun hc6 => ?_)
  · refine g_lconst (v := 0) hX (dk DX11_cut 24 rfl) (by decide) ?_
    refine g_lreturn hX (dk DX11_cut 25 rfl) rfl (by decide) (by decide) ?_
    have h4 : nI s = 4 := by
      rcases (by omega : s = 0 ∨ s = 1 ∨ s = 2 ∨ s = 3 ∨ s = 4) with rfl | rfl | rfl | rfl | rfl
      · exact absurd rfl hc1n
      · exact absurd rfl hc2n
      · exact absurd rfl hc3n
      · exact absurd rfl hc4n
      · rfl
    rw [h4]
    first
    | exact rL_of (by show _ = if v = 0 then (0 : Int64) else 1; rw [if_pos ((lg_eq v 0).mp (by assumption))]) rfl rfl
    | exact rL_of (by show _ = if v = 0 then (0 : Int64) else 1; rw [if_neg (fun z => absurd ((lg_eq v 0).mpr z) (by assumption))]) rfl rfl
  · refine g_lconst (v := 1) hX (dk DX11_cut 22 rfl) (by decide) ?_
    refine g_goto (tgt := 59) hX (dk DX11_cut 23 rfl) (by decide) ?_
    refine g_lreturn hX (dk DX11_cut 25 rfl) rfl (by decide) (by decide) ?_
    have h4 : nI s = 4 := by
      rcases (by omega : s = 0 ∨ s = 1 ∨ s = 2 ∨ s = 3 ∨ s = 4) with rfl | rfl | rfl | rfl | rfl
      · exact absurd rfl hc1n
      · exact absurd rfl hc2n
      · exact absurd rfl hc3n
      · exact absurd rfl hc4n
      · rfl
    rw [h4]
    first
    | exact rL_of (by show _ = if v = 0 then (0 : Int64) else 1; rw [if_pos ((lg_eq v 0).mp (by assumption))]) rfl rfl
    | exact rL_of (by show _ = if v = 0 then (0 : Int64) else 1; rw [if_neg (fun z => absurd ((lg_eq v 0).mpr z) (by assumption))]) rfl rfl

set_option maxRecDepth 8000 in
set_option maxHeartbeats 4000000 in
theorem x_item {G : Gt} (hG : Gok G) {I : It} {h : Ht}  {E : It} {L : Nat → Int64} (hE : Inv E) (hY : RY E L I h) {a e : Int32} {v : Int64} : Con G (3) 0 0 mX11_item [.ref 0, .int a, .int e, .long v] I h (qX ((itemS E L a e v).1, E) (itemS E L a e v).2 (hn h)) := by
  refine con_intro (own := RX11) (lo0 := [some (.ref 0), some (.int a), some (.int e), some (.long v), none]) hG rfl pl_X11 (Nat.le_of_ble_eq_true rfl) rfl (fun X hX => ?_)
  have hW := hY.wx hE
  have hH := hW.1
  have hc10 := hW.2.1.2
  refine g_iload_1 hX (dk DX11_item 0 rfl) ?_
  refine g_iconst (v := 0) hX (dk DX11_item 1 rfl) (by decide) ?_
  refine g_iconst (v := 5) hX (dk DX11_item 2 rfl) (by decide) ?_
  refine g_c3I hX sX11_item_3 (by decide) (Nat.le_of_ble_eq_true rfl) rcN (by decide) (by decide) (c_X11_isNot hG ) ?_
  refine g_ifb_eq (tgt := 11) hX (dk DX11_item 4 rfl) (by decide) (fun hc1 => ?_) (fun hc1 => ?_)
  · obtain ⟨t, ht5, rfl⟩ := in_of (b := 5) (by decide) (Decidable.not_not.mp hc1)
    have ht : t < 6 := by omega
    have hT := hY.2.2.2.2.2.2.1 t ht
    refine g_aload_0 hX (dk DX11_item 7 rfl) ?_
    refine g_getRs (r := 34) hX (dk DX11_item 8 rfl) KX11 fX11_47 (by decide) rfl (CLt hH (q := 0) (by decide)) (CC hH 0 (by decide) rfl) (CR hH 0 9 34 (by decide)) ?_
    refine g_iload_1 hX (dk DX11_item 9 rfl) ?_
    refine v_iaload hX (dk DX11_item 10 rfl) (CLt hH (q := 34) (by decide)) (CS hH 34 (by decide) rfl) (⟨rfl, ht, by decide⟩) (hT.1) ?_
    refine g_iconst (v := -1) hX (dk DX11_item 11 rfl) (by decide) ?_
    refine g_icmp_ne (tgt := 24) hX (dk DX11_item 12 rfl) (by decide) (fun hc2 => ?_) (fun hc2 => ?_)
    · have hsne := hc2
      obtain ⟨l, hl, el, hz, hs⟩ := tp_of hE ht
      have hs4 : ∃ s, s ≤ 4 ∧ E 36 t = nI s := hs.resolve_left hsne
      obtain ⟨s, hs4, es⟩ := hs4
      refine g_iload_2 hX (dk DX11_item 15 rfl) ?_
      refine g_iconst (v := 0) hX (dk DX11_item 16 rfl) (by decide) ?_
      refine g_aload_0 hX (dk DX11_item 17 rfl) ?_
      refine g_getRs (r := 35) hX (dk DX11_item 18 rfl) KX11 fX11_51 (by decide) rfl (CLt hH (q := 0) (by decide)) (CC hH 0 (by decide) rfl) (CR hH 0 10 35 (by decide)) ?_
      refine g_iload_1 hX (dk DX11_item 19 rfl) ?_
      refine v_iaload hX (dk DX11_item 20 rfl) (CLt hH (q := 35) (by decide)) (CS hH 35 (by decide) rfl) (⟨rfl, ht, by decide⟩) (hT.2.1) ?_
      refine g_iconst (v := 1) hX (dk DX11_item 21 rfl) (by decide) ?_
      refine g_isub hX (dk DX11_item 22 rfl) ?_
      refine g_c3I hX sX11_item_34 (by decide) (Nat.le_of_ble_eq_true rfl) rcN (by decide) (by decide) (c_X11_isNot hG ) ?_
      refine g_ifb_eq (tgt := 43) hX (dk DX11_item 24 rfl) (by decide) (fun hc3 => ?_) (fun hc3 => ?_)
      · obtain ⟨hs0, k, hk, ek⟩ := tp_in hE ht (Decidable.not_not.mp hc3)
        refine g_aload_0 hX (dk DX11_item 27 rfl) ?_
        refine g_getRs (r := 36) hX (dk DX11_item 28 rfl) KX11 fX11_56 (by decide) rfl (CLt hH (q := 0) (by decide)) (CC hH 0 (by decide) rfl) (CR hH 0 11 36 (by decide)) ?_
        refine g_iload_1 hX (dk DX11_item 29 rfl) ?_
        refine i_aaload (i0 := 7) hX (dk DX11_item 30 rfl) (CLt hH (q := 36) (by decide)) (CS hH 36 (by decide) rfl) (by decide) rfl rfl (⟨rfl, ht, by decide⟩) (IT_r hH ht) ?_
        refine g_iload_2 hX (dk DX11_item 31 rfl) ?_
        refine g_lload_3 hX (dk DX11_item 32 rfl) ?_
        refine g_aload_0 hX (dk DX11_item 33 rfl) ?_
        refine g_getRs (r := 34) hX (dk DX11_item 34 rfl) KX11 fX11_47 (by decide) rfl (CLt hH (q := 0) (by decide)) (CC hH 0 (by decide) rfl) (CR hH 0 9 34 (by decide)) ?_
        refine g_iload_1 hX (dk DX11_item 35 rfl) ?_
        refine v_iaload hX (dk DX11_item 36 rfl) (CLt hH (q := 34) (by decide)) (CS hH 34 (by decide) rfl) (⟨rfl, ht, by decide⟩) (hT.1.trans es) ?_
        refine g_c2L hX sX11_item_57 (by decide) (Nat.le_of_ble_eq_true rfl) rcN (by decide) (by decide) (c_X11_cut hG hs4) ?_
        refine i_lastore hX (dk DX11_item 38 rfl) (IT_lt hH ht) (IT_sh hH ht) (⟨ek, hk, by decide⟩) ?_
        refine g_iconst (v := 1) hX (dk DX11_item 39 rfl) (by decide) ?_
        refine g_ireturn hX (dk DX11_item 40 rfl) rfl (rfl) (by decide) (by decide) ?_
        exact it_of (by unfold itemS; rw [if_neg hc1, tN_nI (by omega), if_neg (not_not_intro (show 0 ≤ E 36 t from by rw [es]; exact nI_pos' (by omega))), if_neg (show ¬ ¬ (0 ≤ e ∧ e ≤ E 37 t - 1) by assumption), ek, tN_nI (by omega), es]) (hY.it ht hk _)
      · refine g_bipush (v := -13) hX (dk DX11_item 25 rfl) (by decide) ?_
        refine g_ireturn hX (dk DX11_item 26 rfl) rfl (rfl) (by decide) (by decide) ?_
        exact it_of (by unfold itemS; rw [if_neg hc1, tN_nI (by omega), if_neg (not_not_intro (show 0 ≤ E 36 t from by rw [es]; exact nI_pos' (by omega))), if_pos (by assumption)]) hY
    · refine g_bipush (v := -11) hX (dk DX11_item 13 rfl) (by decide) ?_
      refine g_ireturn hX (dk DX11_item 14 rfl) rfl (rfl) (by decide) (by decide) ?_
      exact it_of (by unfold itemS; rw [if_neg hc1, tN_nI (by omega), if_pos (show ¬ 0 ≤ E 36 t from by rw [show E 36 t = -1 by first | assumption | exact Decidable.not_not.mp (by assumption)]; decide)]) hY
  · refine g_iconst (v := -1) hX (dk DX11_item 5 rfl) (by decide) ?_
    refine g_ireturn hX (dk DX11_item 6 rfl) rfl (rfl) (by decide) (by decide) ?_
    exact it_of (by unfold itemS; rw [if_pos hc1]) hY
end
section
set_option maxRecDepth 8000 in
set_option maxHeartbeats 4000000 in
theorem x_tape {G : Gt} (hG : Gok G) {I : It} {h : Ht}  {E : It} {L : Nat → Int64} (hE : Inv E) (hY : RY E L I h) {a s n : Int32} : Con G (3) 0 0 mX11_tape [.ref 0, .int a, .int s, .int n] I h (qX (tapeS E a s n) (tapeL L a s n) (hn h)) := by
  refine con_intro (own := RX11) (lo0 := [some (.ref 0), some (.int a), some (.int s), some (.int n)]) hG rfl pl_X11 (Nat.le_of_ble_eq_true rfl) rfl (fun X hX => ?_)
  have hW := hY.wx hE
  have hH := hW.1
  have hc10 := hW.2.1.2
  refine g_iload_1 hX (dk DX11_tape 0 rfl) ?_
  refine g_iconst (v := 0) hX (dk DX11_tape 1 rfl) (by decide) ?_
  refine g_iconst (v := 5) hX (dk DX11_tape 2 rfl) (by decide) ?_
  refine g_c3I hX sX11_tape_3 (by decide) (Nat.le_of_ble_eq_true rfl) rcN (by decide) (by decide) (c_X11_isNot hG ) ?_
  refine g_ifb_eq (tgt := 11) hX (dk DX11_tape 4 rfl) (by decide) (fun hc1 => ?_) (fun hc1 => ?_)
  · obtain ⟨t, ht5, rfl⟩ := in_of (b := 5) (by decide) (Decidable.not_not.mp hc1)
    have ht : t < 6 := by omega
    have hT := hY.2.2.2.2.2.2.1 t ht
    refine g_iload_2 hX (dk DX11_tape 7 rfl) ?_
    refine g_iconst (v := -1) hX (dk DX11_tape 8 rfl) (by decide) ?_
    refine g_iconst (v := 4) hX (dk DX11_tape 9 rfl) (by decide) ?_
    refine g_c3I hX sX11_tape_14 (by decide) (Nat.le_of_ble_eq_true rfl) rcN (by decide) (by decide) (c_X11_isNot hG ) ?_
    refine g_ifb_ne (tgt := 31) hX (dk DX11_tape 11 rfl) (by decide) (fun hc2 => ?_) (fun hc2 => ?_)
    · refine g_bipush (v := -2) hX (dk DX11_tape 18 rfl) (by decide) ?_
      refine g_ireturn hX (dk DX11_tape 19 rfl) rfl (rfl) (by decide) (by decide) ?_
      first
      | exact absurd (show s = -1 by assumption) (show ¬ s = -1 by assumption)
      | exact tp2_of (by unfold tapeS; rw [if_neg hc1, if_pos (show ¬ (-1 ≤ s ∧ s ≤ 4) by assumption)]) (by unfold tapeL; rw [if_neg hc1, if_pos (show ¬ (-1 ≤ s ∧ s ≤ 4) by assumption)]; first | done | rfl) rfl hY
      | exact tp2_of (by unfold tapeS; rw [if_neg hc1, if_neg (show ¬ ¬ (-1 ≤ s ∧ s ≤ 4) by assumption), if_neg (s_nn (show ¬ ¬ (-1 ≤ s ∧ s ≤ 4) by assumption) (show ¬ s = -1 by assumption)), if_pos (show ¬ n ≤ 60 by assumption)]) (by unfold tapeL; rw [if_neg hc1, if_neg (show ¬ ¬ (-1 ≤ s ∧ s ≤ 4) by assumption), if_neg (s_nn (show ¬ ¬ (-1 ≤ s ∧ s ≤ 4) by assumption) (show ¬ s = -1 by assumption)), if_pos (show ¬ n ≤ 60 by assumption)]; first | done | rfl) rfl hY
    · refine g_iload_2 hX (dk DX11_tape 12 rfl) ?_
      refine g_iconst (v := -1) hX (dk DX11_tape 13 rfl) (by decide) ?_
      refine g_icmp_eq (tgt := 34) hX (dk DX11_tape 14 rfl) (by decide) (fun hc3 => ?_) (fun hc3 => ?_)
      · refine g_iload_2 hX (dk DX11_tape 20 rfl) ?_
        refine g_iconst (v := -1) hX (dk DX11_tape 21 rfl) (by decide) ?_
        refine g_icmp_eq (tgt := 46) hX (dk DX11_tape 22 rfl) (by decide) (fun hc4 => ?_) (fun hc4 => ?_)
        · refine g_aload_0 hX (dk DX11_tape 27 rfl) ?_
          refine g_getRs (r := 34) hX (dk DX11_tape 28 rfl) KX11 fX11_47 (by decide) rfl (CLt hH (q := 0) (by decide)) (CC hH 0 (by decide) rfl) (CR hH 0 9 34 (by decide)) ?_
          refine g_iload_1 hX (dk DX11_tape 29 rfl) ?_
          refine g_iload_2 hX (dk DX11_tape 30 rfl) ?_
          refine i_iastore hX (dk DX11_tape 31 rfl) (CLt hH (q := 34) (by decide)) (CS hH 34 (by decide) rfl) (⟨rfl, ht, by decide⟩) ?_
          refine g_aload_0 hX (dk DX11_tape 32 rfl) ?_
          refine g_getRs (r := 35) hX (dk DX11_tape 33 rfl) KX11 fX11_51 (by decide) rfl (CLt hH (q := 0) (by decide)) (CC hH 0 (by decide) rfl) (CR hH 0 10 35 (by decide)) ?_
          refine g_iload_1 hX (dk DX11_tape 34 rfl) ?_
          refine g_iload_2 hX (dk DX11_tape 35 rfl) ?_
          refine g_iconst (v := -1) hX (dk DX11_tape 36 rfl) (by decide) ?_
          refine g_icmp_ne (tgt := 67) hX (dk DX11_tape 37 rfl) (by decide) (fun hc5 => ?_) (fun hc5 => ?_)
          · refine g_iload_3 hX (dk DX11_tape 40 rfl) ?_
            refine i_iastore hX (dk DX11_tape 41 rfl) (CLt hH (q := 35) (by decide)) (CS hH 35 (by decide) rfl) (⟨rfl, ht, by decide⟩) ?_
            refine g_aload_0 hX (dk DX11_tape 42 rfl) ?_
            refine g_getRs (r := 36) hX (dk DX11_tape 43 rfl) KX11 fX11_56 (by decide) rfl (CLt hH (q := 0) (by decide)) (CC hH 0 (by decide) rfl) (CR hH 0 11 36 (by decide)) ?_
            refine g_iload_1 hX (dk DX11_tape 44 rfl) ?_
            refine i_aaload (i0 := 7) hX (dk DX11_tape 45 rfl) (CLt hH (q := 36) (by decide)) (CS hH 36 (by decide) rfl) (by decide) rfl rfl (⟨rfl, ht, by decide⟩) (IT_r hH ht) ?_
            refine g_lconst (v := 0) hX (dk DX11_tape 46 rfl) (by decide) ?_
            refine g_c2v hX sX11_tape_76 (by decide) (Nat.le_of_ble_eq_true rfl) rcN (by decide) (by decide) (c_J7_fill_d0a16 hG (len := 60) (IT_lt hH ht) (IT_sh hH ht) (by decide)) ?_
            rintro I9 h9 ⟨f1, -, f3, f4, f5, f6, rfl⟩
            refine g_iconst (v := 1) hX (dk DX11_tape 48 rfl) (by decide) ?_
            refine g_ireturn hX (dk DX11_tape 49 rfl) rfl (rfl) (by decide) (by decide) ?_
            first
            | exact absurd (show s = -1 by assumption) (show ¬ s = -1 by assumption)
            | exact tp2_of (E' := (upI (upI E 36 t s) 37 t 0)) (by unfold tapeS; rw [if_neg hc1, if_neg (show ¬ ¬ (-1 ≤ s ∧ s ≤ 4) by assumption), if_pos (s_m1 (show s = -1 by assumption)), tN_nI (by omega)]) (by unfold tapeL; rw [if_neg hc1, if_neg (show ¬ ¬ (-1 ≤ s ∧ s ≤ 4) by assumption), if_pos (s_m1 (show s = -1 by assumption)), tN_nI (by omega)]; first | done | rfl) f6 (hY.tape ht s 0 f1 f3 f4 f5 f6)
            | exact tp2_of (E' := (upI (upI E 36 t s) 37 t n)) (by unfold tapeS; rw [if_neg hc1, if_neg (show ¬ ¬ (-1 ≤ s ∧ s ≤ 4) by assumption), if_neg (s_nn (show ¬ ¬ (-1 ≤ s ∧ s ≤ 4) by assumption) (show ¬ s = -1 by assumption)), if_neg (show ¬ ¬ n ≤ 60 from not_not_intro (by assumption)), if_neg (show ¬ ¬ 0 ≤ n from not_not_intro (by assumption)), tN_nI (by omega)]) (by unfold tapeL; rw [if_neg hc1, if_neg (show ¬ ¬ (-1 ≤ s ∧ s ≤ 4) by assumption), if_neg (s_nn (show ¬ ¬ (-1 ≤ s ∧ s ≤ 4) by assumption) (show ¬ s = -1 by assumption)), if_neg (show ¬ ¬ n ≤ 60 from not_not_intro (by assumption)), if_neg (show ¬ ¬ 0 ≤ n from not_not_intro (by assumption)), tN_nI (by omega)]; first | done | rfl) f6 (hY.tape ht s n f1 f3 f4 f5 f6)
          · refine g_iconst (v := 0) hX (dk DX11_tape 38 rfl) (by decide) ?_
            refine g_goto (tgt := 68) hX (dk DX11_tape 39 rfl) (by decide) ?_
            refine i_iastore hX (dk DX11_tape 41 rfl) (CLt hH (q := 35) (by decide)) (CS hH 35 (by decide) rfl) (⟨rfl, ht, by decide⟩) ?_
            refine g_aload_0 hX (dk DX11_tape 42 rfl) ?_
            refine g_getRs (r := 36) hX (dk DX11_tape 43 rfl) KX11 fX11_56 (by decide) rfl (CLt hH (q := 0) (by decide)) (CC hH 0 (by decide) rfl) (CR hH 0 11 36 (by decide)) ?_
            refine g_iload_1 hX (dk DX11_tape 44 rfl) ?_
            refine i_aaload (i0 := 7) hX (dk DX11_tape 45 rfl) (CLt hH (q := 36) (by decide)) (CS hH 36 (by decide) rfl) (by decide) rfl rfl (⟨rfl, ht, by decide⟩) (IT_r hH ht) ?_
            refine g_lconst (v := 0) hX (dk DX11_tape 46 rfl) (by decide) ?_
            refine g_c2v hX sX11_tape_76 (by decide) (Nat.le_of_ble_eq_true rfl) rcN (by decide) (by decide) (c_J7_fill_d0a16 hG (len := 60) (IT_lt hH ht) (IT_sh hH ht) (by decide)) ?_
            rintro I9 h9 ⟨f1, -, f3, f4, f5, f6, rfl⟩
            refine g_iconst (v := 1) hX (dk DX11_tape 48 rfl) (by decide) ?_
            refine g_ireturn hX (dk DX11_tape 49 rfl) rfl (rfl) (by decide) (by decide) ?_
            first
            | exact absurd (show s = -1 by assumption) (show ¬ s = -1 by assumption)
            | exact tp2_of (E' := (upI (upI E 36 t s) 37 t 0)) (by unfold tapeS; rw [if_neg hc1, if_neg (show ¬ ¬ (-1 ≤ s ∧ s ≤ 4) by assumption), if_pos (s_m1 (show s = -1 by assumption)), tN_nI (by omega)]) (by unfold tapeL; rw [if_neg hc1, if_neg (show ¬ ¬ (-1 ≤ s ∧ s ≤ 4) by assumption), if_pos (s_m1 (show s = -1 by assumption)), tN_nI (by omega)]; first | done | rfl) f6 (hY.tape ht s 0 f1 f3 f4 f5 f6)
            | exact tp2_of (E' := (upI (upI E 36 t s) 37 t n)) (by unfold tapeS; rw [if_neg hc1, if_neg (show ¬ ¬ (-1 ≤ s ∧ s ≤ 4) by assumption), if_neg (s_nn (show ¬ ¬ (-1 ≤ s ∧ s ≤ 4) by assumption) (show ¬ s = -1 by assumption)), if_neg (show ¬ ¬ n ≤ 60 from not_not_intro (by assumption)), if_neg (show ¬ ¬ 0 ≤ n from not_not_intro (by assumption)), tN_nI (by omega)]) (by unfold tapeL; rw [if_neg hc1, if_neg (show ¬ ¬ (-1 ≤ s ∧ s ≤ 4) by assumption), if_neg (s_nn (show ¬ ¬ (-1 ≤ s ∧ s ≤ 4) by assumption) (show ¬ s = -1 by assumption)), if_neg (show ¬ ¬ n ≤ 60 from not_not_intro (by assumption)), if_neg (show ¬ ¬ 0 ≤ n from not_not_intro (by assumption)), tN_nI (by omega)]; first | done | rfl) f6 (hY.tape ht s n f1 f3 f4 f5 f6)
        · refine g_iload_3 hX (dk DX11_tape 23 rfl) ?_
          refine g_if_ge (tgt := 46) hX (dk DX11_tape 24 rfl) (by decide) (fun hc6 => ?_) (fun hc6 => ?_)
          · refine g_aload_0 hX (dk DX11_tape 27 rfl) ?_
            refine g_getRs (r := 34) hX (dk DX11_tape 28 rfl) KX11 fX11_47 (by decide) rfl (CLt hH (q := 0) (by decide)) (CC hH 0 (by decide) rfl) (CR hH 0 9 34 (by decide)) ?_
            refine g_iload_1 hX (dk DX11_tape 29 rfl) ?_
            refine g_iload_2 hX (dk DX11_tape 30 rfl) ?_
            refine i_iastore hX (dk DX11_tape 31 rfl) (CLt hH (q := 34) (by decide)) (CS hH 34 (by decide) rfl) (⟨rfl, ht, by decide⟩) ?_
            refine g_aload_0 hX (dk DX11_tape 32 rfl) ?_
            refine g_getRs (r := 35) hX (dk DX11_tape 33 rfl) KX11 fX11_51 (by decide) rfl (CLt hH (q := 0) (by decide)) (CC hH 0 (by decide) rfl) (CR hH 0 10 35 (by decide)) ?_
            refine g_iload_1 hX (dk DX11_tape 34 rfl) ?_
            refine g_iload_2 hX (dk DX11_tape 35 rfl) ?_
            refine g_iconst (v := -1) hX (dk DX11_tape 36 rfl) (by decide) ?_
            refine g_icmp_ne (tgt := 67) hX (dk DX11_tape 37 rfl) (by decide) (fun hc7 => ?_) (fun hc7 => ?_)
            · refine g_iload_3 hX (dk DX11_tape 40 rfl) ?_
              refine i_iastore hX (dk DX11_tape 41 rfl) (CLt hH (q := 35) (by decide)) (CS hH 35 (by decide) rfl) (⟨rfl, ht, by decide⟩) ?_
              refine g_aload_0 hX (dk DX11_tape 42 rfl) ?_
              refine g_getRs (r := 36) hX (dk DX11_tape 43 rfl) KX11 fX11_56 (by decide) rfl (CLt hH (q := 0) (by decide)) (CC hH 0 (by decide) rfl) (CR hH 0 11 36 (by decide)) ?_
              refine g_iload_1 hX (dk DX11_tape 44 rfl) ?_
              refine i_aaload (i0 := 7) hX (dk DX11_tape 45 rfl) (CLt hH (q := 36) (by decide)) (CS hH 36 (by decide) rfl) (by decide) rfl rfl (⟨rfl, ht, by decide⟩) (IT_r hH ht) ?_
              refine g_lconst (v := 0) hX (dk DX11_tape 46 rfl) (by decide) ?_
              refine g_c2v hX sX11_tape_76 (by decide) (Nat.le_of_ble_eq_true rfl) rcN (by decide) (by decide) (c_J7_fill_d0a16 hG (len := 60) (IT_lt hH ht) (IT_sh hH ht) (by decide)) ?_
              rintro I9 h9 ⟨f1, -, f3, f4, f5, f6, rfl⟩
              refine g_iconst (v := 1) hX (dk DX11_tape 48 rfl) (by decide) ?_
              refine g_ireturn hX (dk DX11_tape 49 rfl) rfl (rfl) (by decide) (by decide) ?_
              first
              | exact absurd (show s = -1 by assumption) (show ¬ s = -1 by assumption)
              | exact tp2_of (E' := (upI (upI E 36 t s) 37 t 0)) (by unfold tapeS; rw [if_neg hc1, if_neg (show ¬ ¬ (-1 ≤ s ∧ s ≤ 4) by assumption), if_pos (s_m1 (show s = -1 by assumption)), tN_nI (by omega)]) (by unfold tapeL; rw [if_neg hc1, if_neg (show ¬ ¬ (-1 ≤ s ∧ s ≤ 4) by assumption), if_pos (s_m1 (show s = -1 by assumption)), tN_nI (by omega)]; first | done | rfl) f6 (hY.tape ht s 0 f1 f3 f4 f5 f6)
              | exact tp2_of (E' := (upI (upI E 36 t s) 37 t n)) (by unfold tapeS; rw [if_neg hc1, if_neg (show ¬ ¬ (-1 ≤ s ∧ s ≤ 4) by assumption), if_neg (s_nn (show ¬ ¬ (-1 ≤ s ∧ s ≤ 4) by assumption) (show ¬ s = -1 by assumption)), if_neg (show ¬ ¬ n ≤ 60 from not_not_intro (by assumption)), if_neg (show ¬ ¬ 0 ≤ n from not_not_intro (by assumption)), tN_nI (by omega)]) (by unfold tapeL; rw [if_neg hc1, if_neg (show ¬ ¬ (-1 ≤ s ∧ s ≤ 4) by assumption), if_neg (s_nn (show ¬ ¬ (-1 ≤ s ∧ s ≤ 4) by assumption) (show ¬ s = -1 by assumption)), if_neg (show ¬ ¬ n ≤ 60 from not_not_intro (by assumption)), if_neg (show ¬ ¬ 0 ≤ n from not_not_intro (by assumption)), tN_nI (by omega)]; first | done | rfl) f6 (hY.tape ht s n f1 f3 f4 f5 f6)
            · refine g_iconst (v := 0) hX (dk DX11_tape 38 rfl) (by decide) ?_
              refine g_goto (tgt := 68) hX (dk DX11_tape 39 rfl) (by decide) ?_
              refine i_iastore hX (dk DX11_tape 41 rfl) (CLt hH (q := 35) (by decide)) (CS hH 35 (by decide) rfl) (⟨rfl, ht, by decide⟩) ?_
              refine g_aload_0 hX (dk DX11_tape 42 rfl) ?_
              refine g_getRs (r := 36) hX (dk DX11_tape 43 rfl) KX11 fX11_56 (by decide) rfl (CLt hH (q := 0) (by decide)) (CC hH 0 (by decide) rfl) (CR hH 0 11 36 (by decide)) ?_
              refine g_iload_1 hX (dk DX11_tape 44 rfl) ?_
              refine i_aaload (i0 := 7) hX (dk DX11_tape 45 rfl) (CLt hH (q := 36) (by decide)) (CS hH 36 (by decide) rfl) (by decide) rfl rfl (⟨rfl, ht, by decide⟩) (IT_r hH ht) ?_
              refine g_lconst (v := 0) hX (dk DX11_tape 46 rfl) (by decide) ?_
              refine g_c2v hX sX11_tape_76 (by decide) (Nat.le_of_ble_eq_true rfl) rcN (by decide) (by decide) (c_J7_fill_d0a16 hG (len := 60) (IT_lt hH ht) (IT_sh hH ht) (by decide)) ?_
              rintro I9 h9 ⟨f1, -, f3, f4, f5, f6, rfl⟩
              refine g_iconst (v := 1) hX (dk DX11_tape 48 rfl) (by decide) ?_
              refine g_ireturn hX (dk DX11_tape 49 rfl) rfl (rfl) (by decide) (by decide) ?_
              first
              | exact absurd (show s = -1 by assumption) (show ¬ s = -1 by assumption)
              | exact tp2_of (E' := (upI (upI E 36 t s) 37 t 0)) (by unfold tapeS; rw [if_neg hc1, if_neg (show ¬ ¬ (-1 ≤ s ∧ s ≤ 4) by assumption), if_pos (s_m1 (show s = -1 by assumption)), tN_nI (by omega)]) (by unfold tapeL; rw [if_neg hc1, if_neg (show ¬ ¬ (-1 ≤ s ∧ s ≤ 4) by assumption), if_pos (s_m1 (show s = -1 by assumption)), tN_nI (by omega)]; first | done | rfl) f6 (hY.tape ht s 0 f1 f3 f4 f5 f6)
              | exact tp2_of (E' := (upI (upI E 36 t s) 37 t n)) (by unfold tapeS; rw [if_neg hc1, if_neg (show ¬ ¬ (-1 ≤ s ∧ s ≤ 4) by assumption), if_neg (s_nn (show ¬ ¬ (-1 ≤ s ∧ s ≤ 4) by assumption) (show ¬ s = -1 by assumption)), if_neg (show ¬ ¬ n ≤ 60 from not_not_intro (by assumption)), if_neg (show ¬ ¬ 0 ≤ n from not_not_intro (by assumption)), tN_nI (by omega)]) (by unfold tapeL; rw [if_neg hc1, if_neg (show ¬ ¬ (-1 ≤ s ∧ s ≤ 4) by assumption), if_neg (s_nn (show ¬ ¬ (-1 ≤ s ∧ s ≤ 4) by assumption) (show ¬ s = -1 by assumption)), if_neg (show ¬ ¬ n ≤ 60 from not_not_intro (by assumption)), if_neg (show ¬ ¬ 0 ≤ n from not_not_intro (by assumption)), tN_nI (by omega)]; first | done | rfl) f6 (hY.tape ht s n f1 f3 f4 f5 f6)
          · refine g_bipush (v := -14) hX (dk DX11_tape 25 rfl) (by decide) ?_
            refine g_ireturn hX (dk DX11_tape 26 rfl) rfl (rfl) (by decide) (by decide) ?_
            first
            | exact absurd (show s = -1 by assumption) (show ¬ s = -1 by assumption)
            | exact tp2_of (by unfold tapeS; rw [if_neg hc1, if_neg (show ¬ ¬ (-1 ≤ s ∧ s ≤ 4) by assumption), if_neg (s_nn (show ¬ ¬ (-1 ≤ s ∧ s ≤ 4) by assumption) (show ¬ s = -1 by assumption)), if_neg (show ¬ ¬ n ≤ 60 from not_not_intro (by assumption)), if_pos (show ¬ 0 ≤ n by assumption)]) (by unfold tapeL; rw [if_neg hc1, if_neg (show ¬ ¬ (-1 ≤ s ∧ s ≤ 4) by assumption), if_neg (s_nn (show ¬ ¬ (-1 ≤ s ∧ s ≤ 4) by assumption) (show ¬ s = -1 by assumption)), if_neg (show ¬ ¬ n ≤ 60 from not_not_intro (by assumption)), if_pos (show ¬ 0 ≤ n by assumption)]; first | done | rfl) rfl hY
      · refine g_iload_3 hX (dk DX11_tape 15 rfl) ?_
        refine g_bipush (v := 60) hX (dk DX11_tape 16 rfl) (by decide) ?_
        refine g_icmp_le (tgt := 34) hX (dk DX11_tape 17 rfl) (by decide) (fun hc8 => ?_) (fun hc8 => ?_)
        · refine g_iload_2 hX (dk DX11_tape 20 rfl) ?_
          refine g_iconst (v := -1) hX (dk DX11_tape 21 rfl) (by decide) ?_
          refine g_icmp_eq (tgt := 46) hX (dk DX11_tape 22 rfl) (by decide) (fun hc9 => ?_) (fun hc9 => ?_)
          · refine g_aload_0 hX (dk DX11_tape 27 rfl) ?_
            refine g_getRs (r := 34) hX (dk DX11_tape 28 rfl) KX11 fX11_47 (by decide) rfl (CLt hH (q := 0) (by decide)) (CC hH 0 (by decide) rfl) (CR hH 0 9 34 (by decide)) ?_
            refine g_iload_1 hX (dk DX11_tape 29 rfl) ?_
            refine g_iload_2 hX (dk DX11_tape 30 rfl) ?_
            refine i_iastore hX (dk DX11_tape 31 rfl) (CLt hH (q := 34) (by decide)) (CS hH 34 (by decide) rfl) (⟨rfl, ht, by decide⟩) ?_
            refine g_aload_0 hX (dk DX11_tape 32 rfl) ?_
            refine g_getRs (r := 35) hX (dk DX11_tape 33 rfl) KX11 fX11_51 (by decide) rfl (CLt hH (q := 0) (by decide)) (CC hH 0 (by decide) rfl) (CR hH 0 10 35 (by decide)) ?_
            refine g_iload_1 hX (dk DX11_tape 34 rfl) ?_
            refine g_iload_2 hX (dk DX11_tape 35 rfl) ?_
            refine g_iconst (v := -1) hX (dk DX11_tape 36 rfl) (by decide) ?_
            refine g_icmp_ne (tgt := 67) hX (dk DX11_tape 37 rfl) (by decide) (fun hc10 => ?_) (fun hc10 => ?_)
            · refine g_iload_3 hX (dk DX11_tape 40 rfl) ?_
              refine i_iastore hX (dk DX11_tape 41 rfl) (CLt hH (q := 35) (by decide)) (CS hH 35 (by decide) rfl) (⟨rfl, ht, by decide⟩) ?_
              refine g_aload_0 hX (dk DX11_tape 42 rfl) ?_
              refine g_getRs (r := 36) hX (dk DX11_tape 43 rfl) KX11 fX11_56 (by decide) rfl (CLt hH (q := 0) (by decide)) (CC hH 0 (by decide) rfl) (CR hH 0 11 36 (by decide)) ?_
              refine g_iload_1 hX (dk DX11_tape 44 rfl) ?_
              refine i_aaload (i0 := 7) hX (dk DX11_tape 45 rfl) (CLt hH (q := 36) (by decide)) (CS hH 36 (by decide) rfl) (by decide) rfl rfl (⟨rfl, ht, by decide⟩) (IT_r hH ht) ?_
              refine g_lconst (v := 0) hX (dk DX11_tape 46 rfl) (by decide) ?_
              refine g_c2v hX sX11_tape_76 (by decide) (Nat.le_of_ble_eq_true rfl) rcN (by decide) (by decide) (c_J7_fill_d0a16 hG (len := 60) (IT_lt hH ht) (IT_sh hH ht) (by decide)) ?_
              rintro I9 h9 ⟨f1, -, f3, f4, f5, f6, rfl⟩
              refine g_iconst (v := 1) hX (dk DX11_tape 48 rfl) (by decide) ?_
              refine g_ireturn hX (dk DX11_tape 49 rfl) rfl (rfl) (by decide) (by decide) ?_
              first
              | exact absurd (show s = -1 by assumption) (show ¬ s = -1 by assumption)
              | exact tp2_of (E' := (upI (upI E 36 t s) 37 t 0)) (by unfold tapeS; rw [if_neg hc1, if_neg (show ¬ ¬ (-1 ≤ s ∧ s ≤ 4) by assumption), if_pos (s_m1 (show s = -1 by assumption)), tN_nI (by omega)]) (by unfold tapeL; rw [if_neg hc1, if_neg (show ¬ ¬ (-1 ≤ s ∧ s ≤ 4) by assumption), if_pos (s_m1 (show s = -1 by assumption)), tN_nI (by omega)]; first | done | rfl) f6 (hY.tape ht s 0 f1 f3 f4 f5 f6)
              | exact tp2_of (E' := (upI (upI E 36 t s) 37 t n)) (by unfold tapeS; rw [if_neg hc1, if_neg (show ¬ ¬ (-1 ≤ s ∧ s ≤ 4) by assumption), if_neg (s_nn (show ¬ ¬ (-1 ≤ s ∧ s ≤ 4) by assumption) (show ¬ s = -1 by assumption)), if_neg (show ¬ ¬ n ≤ 60 from not_not_intro (by assumption)), if_neg (show ¬ ¬ 0 ≤ n from not_not_intro (by assumption)), tN_nI (by omega)]) (by unfold tapeL; rw [if_neg hc1, if_neg (show ¬ ¬ (-1 ≤ s ∧ s ≤ 4) by assumption), if_neg (s_nn (show ¬ ¬ (-1 ≤ s ∧ s ≤ 4) by assumption) (show ¬ s = -1 by assumption)), if_neg (show ¬ ¬ n ≤ 60 from not_not_intro (by assumption)), if_neg (show ¬ ¬ 0 ≤ n from not_not_intro (by assumption)), tN_nI (by omega)]; first | done | rfl) f6 (hY.tape ht s n f1 f3 f4 f5 f6)
            · refine g_iconst (v := 0) hX (dk DX11_tape 38 rfl) (by decide) ?_
              refine g_goto (tgt := 68) hX (dk DX11_tape 39 rfl) (by decide) ?_
              refine i_iastore hX (dk DX11_tape 41 rfl) (CLt hH (q := 35) (by decide)) (CS hH 35 (by decide) rfl) (⟨rfl, ht, by decide⟩) ?_
              refine g_aload_0 hX (dk DX11_tape 42 rfl) ?_
              refine g_getRs (r := 36) hX (dk DX11_tape 43 rfl) KX11 fX11_56 (by decide) rfl (CLt hH (q := 0) (by decide)) (CC hH 0 (by decide) rfl) (CR hH 0 11 36 (by decide)) ?_
              refine g_iload_1 hX (dk DX11_tape 44 rfl) ?_
              refine i_aaload (i0 := 7) hX (dk DX11_tape 45 rfl) (CLt hH (q := 36) (by decide)) (CS hH 36 (by decide) rfl) (by decide) rfl rfl (⟨rfl, ht, by decide⟩) (IT_r hH ht) ?_
              refine g_lconst (v := 0) hX (dk DX11_tape 46 rfl) (by decide) ?_
              refine g_c2v hX sX11_tape_76 (by decide) (Nat.le_of_ble_eq_true rfl) rcN (by decide) (by decide) (c_J7_fill_d0a16 hG (len := 60) (IT_lt hH ht) (IT_sh hH ht) (by decide)) ?_
              rintro I9 h9 ⟨f1, -, f3, f4, f5, f6, rfl⟩
              refine g_iconst (v := 1) hX (dk DX11_tape 48 rfl) (by decide) ?_
              refine g_ireturn hX (dk DX11_tape 49 rfl) rfl (rfl) (by decide) (by decide) ?_
              first
              | exact absurd (show s = -1 by assumption) (show ¬ s = -1 by assumption)
              | exact tp2_of (E' := (upI (upI E 36 t s) 37 t 0)) (by unfold tapeS; rw [if_neg hc1, if_neg (show ¬ ¬ (-1 ≤ s ∧ s ≤ 4) by assumption), if_pos (s_m1 (show s = -1 by assumption)), tN_nI (by omega)]) (by unfold tapeL; rw [if_neg hc1, if_neg (show ¬ ¬ (-1 ≤ s ∧ s ≤ 4) by assumption), if_pos (s_m1 (show s = -1 by assumption)), tN_nI (by omega)]; first | done | rfl) f6 (hY.tape ht s 0 f1 f3 f4 f5 f6)
              | exact tp2_of (E' := (upI (upI E 36 t s) 37 t n)) (by unfold tapeS; rw [if_neg hc1, if_neg (show ¬ ¬ (-1 ≤ s ∧ s ≤ 4) by assumption), if_neg (s_nn (show ¬ ¬ (-1 ≤ s ∧ s ≤ 4) by assumption) (show ¬ s = -1 by assumption)), if_neg (show ¬ ¬ n ≤ 60 from not_not_intro (by assumption)), if_neg (show ¬ ¬ 0 ≤ n from not_not_intro (by assumption)), tN_nI (by omega)]) (by unfold tapeL; rw [if_neg hc1, if_neg (show ¬ ¬ (-1 ≤ s ∧ s ≤ 4) by assumption), if_neg (s_nn (show ¬ ¬ (-1 ≤ s ∧ s ≤ 4) by assumption) (show ¬ s = -1 by assumption)), if_neg (show ¬ ¬ n ≤ 60 from not_not_intro (by assumption)), if_neg (show ¬ ¬ 0 ≤ n from not_not_intro (by assumption)), tN_nI (by omega)]; first | done | rfl) f6 (hY.tape ht s n f1 f3 f4 f5 f6)
          · refine g_iload_3 hX (dk DX11_tape 23 rfl) ?_
            refine g_if_ge (tgt := 46) hX (dk DX11_tape 24 rfl) (by decide) (fun hc11 => ?_) (fun hc11 => ?_)
            · refine g_aload_0 hX (dk DX11_tape 27 rfl) ?_
              refine g_getRs (r := 34) hX (dk DX11_tape 28 rfl) KX11 fX11_47 (by decide) rfl (CLt hH (q := 0) (by decide)) (CC hH 0 (by decide) rfl) (CR hH 0 9 34 (by decide)) ?_
              refine g_iload_1 hX (dk DX11_tape 29 rfl) ?_
              refine g_iload_2 hX (dk DX11_tape 30 rfl) ?_
              refine i_iastore hX (dk DX11_tape 31 rfl) (CLt hH (q := 34) (by decide)) (CS hH 34 (by decide) rfl) (⟨rfl, ht, by decide⟩) ?_
              refine g_aload_0 hX (dk DX11_tape 32 rfl) ?_
              refine g_getRs (r := 35) hX (dk DX11_tape 33 rfl) KX11 fX11_51 (by decide) rfl (CLt hH (q := 0) (by decide)) (CC hH 0 (by decide) rfl) (CR hH 0 10 35 (by decide)) ?_
              refine g_iload_1 hX (dk DX11_tape 34 rfl) ?_
              refine g_iload_2 hX (dk DX11_tape 35 rfl) ?_
              refine g_iconst (v := -1) hX (dk DX11_tape 36 rfl) (by decide) ?_
              refine g_icmp_ne (tgt := 67) hX (dk DX11_tape 37 rfl) (by decide) (fun hc12 => ?_) (fun hc12 => ?_)
              · refine g_iload_3 hX (dk DX11_tape 40 rfl) ?_
                refine i_iastore hX (dk DX11_tape 41 rfl) (CLt hH (q := 35) (by decide)) (CS hH 35 (by decide) rfl) (⟨rfl, ht, by decide⟩) ?_
                refine g_aload_0 hX (dk DX11_tape 42 rfl) ?_
                refine g_getRs (r := 36) hX (dk DX11_tape 43 rfl) KX11 fX11_56 (by decide) rfl (CLt hH (q := 0) (by decide)) (CC hH 0 (by decide) rfl) (CR hH 0 11 36 (by decide)) ?_
                refine g_iload_1 hX (dk DX11_tape 44 rfl) ?_
                refine i_aaload (i0 := 7) hX (dk DX11_tape 45 rfl) (CLt hH (q := 36) (by decide)) (CS hH 36 (by decide) rfl) (by decide) rfl rfl (⟨rfl, ht, by decide⟩) (IT_r hH ht) ?_
                refine g_lconst (v := 0) hX (dk DX11_tape 46 rfl) (by decide) ?_
                refine g_c2v hX sX11_tape_76 (by decide) (Nat.le_of_ble_eq_true rfl) rcN (by decide) (by decide) (c_J7_fill_d0a16 hG (len := 60) (IT_lt hH ht) (IT_sh hH ht) (by decide)) ?_
                rintro I9 h9 ⟨f1, -, f3, f4, f5, f6, rfl⟩
                refine g_iconst (v := 1) hX (dk DX11_tape 48 rfl) (by decide) ?_
                refine g_ireturn hX (dk DX11_tape 49 rfl) rfl (rfl) (by decide) (by decide) ?_
                first
                | exact absurd (show s = -1 by assumption) (show ¬ s = -1 by assumption)
                | exact tp2_of (E' := (upI (upI E 36 t s) 37 t 0)) (by unfold tapeS; rw [if_neg hc1, if_neg (show ¬ ¬ (-1 ≤ s ∧ s ≤ 4) by assumption), if_pos (s_m1 (show s = -1 by assumption)), tN_nI (by omega)]) (by unfold tapeL; rw [if_neg hc1, if_neg (show ¬ ¬ (-1 ≤ s ∧ s ≤ 4) by assumption), if_pos (s_m1 (show s = -1 by assumption)), tN_nI (by omega)]; first | done | rfl) f6 (hY.tape ht s 0 f1 f3 f4 f5 f6)
                | exact tp2_of (E' := (upI (upI E 36 t s) 37 t n)) (by unfold tapeS; rw [if_neg hc1, if_neg (show ¬ ¬ (-1 ≤ s ∧ s ≤ 4) by assumption), if_neg (s_nn (show ¬ ¬ (-1 ≤ s ∧ s ≤ 4) by assumption) (show ¬ s = -1 by assumption)), if_neg (show ¬ ¬ n ≤ 60 from not_not_intro (by assumption)), if_neg (show ¬ ¬ 0 ≤ n from not_not_intro (by assumption)), tN_nI (by omega)]) (by unfold tapeL; rw [if_neg hc1, if_neg (show ¬ ¬ (-1 ≤ s ∧ s ≤ 4) by assumption), if_neg (s_nn (show ¬ ¬ (-1 ≤ s ∧ s ≤ 4) by assumption) (show ¬ s = -1 by assumption)), if_neg (show ¬ ¬ n ≤ 60 from not_not_intro (by assumption)), if_neg (show ¬ ¬ 0 ≤ n from not_not_intro (by assumption)), tN_nI (by omega)]; first | done | rfl) f6 (hY.tape ht s n f1 f3 f4 f5 f6)
              · refine g_iconst (v := 0) hX (dk DX11_tape 38 rfl) (by decide) ?_
                refine g_goto (tgt := 68) hX (dk DX11_tape 39 rfl) (by decide) ?_
                refine i_iastore hX (dk DX11_tape 41 rfl) (CLt hH (q := 35) (by decide)) (CS hH 35 (by decide) rfl) (⟨rfl, ht, by decide⟩) ?_
                refine g_aload_0 hX (dk DX11_tape 42 rfl) ?_
                refine g_getRs (r := 36) hX (dk DX11_tape 43 rfl) KX11 fX11_56 (by decide) rfl (CLt hH (q := 0) (by decide)) (CC hH 0 (by decide) rfl) (CR hH 0 11 36 (by decide)) ?_
                refine g_iload_1 hX (dk DX11_tape 44 rfl) ?_
                refine i_aaload (i0 := 7) hX (dk DX11_tape 45 rfl) (CLt hH (q := 36) (by decide)) (CS hH 36 (by decide) rfl) (by decide) rfl rfl (⟨rfl, ht, by decide⟩) (IT_r hH ht) ?_
                refine g_lconst (v := 0) hX (dk DX11_tape 46 rfl) (by decide) ?_
                refine g_c2v hX sX11_tape_76 (by decide) (Nat.le_of_ble_eq_true rfl) rcN (by decide) (by decide) (c_J7_fill_d0a16 hG (len := 60) (IT_lt hH ht) (IT_sh hH ht) (by decide)) ?_
                rintro I9 h9 ⟨f1, -, f3, f4, f5, f6, rfl⟩
                refine g_iconst (v := 1) hX (dk DX11_tape 48 rfl) (by decide) ?_
                refine g_ireturn hX (dk DX11_tape 49 rfl) rfl (rfl) (by decide) (by decide) ?_
                first
                | exact absurd (show s = -1 by assumption) (show ¬ s = -1 by assumption)
                | exact tp2_of (E' := (upI (upI E 36 t s) 37 t 0)) (by unfold tapeS; rw [if_neg hc1, if_neg (show ¬ ¬ (-1 ≤ s ∧ s ≤ 4) by assumption), if_pos (s_m1 (show s = -1 by assumption)), tN_nI (by omega)]) (by unfold tapeL; rw [if_neg hc1, if_neg (show ¬ ¬ (-1 ≤ s ∧ s ≤ 4) by assumption), if_pos (s_m1 (show s = -1 by assumption)), tN_nI (by omega)]; first | done | rfl) f6 (hY.tape ht s 0 f1 f3 f4 f5 f6)
                | exact tp2_of (E' := (upI (upI E 36 t s) 37 t n)) (by unfold tapeS; rw [if_neg hc1, if_neg (show ¬ ¬ (-1 ≤ s ∧ s ≤ 4) by assumption), if_neg (s_nn (show ¬ ¬ (-1 ≤ s ∧ s ≤ 4) by assumption) (show ¬ s = -1 by assumption)), if_neg (show ¬ ¬ n ≤ 60 from not_not_intro (by assumption)), if_neg (show ¬ ¬ 0 ≤ n from not_not_intro (by assumption)), tN_nI (by omega)]) (by unfold tapeL; rw [if_neg hc1, if_neg (show ¬ ¬ (-1 ≤ s ∧ s ≤ 4) by assumption), if_neg (s_nn (show ¬ ¬ (-1 ≤ s ∧ s ≤ 4) by assumption) (show ¬ s = -1 by assumption)), if_neg (show ¬ ¬ n ≤ 60 from not_not_intro (by assumption)), if_neg (show ¬ ¬ 0 ≤ n from not_not_intro (by assumption)), tN_nI (by omega)]; first | done | rfl) f6 (hY.tape ht s n f1 f3 f4 f5 f6)
            · refine g_bipush (v := -14) hX (dk DX11_tape 25 rfl) (by decide) ?_
              refine g_ireturn hX (dk DX11_tape 26 rfl) rfl (rfl) (by decide) (by decide) ?_
              first
              | exact absurd (show s = -1 by assumption) (show ¬ s = -1 by assumption)
              | exact tp2_of (by unfold tapeS; rw [if_neg hc1, if_neg (show ¬ ¬ (-1 ≤ s ∧ s ≤ 4) by assumption), if_neg (s_nn (show ¬ ¬ (-1 ≤ s ∧ s ≤ 4) by assumption) (show ¬ s = -1 by assumption)), if_neg (show ¬ ¬ n ≤ 60 from not_not_intro (by assumption)), if_pos (show ¬ 0 ≤ n by assumption)]) (by unfold tapeL; rw [if_neg hc1, if_neg (show ¬ ¬ (-1 ≤ s ∧ s ≤ 4) by assumption), if_neg (s_nn (show ¬ ¬ (-1 ≤ s ∧ s ≤ 4) by assumption) (show ¬ s = -1 by assumption)), if_neg (show ¬ ¬ n ≤ 60 from not_not_intro (by assumption)), if_pos (show ¬ 0 ≤ n by assumption)]; first | done | rfl) rfl hY
        · refine g_bipush (v := -2) hX (dk DX11_tape 18 rfl) (by decide) ?_
          refine g_ireturn hX (dk DX11_tape 19 rfl) rfl (rfl) (by decide) (by decide) ?_
          first
          | exact absurd (show s = -1 by assumption) (show ¬ s = -1 by assumption)
          | exact tp2_of (by unfold tapeS; rw [if_neg hc1, if_pos (show ¬ (-1 ≤ s ∧ s ≤ 4) by assumption)]) (by unfold tapeL; rw [if_neg hc1, if_pos (show ¬ (-1 ≤ s ∧ s ≤ 4) by assumption)]; first | done | rfl) rfl hY
          | exact tp2_of (by unfold tapeS; rw [if_neg hc1, if_neg (show ¬ ¬ (-1 ≤ s ∧ s ≤ 4) by assumption), if_neg (s_nn (show ¬ ¬ (-1 ≤ s ∧ s ≤ 4) by assumption) (show ¬ s = -1 by assumption)), if_pos (show ¬ n ≤ 60 by assumption)]) (by unfold tapeL; rw [if_neg hc1, if_neg (show ¬ ¬ (-1 ≤ s ∧ s ≤ 4) by assumption), if_neg (s_nn (show ¬ ¬ (-1 ≤ s ∧ s ≤ 4) by assumption) (show ¬ s = -1 by assumption)), if_pos (show ¬ n ≤ 60 by assumption)]; first | done | rfl) rfl hY
  · refine g_iconst (v := -1) hX (dk DX11_tape 5 rfl) (by decide) ?_
    refine g_ireturn hX (dk DX11_tape 6 rfl) rfl (rfl) (by decide) (by decide) ?_
    exact tp2_of (by unfold tapeS; rw [if_pos hc1]) (by unfold tapeL; rw [if_pos hc1]; first | done | rfl) rfl hY
end
section
/-! a post is read: the relation stands -/
theorem RY.kp {E : It} {L : Nat → Int64} {I J : It} {h : Ht} {p : Nat} (hY : RY E L I h) (hp : p < 6) (hK : KP p I J) : RY E L J h := by
  refine hY.kI (fun _ _ => by rw [hK.1 1 (by omega)]) (fun _ _ => by rw [hK.1 0 (by omega)]) (fun a ha => hK.1 a (by omega)) (fun a ha _ => hK.1 a (by omega)) ⟨hY.2.2.2.2.1.1.1, fun q hq => ?_⟩
  by_cases e : q = p
  · subst e
    exact ⟨hK.2.2.1, hK.2.2.2⟩
  · refine ⟨?_, fun k hk => ?_⟩
    · rw [hK.1 _ (by omega)]; exact (hY.2.2.2.2.1.1.2 q hq).1
    · rw [hK.1 _ (by omega)]; exact (hY.2.2.2.2.1.1.2 q hq).2 k hk
theorem wR_n {h : Ht} {q j a b : Nat} {r : Option Nat} (e : ¬ (a = q ∧ b = j)) : hR (wR h q j r) a b = hR h a b := by
  show (if a = q ∧ b = j then r else hR h a b) = _
  rw [if_neg e]
theorem wR_s {h : Ht} {q j : Nat} {r : Option Nat} : hR (wR h q j r) q j = r := by
  show (if q = q ∧ j = j then r else hR h q j) = _
  rw [if_pos ⟨rfl, rfl⟩]
theorem RY_ps {E : It} {L : Nat → Int64} {I : It} {h : Ht} {p : Nat} (hY : RY E L I h) (hp : p < 6) : RY E L I (wR h 1 13 (some (43 + 5 * p))) := by
  obtain ⟨g1, g2, ⟨g3, g4⟩, ⟨g5, g5b⟩, ⟨g6, g7⟩, g8, g9, g10, g11⟩ := hY
  refine ⟨g1.wr (by decide), StR.keep g2 (fun _ _ => rfl) (fun j => wR_n (by omega)) (Nat.le_refl _) (fun _ _ => rfl), ⟨g3, fun e => StR.keep (g4 e) (fun _ _ => rfl) (fun j => wR_n (by omega)) (Nat.le_refl _) (fun _ _ => rfl)⟩, ⟨fun j hj => ?_, fun j hj => ?_⟩, ⟨⟨fun r hr => ?_, g6.2⟩, fun r hr => ?_⟩, g8, g9, g10, g11⟩
  · rw [wR_n (by omega)]; exact okD.mv rfl rfl (g5 j hj)
  · rw [wR_n (by omega)]; exact okD.mv rfl rfl (g5b j hj)
  · rw [wR_s] at hr
    exact ⟨p, hp, (Option.some.inj hr).symm⟩
  · rw [wR_n (by omega)] at hr
    exact g7 r hr
theorem PSr {h : Ht} (hH : HX h) {p : Nat} (hp : p < 6) : hR h 30 p = some (43 + 5 * p) := by
  rcases (by omega : p = 0 ∨ p = 1 ∨ p = 2 ∨ p = 3 ∨ p = 4 ∨ p = 5) with rfl | rfl | rfl | rfl | rfl | rfl <;> exact CR hH 30 _ _ (by decide)
theorem w_X3_readFrom {G : Gt} (hG : Gok G) {I : It} {h : Ht} (hH : HX h) {p : Nat} (hp : p < 6) {s : Int32} (hPO : PO I h) : Con G 15 0 0 mX3_readFrom [.ref (43 + 5 * p), .int s] I h (qI fun _ I2 h2 => KP p I I2 ∧ h2 = h) :=
  (c_X3_readFrom hG hH hp (s := s) hPO).imp fun r I' h' hq => by
    obtain ⟨e1, e2, e3⟩ := hq
    exact ⟨_, e1, by rw [e2]; exact KP.rf 10 (KP.rfZ (fun _ _ => rfl) (fun k hk => (hPO.2 p hp).2 k hk)), e3⟩
theorem p_w {E : It} {L : Nat → Int64} {I : It} {h : Ht} {p : Nat} (hY : RY E L I h) (e : I 0 5 = nI p) (hp : p < 6) : RY E L (upI I 0 5 (I 0 5 + 1)) h := by
  rw [e, nI_1]
  exact RY.u05 hY (by omega)
theorem ix4 {w : Int32} (h0 : 0 ≤ w) (h : ¬ ¬ (-1 ≤ w ∧ w ≤ 3)) : idx w (tN w) 4 := by
  obtain ⟨n, hn, rfl⟩ := in_of (b := 3) (by decide) ⟨h0, (Decidable.not_not.mp h).2⟩
  exact ⟨by rw [tN_nI (by omega)], by rw [tN_nI (by omega)]; omega, by decide⟩
theorem cpI_29 (J : It) {a : Nat} (ha : a ≠ 29) : cpI J 28 29 0 0 4 a = J a := by
  funext b
  unfold cpI
  simp [ha]
theorem ev_e {c : Nat} {x : Int32} (e : x = nI c) (hc : c ≤ 8) : bitI x - 1 = nI (2 ^ c - 1) := by
  rw [e, bit_nI c (by omega), show (1 : Int32) = nI 1 from rfl, pk_sub (Nat.one_le_two_pow)]
theorem p256 {c : Nat} (hc : c ≤ 8) : 1 ≤ 2 ^ c ∧ 2 ^ c ≤ 256 := ⟨Nat.one_le_two_pow, Nat.pow_le_pow_right (n := 2) (by decide) hc⟩
theorem s_go {c s : Nat} (hc : c ≤ 8) (hs : s ≤ 256) (h : ¬ nI (2 ^ c - 1) < nI s) : s < 2 ^ c := by
  have h2 := p256 hc
  rcases Nat.lt_or_ge s (2 ^ c) with z | z
  · exact z
  · exact absurd (nI_lt (by omega) (by omega)) h

set_option maxRecDepth 8000 in
set_option maxHeartbeats 4000000 in
theorem x_post {G : Gt} (hG : Gok G) {I : It} {h : Ht}  {E : It} {L : Nat → Int64} (hE : Inv E) (hY : RY E L I h)  : Con G (16) 0 0 mX11_post [.ref 0] I h (qW E L (hn h)) := by
  refine con_intro (own := RX11) (lo0 := [some (.ref 0), none, none]) hG rfl pl_X11 (Nat.le_of_ble_eq_true rfl) rfl (fun X hX => ?_)
  have hW := hY.wx hE
  have hH := hW.1
  have hc10 := hW.2.1.2
  obtain ⟨p, hp6, ep⟩ := hY.2.2.2.2.2.2.2.1
  refine g_aload_0 hX (dk DX11_post 0 rfl) ?_
  refine g_getIv hX (dk DX11_post 1 rfl) KX11 fX11_145 (by decide) rfl (CLt hH (q := 0) (by decide)) (CC hH 0 (by decide) rfl) (ep) ?_
  refine g_aload_0 hX (dk DX11_post 2 rfl) ?_
  refine g_getRs (r := 30) hX (dk DX11_post 3 rfl) KX11 fX11_32 (by decide) rfl (CLt hH (q := 0) (by decide)) (CC hH 0 (by decide) rfl) (CR hH 0 4 30 (by decide)) ?_
  refine g_alen (v := 6) hX (dk DX11_post 4 rfl) (CLt hH (q := 30) (by decide)) (CS hH 30 (by decide) rfl) (by decide) (i0 := 5) rfl (by decide) ?_
  refine g_icmp_lt (tgt := 15) hX (dk DX11_post 5 rfl) (by decide) (fun hc1 => ?_) (fun hc1 => ?_)
  · have hp : p < 6 := lt_nI (b := 6) (by omega) (by decide) hc1
    refine g_aload_0 hX (dk DX11_post 8 rfl) ?_
    refine g_getRs (r := 30) hX (dk DX11_post 9 rfl) KX11 fX11_32 (by decide) rfl (CLt hH (q := 0) (by decide)) (CC hH 0 (by decide) rfl) (CR hH 0 4 30 (by decide)) ?_
    refine g_aload_0 hX (dk DX11_post 10 rfl) ?_
    refine g_getIv hX (dk DX11_post 11 rfl) KX11 fX11_145 (by decide) rfl (CLt hH (q := 0) (by decide)) (CC hH 0 (by decide) rfl) (ep) ?_
    refine i_aaload (i0 := 5) hX (dk DX11_post 12 rfl) (CLt hH (q := 30) (by decide)) (CS hH 30 (by decide) rfl) (by decide) rfl rfl (⟨rfl, hp, by decide⟩) (PSr hH hp) ?_
    refine g_astore_1 hX (dk DX11_post 13 rfl) (by decide) rfl ?_
    refine g_aload_1 hX (dk DX11_post 14 rfl) ?_
    refine g_aload_0 hX (dk DX11_post 15 rfl) ?_
    refine g_getI hX (dk DX11_post 16 rfl) KX11 fX11_142 (by decide) rfl (CLt hH (q := 0) (by decide)) (CC hH 0 (by decide) rfl) ?_
    refine g_c2q hX sX11_post_30 (by decide) (Nat.le_of_ble_eq_true rfl) (rc0 rfl (PL0 hH hp) (PSh hH hp)) (by decide) (by decide) (w_X3_readFrom hG hH hp hY.2.2.2.2.1.1) ?_
    rintro x J h9 ⟨hK, e9⟩
    subst e9
    have hY2 := hY.kp hp hK
    refine g_istore_2 hX (dk DX11_post 18 rfl) (by decide) rfl ?_
    refine g_aload_0 hX (dk DX11_post 19 rfl) ?_
    refine g_iconst (v := 0) hX (dk DX11_post 20 rfl) (by decide) ?_
    refine g_putI hX (dk DX11_post 21 rfl) KX11 fX11_142 (by decide) rfl (CLt hH (q := 0) (by decide)) (CC hH 0 (by decide) rfl) (Or.inl rfl) (rfl) (rfl) ?_
    refine g_iload_2 hX (dk DX11_post 22 rfl) ?_
    refine g_if_lt (tgt := 48) hX (dk DX11_post 23 rfl) (by decide) (fun hc2 => ?_) (fun hc2 => ?_)
    · refine g_aload_0 hX (dk DX11_post 28 rfl) ?_
      refine g_getRs (r := 1) hX (dk DX11_post 29 rfl) KX11 fX11_12 (by decide) rfl (CLt hH (q := 0) (by decide)) (CC hH 0 (by decide) rfl) (CR hH 0 0 1 (by decide)) ?_
      refine g_aload_1 hX (dk DX11_post 30 rfl) ?_
      refine g_putR (r := some (43 + 5 * p)) hX (dk DX11_post 31 rfl) KX5 fX11_152 (by decide) rfl (CLt hH (q := 1) (by decide)) (CC hH 1 (by decide) rfl) (Or.inl rfl) rfl (rfl) (rfl) ?_
      refine g_aload_0 hX (dk DX11_post 32 rfl) ?_
      refine g_dup hX (dk DX11_post 33 rfl) rfl ?_
      refine g_getI hX (dk DX11_post 34 rfl) KX11 fX11_145 (by decide) rfl (CLt hH (q := 0) (by decide)) (CC hH 0 (by decide) rfl) ?_
      refine g_iconst (v := 1) hX (dk DX11_post 35 rfl) (by decide) ?_
      refine g_iadd hX (dk DX11_post 36 rfl) ?_
      refine g_putI hX (dk DX11_post 37 rfl) KX11 fX11_145 (by decide) rfl (CLt hH (q := 0) (by decide)) (CC hH 0 (by decide) rfl) (Or.inl rfl) (rfl) (rfl) ?_
      refine g_aload_0 hX (dk DX11_post 38 rfl) ?_
      refine g_getI hX (dk DX11_post 39 rfl) KX11 fX11_145 (by decide) rfl (CLt hH (q := 0) (by decide)) (CC hH 0 (by decide) rfl) ?_
      refine g_iconst (v := 1) hX (dk DX11_post 40 rfl) (by decide) ?_
      refine g_isub hX (dk DX11_post 41 rfl) ?_
      refine g_ireturn hX (dk DX11_post 42 rfl) rfl (rfl) (by decide) (by decide) ?_
      exact qW_of (RY_ps (p_w (RY.u07 (s := 0) hY2 (by decide)) (e := (upn (by decide)).trans ((congrFun (hK.1 0 (by omega)) 5).trans ep)) hp) hp)
    · refine g_bipush (v := -10) hX (dk DX11_post 24 rfl) (by decide) ?_
      refine g_iload_2 hX (dk DX11_post 25 rfl) ?_
      refine g_isub hX (dk DX11_post 26 rfl) ?_
      refine g_ireturn hX (dk DX11_post 27 rfl) rfl (rfl) (by decide) (by decide) ?_
      exact qW_of (RY.u07 (s := 0) hY2 (by decide))
  · refine g_bipush (v := -4) hX (dk DX11_post 6 rfl) (by decide) ?_
    refine g_ireturn hX (dk DX11_post 7 rfl) rfl (rfl) (by decide) (by decide) ?_
    exact qW_of hY
end
section
set_option maxRecDepth 8000 in
set_option maxHeartbeats 4000000 in
theorem x_split {G : Gt} (hG : Gok G) {I : It} {h : Ht}  {E : It} {L : Nat → Int64} (hE : Inv E) (hY : RY E L I h) {a n w : Int32} : Con G (10) 0 0 mX11_split [.ref 0, .int a, .int n, .int w] I h (qW E L (hn h)) := by
  refine con_intro (own := RX11) (lo0 := [some (.ref 0), some (.int a), some (.int n), some (.int w), none]) hG rfl pl_X11 (Nat.le_of_ble_eq_true rfl) rfl (fun X hX => ?_)
  have hW := hY.wx hE
  have hH := hW.1
  have hc10 := hW.2.1.2
  refine g_iload_3 hX (dk DX11_split 0 rfl) ?_
  refine g_iconst (v := -1) hX (dk DX11_split 1 rfl) (by decide) ?_
  refine g_iconst (v := 3) hX (dk DX11_split 2 rfl) (by decide) ?_
  refine g_c3I hX sX11_split_3 (by decide) (Nat.le_of_ble_eq_true rfl) rcN (by decide) (by decide) (c_X11_isNot hG ) ?_
  refine g_ifb_eq (tgt := 13) hX (dk DX11_split 4 rfl) (by decide) (fun hc1 => ?_) (fun hc1 => ?_)
  · refine g_iload_1 hX (dk DX11_split 7 rfl) ?_
    refine g_iconst (v := 0) hX (dk DX11_split 8 rfl) (by decide) ?_
    refine g_bipush (v := 9) hX (dk DX11_split 9 rfl) (by decide) ?_
    refine g_c3I hX sX11_split_17 (by decide) (Nat.le_of_ble_eq_true rfl) rcN (by decide) (by decide) (c_X11_isNot hG ) ?_
    refine g_ifb_ne (tgt := 33) hX (dk DX11_split 11 rfl) (by decide) (fun hc2 => ?_) (fun hc2 => ?_)
    · refine g_sipush (v := -10002) hX (dk DX11_split 17 rfl) (by decide) ?_
      refine g_ireturn hX (dk DX11_split 18 rfl) rfl (rfl) (by decide) (by decide) ?_
      first
      | exact qW_of hY
      | exact qW_of (hY.sc (hS.trans (hS2.trans hS4)))
    · obtain ⟨hh, hh9, rfl⟩ := in_of (b := 9) (by decide) (Decidable.not_not.mp hc2)
      refine g_iload_2 hX (dk DX11_split 12 rfl) ?_
      refine g_iconst (v := 0) hX (dk DX11_split 13 rfl) (by decide) ?_
      refine g_bipush (v := 60) hX (dk DX11_split 14 rfl) (by decide) ?_
      refine g_c3I hX sX11_split_27 (by decide) (Nat.le_of_ble_eq_true rfl) rcN (by decide) (by decide) (c_X11_isNot hG ) ?_
      refine g_ifb_eq (tgt := 37) hX (dk DX11_split 16 rfl) (by decide) (fun hc3 => ?_) (fun hc3 => ?_)
      · refine g_aload_0 hX (dk DX11_split 19 rfl) ?_
        refine g_getRs (r := 13) hX (dk DX11_split 20 rfl) KX11 fX11_26 (by decide) rfl (CLt hH (q := 0) (by decide)) (CC hH 0 (by decide) rfl) (CR hH 0 3 13 (by decide)) ?_
        refine g_iload_2 hX (dk DX11_split 21 rfl) ?_
        refine g_c2v hX sX11_split_42 (by decide) (Nat.le_of_ble_eq_true rfl) (rc0 rfl (CLt hH (by decide)) (CC hH 13 (by decide) rfl)) (by decide) (by decide) (w_X0_look hG hW) ?_
        rintro J _ ⟨hS, rfl, m, hm, hsp⟩
        have hW2 := hW.sc hS
        refine g_aload_0 hX (dk DX11_split 23 rfl) ?_
        refine g_getRs (r := 13) hX (dk DX11_split 24 rfl) KX11 fX11_26 (by decide) rfl (CLt hH (q := 0) (by decide)) (CC hH 0 (by decide) rfl) (CR hH 0 3 13 (by decide)) ?_
        refine g_c1v hX sX11_split_49 (by decide) (Nat.le_of_ble_eq_true rfl) (rc0 rfl (CLt hH (by decide)) (CC hH 13 (by decide) rfl)) (by decide) (by decide) (w_X0_hear hG hW2) ?_
        rintro J2 _ ⟨hS2, h13, rfl⟩
        have hW3 := hW2.sc hS2
        have hsp2 : J2 13 1 = nI m := by rw [h13]; exact hsp
        refine g_aload_0 hX (dk DX11_split 26 rfl) ?_
        refine g_getRs (r := 13) hX (dk DX11_split 27 rfl) KX11 fX11_26 (by decide) rfl (CLt hH (q := 0) (by decide)) (CC hH 0 (by decide) rfl) (CR hH 0 3 13 (by decide)) ?_
        refine g_iload_1 hX (dk DX11_split 28 rfl) ?_
        refine g_c2q hX sX11_split_57 (by decide) (Nat.le_of_ble_eq_true rfl) (rc0 rfl (CLt hH (by decide)) (CC hH 13 (by decide) rfl)) (by decide) (by decide) (w_X0_bestSplit hG hH (dd := 7) (K := (fun K2 => Sc J2 K2 ∧ K2 13 1 = nI m)) hh9 (by decide) (fun J y x hK => ⟨hK.1.up ⟨by decide, by decide⟩, (upn (by omega)).trans hK.2⟩) (fun J hK => ⟨fun a ha => (cpI_29 J (by omega)).trans (hK.1 a ha), (congrFun (cpI_29 J (by decide)) 1).trans hK.2⟩) (fun J hK => (w_X0_costHanded hG (hW3.sc hK.1) (CLt hH (q := 28) (by decide)) (CS hH 28 (by decide) rfl) hm hK.2).imp (fun r I9 h9 hq => by obtain ⟨x, e1, e2, e3⟩ := hq; exact ⟨x, e1, ⟨hK.1.trans e2.sc, e2.2.trans hK.2⟩, e3⟩)) ⟨Sc.rf, hsp2⟩) ?_
        rintro x J4 _ ⟨⟨hS4, -⟩, rfl⟩
        refine g_istore_4 hX (dk DX11_split 30 rfl) (by decide) rfl ?_
        refine g_iload_3 hX (dk DX11_split 31 rfl) ?_
        refine g_if_ge (tgt := 71) hX (dk DX11_split 32 rfl) (by decide) (fun hc4 => ?_) (fun hc4 => ?_)
        · refine g_aload_0 hX (dk DX11_split 35 rfl) ?_
          refine g_getRs (r := 13) hX (dk DX11_split 36 rfl) KX11 fX11_26 (by decide) rfl (CLt hH (q := 0) (by decide)) (CC hH 0 (by decide) rfl) (CR hH 0 3 13 (by decide)) ?_
          refine g_getRs (r := 29) hX (dk DX11_split 37 rfl) KX0 fX11_205 (by decide) rfl (CLt hH (q := 13) (by decide)) (CC hH 13 (by decide) rfl) (CR hH 13 15 29 (by decide)) ?_
          refine g_iload_3 hX (dk DX11_split 38 rfl) ?_
          refine i_iaload hX (dk DX11_split 39 rfl) (CLt hH (q := 29) (by decide)) (CS hH 29 (by decide) rfl) (ix4 (by assumption) (show ¬ ¬ (-1 ≤ w ∧ w ≤ 3) by assumption)) ?_
          refine g_ireturn hX (dk DX11_split 40 rfl) rfl (rfl) (by decide) (by decide) ?_
          first
          | exact qW_of hY
          | exact qW_of (hY.sc (hS.trans (hS2.trans hS4)))
        · refine g_iload_4 hX (dk DX11_split 33 rfl) ?_
          refine g_goto (tgt := 80) hX (dk DX11_split 34 rfl) (by decide) ?_
          refine g_ireturn hX (dk DX11_split 40 rfl) rfl (rfl) (by decide) (by decide) ?_
          first
          | exact qW_of hY
          | exact qW_of (hY.sc (hS.trans (hS2.trans hS4)))
      · refine g_sipush (v := -10002) hX (dk DX11_split 17 rfl) (by decide) ?_
        refine g_ireturn hX (dk DX11_split 18 rfl) rfl (rfl) (by decide) (by decide) ?_
        first
        | exact qW_of hY
        | exact qW_of (hY.sc (hS.trans (hS2.trans hS4)))
  · refine g_sipush (v := -10001) hX (dk DX11_split 5 rfl) (by decide) ?_
    refine g_ireturn hX (dk DX11_split 6 rfl) rfl (rfl) (by decide) (by decide) ?_
    first
    | exact qW_of hY
    | exact qW_of (hY.sc (hS.trans (hS2.trans hS4)))
end
section
set_option maxRecDepth 8000 in
set_option maxHeartbeats 4000000 in
theorem x_judge {G : Gt} (hG : Gok G) {I : It} {h : Ht}  {E : It} {L : Nat → Int64} (hE : Inv E) (hY : RY E L I h) {a e : Int32} : Con G (3) 0 0 mX11_judge [.ref 0, .int a, .int e] I h (qW E L (hn h)) := by
  refine con_intro (own := RX11) (lo0 := [some (.ref 0), some (.int a), some (.int e), none]) hG rfl pl_X11 (Nat.le_of_ble_eq_true rfl) rfl (fun X hX => ?_)
  have hW := hY.wx hE
  have hH := hW.1
  have hc10 := hW.2.1.2
  have loop36 : ∀ t, t < 6 → ∀ (k d : Nat), d + k = cN I → GG G (3) 0 0 X (qW E L (hn h)) 36 [some (.ref 0), some (.int (nI t)), some (.int e), some (.int (nI d))] [] (I) (h) 0 0 := by
    intro t ht k
    induction k using Nat.strongRecOn with | _ k ih => ?_
    intro d hk
    have hT := hY.2.2.2.2.2.2.1 t ht
    obtain ⟨l, hl, el, -, -⟩ := tp_of hE ht
    refine g_iload_3 hX (dk DX11_judge_0 23 rfl) ?_
    refine g_aload_0 hX (dk DX11_judge_0 24 rfl) ?_
    refine g_getRs (r := 1) hX (dk DX11_judge_0 25 rfl) KX11 fX11_12 (by decide) rfl (CLt hH (q := 0) (by decide)) (CC hH 0 (by decide) rfl) (CR hH 0 0 1 (by decide)) ?_
    refine g_getIv hX (dk DX11_judge_0 26 rfl) KX5 fX11_72 (by decide) rfl (CLt hH (q := 1) (by decide)) (CC hH 1 (by decide) rfl) (hW.2.1.1) ?_
    refine g_icmp_ge (tgt := 102) hX (dk DX11_judge_0 27 rfl) (by decide) (fun hc1 => ?_) (fun hc1 => ?_)
    · refine g_bipush (v := -5) hX (dk DX11_judge_1 2 rfl) (by decide) ?_
      refine g_ireturn hX (dk DX11_judge_1 3 rfl) rfl (rfl) (by decide) (by decide) ?_
      exact qW_of hY
    · obtain ⟨k, rfl⟩ := cl_go hk (by omega) hc1
      refine g_iload_2 hX (dk DX11_judge_0 28 rfl) ?_
      refine g_if_lt (tgt := 63) hX (dk DX11_judge_0 29 rfl) (by decide) (fun hc2 => ?_) (fun hc2 => ?_)
      · refine g_bipush (v := 100) hX (dk DX11_judge_0 38 rfl) (by decide) ?_
        refine g_iload_3 hX (dk DX11_judge_0 39 rfl) ?_
        refine g_iadd hX (dk DX11_judge_0 40 rfl) ?_
        refine g_ireturn hX (dk DX11_judge_0 41 rfl) rfl (rfl) (by decide) (by decide) ?_
        exact qW_of hY
      · refine g_iload_2 hX (dk DX11_judge_0 30 rfl) ?_
        refine g_aload_0 hX (dk DX11_judge_0 31 rfl) ?_
        refine g_getRs (r := 35) hX (dk DX11_judge_0 32 rfl) KX11 fX11_51 (by decide) rfl (CLt hH (q := 0) (by decide)) (CC hH 0 (by decide) rfl) (CR hH 0 10 35 (by decide)) ?_
        refine g_iload_1 hX (dk DX11_judge_0 33 rfl) ?_
        refine v_iaload hX (dk DX11_judge_0 34 rfl) (CLt hH (q := 35) (by decide)) (CS hH 35 (by decide) rfl) (⟨rfl, ht, by decide⟩) (hT.2.1.trans el) ?_
        refine g_iload_3 hX (dk DX11_judge_0 35 rfl) ?_
        refine g_isub hX (dk DX11_judge_0 36 rfl) ?_
        refine g_icmp_lt (tgt := 68) hX (dk DX11_judge_0 37 rfl) (by decide) (fun hc3 => ?_) (fun hc3 => ?_)
        · obtain ⟨q, eq, hqd⟩ := jd_ix (by assumption) hc3 hl (by omega)
          refine g_aload_0 hX (dk DX11_judge_0 42 rfl) ?_
          refine g_getRs (r := 36) hX (dk DX11_judge_0 43 rfl) KX11 fX11_56 (by decide) rfl (CLt hH (q := 0) (by decide)) (CC hH 0 (by decide) rfl) (CR hH 0 11 36 (by decide)) ?_
          refine g_iload_1 hX (dk DX11_judge_0 44 rfl) ?_
          refine i_aaload (i0 := 7) hX (dk DX11_judge_0 45 rfl) (CLt hH (q := 36) (by decide)) (CS hH 36 (by decide) rfl) (by decide) rfl rfl (⟨rfl, ht, by decide⟩) (IT_r hH ht) ?_
          refine g_iload_2 hX (dk DX11_judge_0 46 rfl) ?_
          refine g_iload_3 hX (dk DX11_judge_0 47 rfl) ?_
          refine g_iadd hX (dk DX11_judge_0 48 rfl) ?_
          refine g_nmI (nI (q + d)) (by rw [eq]; exact nI_add _ _) ?_
          refine i_laload hX (dk DX11_judge_0 49 rfl) (IT_lt hH ht) (IT_sh hH ht) (⟨rfl, hqd, by decide⟩) ?_
          refine g_aload_0 hX (dk DX11_judge_0 50 rfl) ?_
          refine g_getRs (r := 1) hX (dk DX11_judge_0 51 rfl) KX11 fX11_12 (by decide) rfl (CLt hH (q := 0) (by decide)) (CC hH 0 (by decide) rfl) (CR hH 0 0 1 (by decide)) ?_
          refine g_getI hX (dk DX11_judge_0 52 rfl) KX5 fX11_116 (by decide) rfl (CLt hH (q := 1) (by decide)) (CC hH 1 (by decide) rfl) ?_
          refine g_iload_3 hX (dk DX11_judge_0 53 rfl) ?_
          refine g_c2I hX sX11_judge_86 (by decide) (Nat.le_of_ble_eq_true rfl) rcN (by decide) (by decide) (c_X11_bit hG ) ?_
          refine g_i2l hX (dk DX11_judge_0 55 rfl) ?_
          refine g_lcmp hX (dk DX11_judge_0 56 rfl) ?_
          refine g_if_eq (tgt := 96) hX (dk DX11_judge_0 57 rfl) (by decide) (fun hc4 => ?_) (fun hc4 => ?_)
          · refine g_iinc_3 hX (dk DX11_judge_1 0 rfl) (nI_1 d) (by decide) rfl ?_
            refine g_goto (tgt := 36) hX (dk DX11_judge_1 1 rfl) (by decide) ?_
            exact g_fgt (ih k (by omega) (d + 1) (by omega)) ⟨rfl, rfl, rfl, rfl, trivial⟩
          · refine g_iload_3 hX (dk DX11_judge_0 58 rfl) ?_
            refine g_ireturn hX (dk DX11_judge_0 59 rfl) rfl (rfl) (by decide) (by decide) ?_
            exact qW_of hY
        · refine g_bipush (v := 100) hX (dk DX11_judge_0 38 rfl) (by decide) ?_
          refine g_iload_3 hX (dk DX11_judge_0 39 rfl) ?_
          refine g_iadd hX (dk DX11_judge_0 40 rfl) ?_
          refine g_ireturn hX (dk DX11_judge_0 41 rfl) rfl (rfl) (by decide) (by decide) ?_
          exact qW_of hY
  refine g_iload_1 hX (dk DX11_judge_0 0 rfl) ?_
  refine g_iconst (v := 0) hX (dk DX11_judge_0 1 rfl) (by decide) ?_
  refine g_iconst (v := 5) hX (dk DX11_judge_0 2 rfl) (by decide) ?_
  refine g_c3I hX sX11_judge_3 (by decide) (Nat.le_of_ble_eq_true rfl) rcN (by decide) (by decide) (c_X11_isNot hG ) ?_
  refine g_ifb_eq (tgt := 11) hX (dk DX11_judge_0 4 rfl) (by decide) (fun hc1 => ?_) (fun hc1 => ?_)
  · obtain ⟨t, ht5, rfl⟩ := in_of (b := 5) (by decide) (Decidable.not_not.mp hc1)
    have ht : t < 6 := by omega
    have hT := hY.2.2.2.2.2.2.1 t ht
    refine g_aload_0 hX (dk DX11_judge_0 7 rfl) ?_
    refine g_getRs (r := 34) hX (dk DX11_judge_0 8 rfl) KX11 fX11_47 (by decide) rfl (CLt hH (q := 0) (by decide)) (CC hH 0 (by decide) rfl) (CR hH 0 9 34 (by decide)) ?_
    refine g_iload_1 hX (dk DX11_judge_0 9 rfl) ?_
    refine i_iaload hX (dk DX11_judge_0 10 rfl) (CLt hH (q := 34) (by decide)) (CS hH 34 (by decide) rfl) (⟨rfl, ht, by decide⟩) ?_
    refine g_iconst (v := -1) hX (dk DX11_judge_0 11 rfl) (by decide) ?_
    refine g_icmp_eq (tgt := 34) hX (dk DX11_judge_0 12 rfl) (by decide) (fun hc2 => ?_) (fun hc2 => ?_)
    · refine g_iconst (v := 0) hX (dk DX11_judge_0 21 rfl) (by decide) ?_
      refine g_istore_3 hX (dk DX11_judge_0 22 rfl) (by decide) rfl ?_
      exact g_fgt (loop36 t ht (cN I) 0 (Nat.zero_add _)) ⟨rfl, rfl, rfl, rfl, trivial⟩
    · refine g_aload_0 hX (dk DX11_judge_0 13 rfl) ?_
      refine g_getRs (r := 34) hX (dk DX11_judge_0 14 rfl) KX11 fX11_47 (by decide) rfl (CLt hH (q := 0) (by decide)) (CC hH 0 (by decide) rfl) (CR hH 0 9 34 (by decide)) ?_
      refine g_iload_1 hX (dk DX11_judge_0 15 rfl) ?_
      refine i_iaload hX (dk DX11_judge_0 16 rfl) (CLt hH (q := 34) (by decide)) (CS hH 34 (by decide) rfl) (⟨rfl, ht, by decide⟩) ?_
      refine g_iconst (v := 4) hX (dk DX11_judge_0 17 rfl) (by decide) ?_
      refine g_icmp_eq (tgt := 34) hX (dk DX11_judge_0 18 rfl) (by decide) (fun hc3 => ?_) (fun hc3 => ?_)
      · refine g_iconst (v := 0) hX (dk DX11_judge_0 21 rfl) (by decide) ?_
        refine g_istore_3 hX (dk DX11_judge_0 22 rfl) (by decide) rfl ?_
        exact g_fgt (loop36 t ht (cN I) 0 (Nat.zero_add _)) ⟨rfl, rfl, rfl, rfl, trivial⟩
      · refine g_bipush (v := -12) hX (dk DX11_judge_0 19 rfl) (by decide) ?_
        refine g_ireturn hX (dk DX11_judge_0 20 rfl) rfl (rfl) (by decide) (by decide) ?_
        exact qW_of hY
  · refine g_iconst (v := -1) hX (dk DX11_judge_0 5 rfl) (by decide) ?_
    refine g_ireturn hX (dk DX11_judge_0 6 rfl) rfl (rfl) (by decide) (by decide) ?_
    exact qW_of hY
end
section
set_option maxRecDepth 8000 in
set_option maxHeartbeats 4000000 in
theorem x_fits {G : Gt} (hG : Gok G) {I : It} {h : Ht}  {E : It} {L : Nat → Int64} (hE : Inv E) (hY : RY E L I h)  : Con G (8) 0 0 mX11_fits [.ref 0] I h (qW E L (hn h)) := by
  refine con_intro (own := RX11) (lo0 := [some (.ref 0), none, none]) hG rfl pl_X11 (Nat.le_of_ble_eq_true rfl) rfl (fun X hX => ?_)
  have hW := hY.wx hE
  have hH := hW.1
  have hc10 := hW.2.1.2
  have loop33 : ∀ m, m ≤ 200 → cN I ≤ 8 → ∀ (k s : Nat) (f : Int32) (J : It), s + k = 2 ^ cN I → Sc I J → J 13 1 = nI m → GG G (8) 0 0 X (qW E L (hn h)) 33 [some (.ref 0), some (.int f), some (.int (nI s))] [] (J) (h) 0 0 := by
    intro m hm hc8 k
    induction k using Nat.strongRecOn with | _ k ih => ?_
    intro s f J hk hS hsp
    have h256 := p256 hc8
    have hWJ := hW.sc hS
    refine g_iload_2 hX (dk DX11_fits 17 rfl) ?_
    refine g_aload_0 hX (dk DX11_fits 18 rfl) ?_
    refine g_getRs (r := 1) hX (dk DX11_fits 19 rfl) KX11 fX11_12 (by decide) rfl (CLt hH (q := 0) (by decide)) (CC hH 0 (by decide) rfl) (CR hH 0 0 1 (by decide)) ?_
    refine g_c1I hX sX11_fits_38 (by decide) (Nat.le_of_ble_eq_true rfl) (rc0 rfl (CLt hH (by decide)) (CC hH 1 (by decide) rfl)) (by decide) (by decide) (c_X5_everyDoing hG hWJ) ?_
    refine g_nmI (nI (2 ^ cN I - 1)) (ev_e ((congrFun (hS 1 (by omega)) 2).trans hW.2.1.1) hc8) ?_
    refine g_icmp_gt (tgt := 81) hX (dk DX11_fits 21 rfl) (by decide) (fun hc1 => ?_) (fun hc1 => ?_)
    · refine g_iload_1 hX (dk DX11_fits 38 rfl) ?_
      refine g_ireturn hX (dk DX11_fits 39 rfl) rfl (rfl) (by decide) (by decide) ?_
      exact qW_of (hY.sc hS)
    · have hlt := s_go hc8 (by omega) hc1
      obtain ⟨k, rfl⟩ : ∃ z, k = z + 1 := ⟨k - 1, by omega⟩
      refine g_aload_0 hX (dk DX11_fits 22 rfl) ?_
      refine g_getRs (r := 13) hX (dk DX11_fits 23 rfl) KX11 fX11_26 (by decide) rfl (CLt hH (q := 0) (by decide)) (CC hH 0 (by decide) rfl) (CR hH 0 3 13 (by decide)) ?_
      refine g_iload_2 hX (dk DX11_fits 24 rfl) ?_
      refine g_aload_0 hX (dk DX11_fits 25 rfl) ?_
      refine g_getRs (r := 1) hX (dk DX11_fits 26 rfl) KX11 fX11_12 (by decide) rfl (CLt hH (q := 0) (by decide)) (CC hH 0 (by decide) rfl) (CR hH 0 0 1 (by decide)) ?_
      refine g_getI hX (dk DX11_fits 27 rfl) KX5 fX11_109 (by decide) rfl (CLt hH (q := 1) (by decide)) (CC hH 1 (by decide) rfl) ?_
      refine g_c3q hX sX11_fits_56 (by decide) (Nat.le_of_ble_eq_true rfl) (rc0 rfl (CLt hH (by decide)) (CC hH 13 (by decide) rfl)) (by decide) (by decide) (w_X0_pass hG hWJ hm hsp) ?_
      rintro _ J2 _ ⟨hP2, rfl⟩
      refine g_pop hX (dk DX11_fits 29 rfl) rfl ?_
      refine g_aload_0 hX (dk DX11_fits 30 rfl) ?_
      refine g_getRs (r := 13) hX (dk DX11_fits 31 rfl) KX11 fX11_26 (by decide) rfl (CLt hH (q := 0) (by decide)) (CC hH 0 (by decide) rfl) (CR hH 0 3 13 (by decide)) ?_
      refine g_c1q hX sX11_fits_64 (by decide) (Nat.le_of_ble_eq_true rfl) (rc0 rfl (CLt hH (by decide)) (CC hH 13 (by decide) rfl)) (by decide) (by decide) (w_X0_firstRowNotSo hG (hWJ.sc hP2.sc) hm (hP2.2.trans hsp)) ?_
      rintro _ _ _ ⟨rfl, rfl⟩
      refine g_bipush (v := -5) hX (dk DX11_fits 33 rfl) (by decide) ?_
      refine g_icmp_ne (tgt := 75) hX (dk DX11_fits 34 rfl) (by decide) (fun hc2 => ?_) (fun hc2 => ?_)
      · refine g_iinc_2 hX (dk DX11_fits 36 rfl) (nI_1 s) (by decide) rfl ?_
        refine g_goto (tgt := 33) hX (dk DX11_fits 37 rfl) (by decide) ?_
        exact g_fgt (ih k (by omega) (s + 1) _ _ (by omega) (hS.trans hP2.sc) (hP2.2.trans hsp)) ⟨rfl, rfl, rfl, trivial⟩
      · refine g_iinc_1 hX (dk DX11_fits 35 rfl) (rfl) (by decide) rfl ?_
        refine g_iinc_2 hX (dk DX11_fits 36 rfl) (nI_1 s) (by decide) rfl ?_
        refine g_goto (tgt := 33) hX (dk DX11_fits 37 rfl) (by decide) ?_
        exact g_fgt (ih k (by omega) (s + 1) _ _ (by omega) (hS.trans hP2.sc) (hP2.2.trans hsp)) ⟨rfl, rfl, rfl, trivial⟩
  refine g_aload_0 hX (dk DX11_fits 0 rfl) ?_
  refine g_getRs (r := 1) hX (dk DX11_fits 1 rfl) KX11 fX11_12 (by decide) rfl (CLt hH (q := 0) (by decide)) (CC hH 0 (by decide) rfl) (CR hH 0 0 1 (by decide)) ?_
  refine g_getIv hX (dk DX11_fits 2 rfl) KX5 fX11_72 (by decide) rfl (CLt hH (q := 1) (by decide)) (CC hH 1 (by decide) rfl) (hW.2.1.1) ?_
  refine g_bipush (v := 8) hX (dk DX11_fits 3 rfl) (by decide) ?_
  refine g_icmp_le (tgt := 15) hX (dk DX11_fits 4 rfl) (by decide) (fun hc1 => ?_) (fun hc1 => ?_)
  · have hc8 : cN I ≤ 8 := (nI_leI (by omega) (by decide)).mp hc1
    refine g_aload_0 hX (dk DX11_fits 7 rfl) ?_
    refine g_getRs (r := 13) hX (dk DX11_fits 8 rfl) KX11 fX11_26 (by decide) rfl (CLt hH (q := 0) (by decide)) (CC hH 0 (by decide) rfl) (CR hH 0 3 13 (by decide)) ?_
    refine g_aload_0 hX (dk DX11_fits 9 rfl) ?_
    refine g_getRs (r := 1) hX (dk DX11_fits 10 rfl) KX11 fX11_12 (by decide) rfl (CLt hH (q := 0) (by decide)) (CC hH 0 (by decide) rfl) (CR hH 0 0 1 (by decide)) ?_
    refine g_c1q hX sX11_fits_23 (by decide) (Nat.le_of_ble_eq_true rfl) (rc0 rfl (CLt hH (by decide)) (CC hH 1 (by decide) rfl)) (by decide) (by decide) (c_X5_weeksToRows hG hW) ?_
    rintro _ _ _ ⟨rfl, rfl⟩
    refine g_c2v hX sX11_fits_26 (by decide) (Nat.le_of_ble_eq_true rfl) (rc0 rfl (CLt hH (by decide)) (CC hH 13 (by decide) rfl)) (by decide) (by decide) (w_X0_look hG hW) ?_
    rintro J _ ⟨hS, rfl, m, hm, hsp⟩
    have hW2 := hW.sc hS
    refine g_iconst (v := 0) hX (dk DX11_fits 13 rfl) (by decide) ?_
    refine g_istore_1 hX (dk DX11_fits 14 rfl) (by decide) rfl ?_
    refine g_iconst (v := 0) hX (dk DX11_fits 15 rfl) (by decide) ?_
    refine g_istore_2 hX (dk DX11_fits 16 rfl) (by decide) rfl ?_
    exact g_fgt (loop33 m hm hc8 _ 0 0 J (Nat.zero_add _) hS hsp) ⟨rfl, rfl, rfl, trivial⟩
  · refine g_bipush (v := -9) hX (dk DX11_fits 5 rfl) (by decide) ?_
    refine g_ireturn hX (dk DX11_fits 6 rfl) rfl (rfl) (by decide) (by decide) ?_
    exact qW_of hY
end
section
/-! who comes: the class's bits against the reference's number; ALL's leap; odds -/
set_option maxRecDepth 100000 in
theorem on_bit : ∀ d, d < 10 → ∀ m, m < 2 ^ d → (nI m ||| bitI (nI d) = nI (m + 2 ^ d) ∧ onesN (m + 2 ^ d) = onesN m + 1) := by decide +kernel
theorem wuF_e {E : It} {L : Nat → Int64} {I : It} {h : Ht} (hY : RY E L I h) {d : Nat} (hd : d < cnt E) (w : Int32) : wuF I (dn h d) w = fmI (E 4 d - w) (E 3 d) := by
  obtain ⟨-, -, -, -, -, -, g7, g8, -⟩ := hY.d hd
  unfold wuF
  rw [g7, g8]
theorem cm_0 {E : It} {L : Nat → Int64} {I : It} {h : Ht} (hE : Inv E) (hY : RY E L I h) {d w : Nat} (hd : d < cnt E) (hw : w ≤ 20000) : (wuF I (dn h d) (nI w) = 0) ↔ remI (nI w) (E 3 d) = E 4 d := by
  rw [wuF_e hY hd, (wu_fm hE hd hw).1]
  exact wu_0 hE hd hw
theorem cm_many {E : It} {L : Nat → Int64} {I : It} {h : Ht} (hE : Inv E) (hY : RY E L I h) {w : Nat} (hw : w ≤ 20000) : ∀ (k d m : Nat), d + k = cnt E → m < 2 ^ d → ∃ m', m' < 2 ^ cnt E ∧ cmR I h (nI w) k d (nI m) = nI m' ∧ manyR E w k d (nI (onesN m)) = nI (onesN m') := by
  intro k
  induction k with
  | zero =>
    intro d m hk hm
    have : d = cnt E := by omega
    subst this
    exact ⟨m, hm, rfl, rfl⟩
  | succ k ih =>
    intro d m hk hm
    have hc := (inv_cnt hE).2
    rw [cmR_s, manyR_s]
    have h2 : 2 ^ (d + 1) = 2 ^ d + 2 ^ d := by rw [Nat.pow_succ]; omega
    by_cases hz : remI (nI w) (E 3 d) = E 4 d
    · obtain ⟨b1, b2⟩ := on_bit d (by omega) m hm
      rw [if_pos ((cm_0 hE hY (by omega) hw).mpr hz), bI_t hz, b1, nI_1, ← b2]
      exact ih (d + 1) (m + 2 ^ d) (by omega) (by omega)
    · rw [if_neg (fun z => hz ((cm_0 hE hY (by omega) hw).mp z)), bI_f hz, Int32.add_zero]
      exact ih (d + 1) m (by omega) (by omega)
theorem cm_e {E : It} {L : Nat → Int64} {I : It} {h : Ht} (hE : Inv E) (hY : RY E L I h) {w : Nat} (hw : w ≤ 20000) : ∃ m, m < 1024 ∧ cmF I h (nI w) = nI m ∧ manyF E w = nI (onesN m) := by
  obtain ⟨m, h1, h2, h3⟩ := cm_many hE hY hw (cnt E) 0 0 (Nat.zero_add _) (by decide)
  refine ⟨m, Nat.lt_of_lt_of_le h1 (Nat.le_trans (Nat.pow_le_pow_right (by decide) (inv_cnt hE).2) (by decide)), ?_, ?_⟩
  · unfold cmF; rw [hY.cn]; exact h2
  · unfold manyF; exact h3
set_option maxRecDepth 100000 in
theorem onesN_le : ∀ m, m < 1024 → onesN m ≤ 10 := by decide +kernel
/-- BUSIEST, on the way: on weeks are looked at, b is the best, m so many -/
def bsI (E : It) (n on k b : Nat) (m : Int32) : Prop := (on = 0 ∧ b = 0 ∧ m = -1 ∧ k = n) ∨ (1 ≤ on ∧ b < on ∧ m = manyF E (wk E + b) ∧ bsR E k (wk E + on) (wk E + b) = bsR E (n - 1) (wk E + 1) (wk E))
theorem bsI_up {E : It} {n on k b x : Nat} {m : Int32} (h : bsI E n on (k + 1) b m) (hx : manyF E (wk E + on) = nI x) (hx2 : x ≤ 10) (hc : ¬ nI x ≤ m) : bsI E n (on + 1) k on (nI x) := by
  right
  refine ⟨by omega, by omega, hx.symm, ?_⟩
  rcases h with ⟨rfl, rfl, -, rfl⟩ | ⟨h1, h2, rfl, h4⟩
  · rfl
  · rw [← h4, bsR_s, hx, if_neg hc]
    rfl
theorem bsI_st {E : It} {n on k b x : Nat} {m : Int32} (h : bsI E n on (k + 1) b m) (hx : manyF E (wk E + on) = nI x) (hx2 : x ≤ 10) (hc : nI x ≤ m) : bsI E n (on + 1) k b m := by
  rcases h with ⟨rfl, rfl, rfl, rfl⟩ | ⟨h1, h2, rfl, h4⟩
  · exact absurd (Int32.lt_of_le_of_lt hc (by decide : (-1 : Int32) < 0)) (nI_pos (by omega))
  · right
    refine ⟨by omega, by omega, rfl, ?_⟩
    rw [← h4, bsR_s, hx, if_pos hc]
    rfl
theorem bsI_end {E : It} {n on b : Nat} {m : Int32} (hn : 1 ≤ n) (hk : on + 0 = n) (h : bsI E n on 0 b m) : bsR E (n - 1) (wk E + 1) (wk E) = wk E + b ∧ m = manyF E (wk E + b) := by
  rcases h with ⟨rfl, rfl, rfl, z⟩ | ⟨h1, h2, rfl, h4⟩
  · omega
  · exact ⟨h4.symm, rfl⟩
/-! ALL -/
theorem has_01 (s : Int32) (k : Int32) : hasI s k = 0 ∨ hasI s k = 1 := by
  unfold hasI
  generalize s >>> (k &&& 31) = z
  have h : (z &&& 1) = nI ((1 &&& z.toBitVec.toNat)) := by rw [Int32.and_comm]; exact nI_and 1 z
  rw [h, Nat.and_comm, Nat.and_one_is_mod]
  rcases Nat.mod_two_eq_zero_or_one z.toBitVec.toNat with e | e <;> rw [e]
  · exact Or.inl rfl
  · exact Or.inr rfl
/-- the longest wait of a set: none comes all before, and at 0 all come -/
theorem lw_e {E : It} {L : Nat → Int64} {I : It} {h : Ht} (hE : Inv E) (hY : RY E L I h) {s : Int32} {w : Nat} (hw : w ≤ 20000) : ∀ (k d z : Nat), d + k = cnt E → z < 60 → ∃ W, W < 60 ∧ z ≤ W ∧ lwR I h s (nI w) k d (nI z) = nI W ∧ (W = 0 → allCR E s w k d = true) ∧ ∀ j, z ≤ j → j < W → allCR E s (w + j) k d = false := by
  intro k
  induction k with
  | zero => intro d z hk hz; exact ⟨z, hz, Nat.le_refl _, rfl, fun _ => rfl, fun j h1 h2 => by omega⟩
  | succ k ih =>
    intro d z hk hz
    have hd : d < cnt E := by omega
    rw [lwR_s]
    by_cases h0 : hasI s (nI d) = 0
    · rw [if_pos h0]
      obtain ⟨W, h1, h2, h3, h4, h5⟩ := ih (d + 1) z (by omega) hz
      refine ⟨W, h1, h2, h3, fun e => ?_, fun j j1 j2 => ?_⟩
      · rw [allCR_s, if_neg (fun q => by rw [h0] at q; exact absurd q.1 (by decide))]; exact h4 e
      · rw [allCR_s, if_neg (fun q => by rw [h0] at q; exact absurd q.1 (by decide))]; exact h5 j j1 j2
    · have h1' : hasI s (nI d) = 1 := (has_01 s (nI d)).resolve_left h0
      rw [if_neg h0, wuF_e hY hd, (wu_fm hE hd hw).1]
      have h60 := (wu_fm hE hd hw).2
      obtain ⟨z2, hz2, e2, hle, hle2, hor⟩ : ∃ z2, z2 < 60 ∧ (if nI z < nI (wu E d w) then nI (wu E d w) else nI z) = nI z2 ∧ z ≤ z2 ∧ wu E d w ≤ z2 ∧ (z2 = z ∨ z2 = wu E d w) := by
        by_cases q : nI z < nI (wu E d w)
        · exact ⟨wu E d w, h60, if_pos q, Nat.le_of_lt (lt_nI (by omega) (by omega) q), Nat.le_refl _, Or.inr rfl⟩
        · exact ⟨z, hz, if_neg q, Nat.le_refl _, (nI_leI (by omega) (by omega)).mp (Int32.not_lt.mp q), Or.inl rfl⟩
      rw [e2]
      obtain ⟨W, h1, h2, h3, h4, h5⟩ := ih (d + 1) z2 (by omega) hz2
      refine ⟨W, h1, by omega, h3, fun e => ?_, fun j j1 j2 => ?_⟩
      · have hw0 : wu E d w = 0 := by omega
        have hc := wu_at hE hd hw
        rw [hw0] at hc
        rw [allCR_s, if_neg (fun q => q.2 hc)]
        exact h4 e
      · by_cases q : j < wu E d w
        · rw [allCR_s, if_pos ⟨h1', wu_bf hE hd hw q⟩]
        · have : j ≥ z2 := by omega
          rw [allCR_s]
          split
          · rfl
          · exact h5 j this j2
theorem alR_skip {E : It} {s : Int32} : ∀ (W k i : Nat), (∀ j, j < W → allCR E s (wk E + i + j) (cnt E) 0 = false) → alR E s (k + W) i = alR E s k (i + W) := by
  intro W
  induction W with
  | zero => intro k i _; rfl
  | succ W ih =>
    intro k i hj
    have h0 := hj 0 (by omega)
    rw [Nat.add_zero] at h0
    rw [← Nat.add_assoc, alR_s, if_neg (by rw [h0]; decide), ih k (i + 1) (fun j hj2 => by have := hj (j + 1) (by omega); rwa [show wk E + i + (j + 1) = wk E + (i + 1) + j by omega] at this)]
    rw [show i + 1 + W = i + (W + 1) by omega]
theorem alR_none {E : It} {s : Int32} : ∀ (k i : Nat), (∀ j, j < k → allCR E s (wk E + i + j) (cnt E) 0 = false) → alR E s k i = -5 := by
  intro k i hj
  have := alR_skip k 0 i hj
  rw [Nat.zero_add] at this
  exact this
theorem all_ok {c : Nat} (hc : c ≤ 10) {s : Int32} : (s &&& ((bitI (nI c) - 1) ^^^ (-1)) = 0) ↔ (0 ≤ s ∧ s ≤ bitI (nI c) - 1) := by
  have hb : bitI (nI c) - 1 = nI (2 ^ c - 1) := by rw [bit_nI c (by omega), show (1 : Int32) = nI 1 from rfl, pk_sub Nat.one_le_two_pow]
  have hp : 2 ^ c ≤ 1024 := Nat.le_trans (Nat.pow_le_pow_right (by decide) hc) (by decide)
  have hp1 : 1 ≤ 2 ^ c := Nat.one_le_two_pow
  have hm : ∀ x y : Int32, x &&& (y ^^^ (-1)) = 0 ↔ x &&& y = x := by
    intro x y
    have e1 : y ^^^ (-1) = ~~~ y := by
      apply Int32.toBitVec.inj
      rw [Int32.toBitVec_xor, Int32.toBitVec_not]
      show y.toBitVec ^^^ BitVec.allOnes 32 = _
      exact BitVec.xor_allOnes
    rw [e1]
    constructor
    · intro h
      apply Int32.toBitVec.inj
      have h' := congrArg Int32.toBitVec h
      rw [Int32.toBitVec_and, Int32.toBitVec_not] at h'
      rw [Int32.toBitVec_and]
      apply BitVec.eq_of_getLsbD_eq
      intro i hi
      have h2 := congrArg (fun z => BitVec.getLsbD z i) h'
      simp only [BitVec.getLsbD_and, BitVec.getLsbD_not, hi, decide_true, Bool.true_and] at h2 ⊢
      have h3 : BitVec.getLsbD (Int32.toBitVec 0) i = false := by
        show BitVec.getLsbD (0#32) i = false
        simp
      rw [h3] at h2
      revert h2
      cases x.toBitVec.getLsbD i <;> cases y.toBitVec.getLsbD i <;> simp
    · intro h
      apply Int32.toBitVec.inj
      have h' := congrArg Int32.toBitVec h
      rw [Int32.toBitVec_and] at h'
      rw [Int32.toBitVec_and, Int32.toBitVec_not]
      apply BitVec.eq_of_getLsbD_eq
      intro i hi
      have h2 := congrArg (fun z => BitVec.getLsbD z i) h'
      simp only [BitVec.getLsbD_and, BitVec.getLsbD_not, hi, decide_true, Bool.true_and] at h2 ⊢
      have h3 : BitVec.getLsbD (Int32.toBitVec 0) i = false := by
        show BitVec.getLsbD (0#32) i = false
        simp
      rw [h3]
      revert h2
      cases x.toBitVec.getLsbD i <;> cases y.toBitVec.getLsbD i <;> simp
  rw [hm, hb]
  constructor
  · intro h
    rw [Int32.and_comm, nI_and] at h
    have h2 : (2 ^ c - 1) &&& s.toBitVec.toNat ≤ 2 ^ c - 1 := Nat.and_le_left
    rw [← h]
    exact ⟨nI_pos' (by omega), nI_le h2 (by omega)⟩
  · rintro ⟨h1, h2⟩
    obtain ⟨j, hj, rfl⟩ := nI_of (Int32.not_lt.mpr h1)
    have hj2 := (nI_leI hj (by omega)).mp h2
    rw [nI_and, nI_bv, BitVec.toNat_ofNat, Nat.mod_eq_of_lt (show 2 ^ c - 1 < 2 ^ 32 by omega), Nat.and_two_pow_sub_one_eq_mod, Nat.mod_eq_of_lt (by omega)]
/-! ODDS -/
theorem comIn_e {E : It} (hE : Inv E) {d : Nat} (hd : d < cnt E) (n : Nat) (hn : n ≤ 200) : (comInR E d n (wk E) = true) ↔ nI (wu E d (wk E)) < nI n := by
  have hw := (inv_wk hE).2
  have h60 := (wu_fm hE hd (w := wk E) (by omega)).2
  have key : ∀ k j, j ≤ wu E d (wk E) → (comInR E d k (wk E + j) = true ↔ wu E d (wk E) < j + k) := by
    intro k
    induction k with
    | zero =>
      intro j hj
      constructor
      · intro z; exact absurd (show false = true from z) Bool.false_ne_true
      · intro z; omega
    | succ k ih =>
      intro j hj
      rw [comInR_s]
      by_cases e : j = wu E d (wk E)
      · rw [if_pos (by rw [e]; exact wu_at hE hd (by omega))]
        constructor
        · intro _; omega
        · intro _; rfl
      · rw [if_neg (wu_bf hE hd (by omega) (by omega)), Nat.add_assoc, ih (j + 1) (by omega)]
        omega
  have := key n 0 (by omega)
  rw [Nat.add_zero, Nat.zero_add] at this
  rw [this]
  constructor
  · intro z; exact nI_lt z (by omega)
  · intro z; exact lt_nI (by omega) (by omega) z
end
section
set_option maxRecDepth 8000 in
set_option maxHeartbeats 4000000 in
theorem x_busiest {G : Gt} (hG : Gok G) {I : It} {h : Ht}  {E : It} {L : Nat → Int64} (hE : Inv E) (hY : RY E L I h) {n w : Int32} : Con G (6) 0 0 mX11_busiest [.ref 0, .int n, .int w] I h (qX (busiestS E n w) L (hn h)) := by
  refine con_intro (own := RX11) (lo0 := [some (.ref 0), some (.int n), some (.int w), none, none, none, none]) hG rfl pl_X11 (Nat.le_of_ble_eq_true rfl) rfl (fun X hX => ?_)
  have hW := hY.wx hE
  have hH := hW.1
  have hc10 := hW.2.1.2
  have loop33 : ∀ m, n = nI m → 1 ≤ m → m ≤ 200 → ¬ ¬ (0 ≤ w ∧ w ≤ 1) → ∀ (k on b : Nat) (z : Int32), on + k = m → bsI E m on k b z → GG G (6) 0 0 X (qX (busiestS E n w) L (hn h)) 33 [some (.ref 0), some (.int (nI m)), some (.int w), some (.int (nI b)), some (.int z), some (.int (nI on)), none] [] (I) (h) 0 0 := by
    intro m hnm hm1 hm2 hw1 k
    subst hnm
    induction k using Nat.strongRecOn with | _ k ih => ?_
    intro on b z hk hb
    have hw9 := (inv_wk hE).2
    refine g_iload_5 hX (dk DX11_busiest 20 rfl) ?_
    refine g_iload_1 hX (dk DX11_busiest 21 rfl) ?_
    refine g_icmp_ge (tgt := 81) hX (dk DX11_busiest 22 rfl) (by decide) (fun hc1 => ?_) (fun hc1 => ?_)
    · have hk0 := ct_end hk (by omega) hc1
      subst hk0
      obtain ⟨f1, f2⟩ := bsI_end hm1 hk hb
      have hin : ¬ ¬ (1 ≤ nI m ∧ nI m ≤ 200) := not_not_intro ⟨nI_le (a := 1) hm1 (by omega), nI_le (b := 200) hm2 (by decide)⟩
      refine g_iload_2 hX (dk DX11_busiest 42 rfl) ?_
      refine g_if_ne (tgt := 97) hX (dk DX11_busiest 43 rfl) (by decide) (fun hc2 => ?_) (fun hc2 => ?_)
      · refine g_iload_4 hX (dk DX11_busiest 50 rfl) ?_
        refine g_ireturn hX (dk DX11_busiest 51 rfl) rfl (rfl) (by decide) (by decide) ?_
        first
        | exact qX_of (by unfold busiestS; rw [if_neg hw1, if_neg hin, if_pos (by assumption), tN_nI (by omega), f1]) hY
        | exact qX_of (by unfold busiestS; rw [if_neg hw1, if_neg hin, if_neg (by assumption), tN_nI (by omega), f1, f2]) hY
      · refine g_aload_0 hX (dk DX11_busiest 44 rfl) ?_
        refine g_getRs (r := 1) hX (dk DX11_busiest 45 rfl) KX11 fX11_12 (by decide) rfl (CLt hH (q := 0) (by decide)) (CC hH 0 (by decide) rfl) (CR hH 0 0 1 (by decide)) ?_
        refine g_getIv hX (dk DX11_busiest 46 rfl) KX5 fX11_122 (by decide) rfl (CLt hH (q := 1) (by decide)) (CC hH 1 (by decide) rfl) (hY.2.1.1.2.1.trans (inv_wk hE).1) ?_
        refine g_iload_3 hX (dk DX11_busiest 47 rfl) ?_
        refine g_iadd hX (dk DX11_busiest 48 rfl) ?_
        refine g_nmI (nI (wk E + b)) (nI_add _ _) ?_
        refine g_goto (tgt := 99) hX (dk DX11_busiest 49 rfl) (by decide) ?_
        refine g_ireturn hX (dk DX11_busiest 51 rfl) rfl (rfl) (by decide) (by decide) ?_
        first
        | exact qX_of (by unfold busiestS; rw [if_neg hw1, if_neg hin, if_pos (by assumption), tN_nI (by omega), f1]) hY
        | exact qX_of (by unfold busiestS; rw [if_neg hw1, if_neg hin, if_neg (by assumption), tN_nI (by omega), f1, f2]) hY
    · obtain ⟨k, rfl⟩ := ct_go hk (by omega) hc1
      obtain ⟨x, hx, e1, e2⟩ := cm_e hE hY (w := wk E + on) (by omega)
      have hx10 := onesN_le x hx
      refine g_aload_0 hX (dk DX11_busiest 23 rfl) ?_
      refine g_getRs (r := 1) hX (dk DX11_busiest 24 rfl) KX11 fX11_12 (by decide) rfl (CLt hH (q := 0) (by decide)) (CC hH 0 (by decide) rfl) (CR hH 0 0 1 (by decide)) ?_
      refine g_aload_0 hX (dk DX11_busiest 25 rfl) ?_
      refine g_getRs (r := 1) hX (dk DX11_busiest 26 rfl) KX11 fX11_12 (by decide) rfl (CLt hH (q := 0) (by decide)) (CC hH 0 (by decide) rfl) (CR hH 0 0 1 (by decide)) ?_
      refine g_getIv hX (dk DX11_busiest 27 rfl) KX5 fX11_122 (by decide) rfl (CLt hH (q := 1) (by decide)) (CC hH 1 (by decide) rfl) (hY.2.1.1.2.1.trans (inv_wk hE).1) ?_
      refine g_iload_5 hX (dk DX11_busiest 28 rfl) ?_
      refine g_iadd hX (dk DX11_busiest 29 rfl) ?_
      refine g_nmI (nI (wk E + on)) (nI_add _ _) ?_
      refine g_c2I hX sX11_busiest_53 (by decide) (Nat.le_of_ble_eq_true rfl) (rc0 rfl (CLt hH (by decide)) (CC hH 1 (by decide) rfl)) (by decide) (by decide) (c_X5_coming hG hW) ?_
      refine g_nmI (nI x) e1 ?_
      refine g_c1q hX sX11_busiest_56 (by decide) (Nat.le_of_ble_eq_true rfl) rcN (by decide) (by decide) (c_J6_bitCount_0f7a4 hG) ?_
      rintro y I9 h9 ⟨hy, rfl, rfl⟩
      refine g_nmI (nI (onesN x)) (hy x hx rfl) ?_
      refine g_istore_6 hX (dk DX11_busiest 32 rfl) (by decide) rfl ?_
      refine g_iload_6 hX (dk DX11_busiest 33 rfl) ?_
      refine g_iload_4 hX (dk DX11_busiest 34 rfl) ?_
      refine g_icmp_le (tgt := 75) hX (dk DX11_busiest 35 rfl) (by decide) (fun hc3 => ?_) (fun hc3 => ?_)
      · refine g_iinc_5 hX (dk DX11_busiest 40 rfl) (nI_1 on) (by decide) rfl ?_
        refine g_goto (tgt := 33) hX (dk DX11_busiest 41 rfl) (by decide) ?_
        first
        | exact g_fgt (ih k (by omega) (on + 1) _ _ (by omega) (bsI_st hb e2 hx10 (by assumption))) ⟨rfl, rfl, rfl, rfl, rfl, rfl, trivial⟩
        | exact g_fgt (ih k (by omega) (on + 1) _ _ (by omega) (bsI_up hb e2 hx10 (by assumption))) ⟨rfl, rfl, rfl, rfl, rfl, rfl, trivial⟩
      · refine g_iload_6 hX (dk DX11_busiest 36 rfl) ?_
        refine g_istore_4 hX (dk DX11_busiest 37 rfl) (by decide) rfl ?_
        refine g_iload_5 hX (dk DX11_busiest 38 rfl) ?_
        refine g_istore_3 hX (dk DX11_busiest 39 rfl) (by decide) rfl ?_
        refine g_iinc_5 hX (dk DX11_busiest 40 rfl) (nI_1 on) (by decide) rfl ?_
        refine g_goto (tgt := 33) hX (dk DX11_busiest 41 rfl) (by decide) ?_
        first
        | exact g_fgt (ih k (by omega) (on + 1) _ _ (by omega) (bsI_st hb e2 hx10 (by assumption))) ⟨rfl, rfl, rfl, rfl, rfl, rfl, trivial⟩
        | exact g_fgt (ih k (by omega) (on + 1) _ _ (by omega) (bsI_up hb e2 hx10 (by assumption))) ⟨rfl, rfl, rfl, rfl, rfl, rfl, trivial⟩
  refine g_iload_2 hX (dk DX11_busiest 0 rfl) ?_
  refine g_iconst (v := 0) hX (dk DX11_busiest 1 rfl) (by decide) ?_
  refine g_iconst (v := 1) hX (dk DX11_busiest 2 rfl) (by decide) ?_
  refine g_c3I hX sX11_busiest_3 (by decide) (Nat.le_of_ble_eq_true rfl) rcN (by decide) (by decide) (c_X11_isNot hG ) ?_
  refine g_ifb_eq (tgt := 11) hX (dk DX11_busiest 4 rfl) (by decide) (fun hc1 => ?_) (fun hc1 => ?_)
  · refine g_iload_1 hX (dk DX11_busiest 7 rfl) ?_
    refine g_iconst (v := 1) hX (dk DX11_busiest 8 rfl) (by decide) ?_
    refine g_sipush (v := 200) hX (dk DX11_busiest 9 rfl) (by decide) ?_
    refine g_c3I hX sX11_busiest_16 (by decide) (Nat.le_of_ble_eq_true rfl) rcN (by decide) (by decide) (c_X11_isNot hG ) ?_
    refine g_ifb_eq (tgt := 25) hX (dk DX11_busiest 11 rfl) (by decide) (fun hc2 => ?_) (fun hc2 => ?_)
    · have hw1 := hc1
      obtain ⟨m, hm1, hm2, rfl⟩ := in1_of (c := 1) (b := 200) (by decide) (by decide) (Decidable.not_not.mp hc2)
      refine g_iconst (v := 0) hX (dk DX11_busiest 14 rfl) (by decide) ?_
      refine g_istore_3 hX (dk DX11_busiest 15 rfl) (by decide) rfl ?_
      refine g_iconst (v := -1) hX (dk DX11_busiest 16 rfl) (by decide) ?_
      refine g_istore_4 hX (dk DX11_busiest 17 rfl) (by decide) rfl ?_
      refine g_iconst (v := 0) hX (dk DX11_busiest 18 rfl) (by decide) ?_
      refine g_istore_5 hX (dk DX11_busiest 19 rfl) (by decide) rfl ?_
      exact g_fgt (loop33 m rfl hm1 hm2 hw1 m 0 0 (-1) (Nat.zero_add _) (Or.inl ⟨rfl, rfl, rfl, rfl⟩)) ⟨rfl, rfl, rfl, rfl, rfl, rfl, trivial⟩
    · refine g_bipush (v := -2) hX (dk DX11_busiest 12 rfl) (by decide) ?_
      refine g_ireturn hX (dk DX11_busiest 13 rfl) rfl (rfl) (by decide) (by decide) ?_
      exact qX_of (by unfold busiestS; rw [if_neg (by assumption), if_pos (by assumption)]) hY
  · refine g_iconst (v := -1) hX (dk DX11_busiest 5 rfl) (by decide) ?_
    refine g_ireturn hX (dk DX11_busiest 6 rfl) rfl (rfl) (by decide) (by decide) ?_
    exact qX_of (by unfold busiestS; rw [if_pos (by assumption)]) hY
end
section
set_option maxRecDepth 8000 in
set_option maxHeartbeats 4000000 in
theorem x_all {G : Gt} (hG : Gok G) {I : It} {h : Ht}  {E : It} {L : Nat → Int64} (hE : Inv E) (hY : RY E L I h) {s : Int32} : Con G (6) 0 0 mX11_all [.ref 0, .int s] I h (qX (allS E s) L (hn h)) := by
  refine con_intro (own := RX11) (lo0 := [some (.ref 0), some (.int s), none, none]) hG rfl pl_X11 (Nat.le_of_ble_eq_true rfl) rfl (fun X hX => ?_)
  have hW := hY.wx hE
  have hH := hW.1
  have hc10 := hW.2.1.2
  have loop23 : 1 ≤ s → s ≤ bitI (nI (cnt E)) - 1 → ∀ (k on : Nat), k = 3601 - on → on ≤ 3700 → alR E s k on = alR E s 3601 0 → GG G (6) 0 0 X (qX (allS E s) L (hn h)) 23 [some (.ref 0), some (.int s), some (.int (nI on)), none] [] (I) (h) 0 0 := by
    intro hs1 hs2 k
    induction k using Nat.strongRecOn with | _ k ih => ?_
    intro on hk h37 hv
    have hw9 := (inv_wk hE).2
    have hss : ¬ ¬ (1 ≤ s ∧ s ≤ bitI (E 0 0) - 1) := not_not_intro ⟨hs1, by rw [(inv_cnt hE).1]; exact hs2⟩
    refine g_iload_2 hX (dk DX11_all 14 rfl) ?_
    refine g_sipush (v := 3600) hX (dk DX11_all 15 rfl) (by decide) ?_
    refine g_icmp_gt (tgt := 61) hX (dk DX11_all 16 rfl) (by decide) (fun hc1 => ?_) (fun hc1 => ?_)
    · refine g_bipush (v := -5) hX (dk DX11_all 36 rfl) (by decide) ?_
      refine g_ireturn hX (dk DX11_all 37 rfl) rfl (rfl) (by decide) (by decide) ?_
      have hk0 : k = 0 := by have := lt_nI (c := 3600) (by decide) (by omega) hc1; omega
      subst hk0
      exact qX_of (by unfold allS; rw [if_neg hss, ← hv]; rfl) hY
    · have hon : on ≤ 3600 := (nI_leI (b := 3600) (by omega) (by decide)).mp (Int32.not_lt.mp hc1)
      obtain ⟨W, hW60, -, eW, hW0, hWj⟩ := lw_e hE hY (s := s) (w := wk E + on) (by omega) (cnt E) 0 0 (Nat.zero_add _) (by decide)
      refine g_aload_0 hX (dk DX11_all 17 rfl) ?_
      refine g_getRs (r := 1) hX (dk DX11_all 18 rfl) KX11 fX11_12 (by decide) rfl (CLt hH (q := 0) (by decide)) (CC hH 0 (by decide) rfl) (CR hH 0 0 1 (by decide)) ?_
      refine g_iload_1 hX (dk DX11_all 19 rfl) ?_
      refine g_aload_0 hX (dk DX11_all 20 rfl) ?_
      refine g_getRs (r := 1) hX (dk DX11_all 21 rfl) KX11 fX11_12 (by decide) rfl (CLt hH (q := 0) (by decide)) (CC hH 0 (by decide) rfl) (CR hH 0 0 1 (by decide)) ?_
      refine g_getIv hX (dk DX11_all 22 rfl) KX5 fX11_122 (by decide) rfl (CLt hH (q := 1) (by decide)) (CC hH 1 (by decide) rfl) (hY.2.1.1.2.1.trans (inv_wk hE).1) ?_
      refine g_iload_2 hX (dk DX11_all 23 rfl) ?_
      refine g_iadd hX (dk DX11_all 24 rfl) ?_
      refine g_nmI (nI (wk E + on)) (nI_add _ _) ?_
      refine g_c3I hX sX11_all_44 (by decide) (Nat.le_of_ble_eq_true rfl) (rc0 rfl (CLt hH (by decide)) (CC hH 1 (by decide) rfl)) (by decide) (by decide) (c_X5_longestWait hG hW) ?_
      refine g_nmI (nI W) (by rw [hY.cn]; exact eW) ?_
      refine g_istore_3 hX (dk DX11_all 26 rfl) (by decide) rfl ?_
      refine g_iload_3 hX (dk DX11_all 27 rfl) ?_
      refine g_if_gt (tgt := 54) hX (dk DX11_all 28 rfl) (by decide) (fun hc2 => ?_) (fun hc2 => ?_)
      · have hWp : 0 < W := by
          rcases Nat.eq_zero_or_pos W with z | z
          · rw [z] at hc2; exact absurd hc2 (by decide)
          · exact z
        refine g_iload_2 hX (dk DX11_all 31 rfl) ?_
        refine g_iload_3 hX (dk DX11_all 32 rfl) ?_
        refine g_iadd hX (dk DX11_all 33 rfl) ?_
        refine g_nmI (nI (on + W)) (nI_add _ _) ?_
        refine g_istore_2 hX (dk DX11_all 34 rfl) (by decide) rfl ?_
        refine g_goto (tgt := 23) hX (dk DX11_all 35 rfl) (by decide) ?_
        refine g_fgt (ih (3601 - (on + W)) (by omega) (on + W) rfl (by omega) ?_) ⟨rfl, rfl, rfl, trivial⟩
        rw [← hv]
        by_cases hle : on + W ≤ 3601
        · rw [← alR_skip W (3601 - (on + W)) on (fun j hj => hWj j (Nat.zero_le _) hj), show 3601 - (on + W) + W = k by omega]
        · rw [show 3601 - (on + W) = 0 by omega, alR_none k on (fun j hj => hWj j (Nat.zero_le _) (by omega))]; rfl
      · have hW00 : W = 0 := by
          rcases Nat.eq_zero_or_pos W with z | z
          · exact z
          · exact absurd (nI_lt (a := 0) z (by omega)) hc2
        obtain ⟨k, rfl⟩ : ∃ z, k = z + 1 := ⟨k - 1, by omega⟩
        refine g_iload_2 hX (dk DX11_all 29 rfl) ?_
        refine g_ireturn hX (dk DX11_all 30 rfl) rfl (rfl) (by decide) (by decide) ?_
        exact qX_of (by unfold allS; rw [if_neg hss, ← hv, alR_s, if_pos (hW0 hW00)]) hY
  refine g_iload_1 hX (dk DX11_all 0 rfl) ?_
  refine g_if_eq (tgt := 18) hX (dk DX11_all 1 rfl) (by decide) (fun hc1 => ?_) (fun hc1 => ?_)
  · refine g_bipush (v := -2) hX (dk DX11_all 10 rfl) (by decide) ?_
    refine g_ireturn hX (dk DX11_all 11 rfl) rfl (rfl) (by decide) (by decide) ?_
    first
    | exact qX_of (by unfold allS; rw [if_pos (fun z => by rw [show s = 0 by assumption] at z; exact absurd z.1 (by decide))]) hY
    | (have hok : ¬ s &&& (bitI (I 1 2) - 1 ^^^ -1) = 0 := by assumption
       rw [show I 1 2 = nI (cnt E) from hY.2.1.1.1.trans (inv_cnt hE).1] at hok
       exact qX_of (by unfold allS; rw [if_pos (fun z => hok ((all_ok (inv_cnt hE).2).mpr ⟨Int32.le_trans (by decide) z.1, by rw [(inv_cnt hE).1] at z; exact z.2⟩))]) hY)
  · refine g_iload_1 hX (dk DX11_all 2 rfl) ?_
    refine g_aload_0 hX (dk DX11_all 3 rfl) ?_
    refine g_getRs (r := 1) hX (dk DX11_all 4 rfl) KX11 fX11_12 (by decide) rfl (CLt hH (q := 0) (by decide)) (CC hH 0 (by decide) rfl) (CR hH 0 0 1 (by decide)) ?_
    refine g_c1I hX sX11_all_9 (by decide) (Nat.le_of_ble_eq_true rfl) (rc0 rfl (CLt hH (by decide)) (CC hH 1 (by decide) rfl)) (by decide) (by decide) (c_X5_everyDoing hG hW) ?_
    refine g_iconst (v := -1) hX (dk DX11_all 6 rfl) (by decide) ?_
    refine g_ixor hX (dk DX11_all 7 rfl) ?_
    refine g_iand hX (dk DX11_all 8 rfl) ?_
    refine g_if_eq (tgt := 21) hX (dk DX11_all 9 rfl) (by decide) (fun hc2 => ?_) (fun hc2 => ?_)
    · have h0 : ¬ s = 0 := by first | assumption | (intro z; exact absurd z hc1)
      have hok := hc2
      have ecn : I 1 2 = nI (cnt E) := hY.2.1.1.1.trans (inv_cnt hE).1
      rw [ecn] at hok
      have hss := (all_ok (inv_cnt hE).2).mp hok
      have hs1 : 1 ≤ s := by
        obtain ⟨j, hj, rfl⟩ := nI_of (Int32.not_lt.mpr hss.1)
        have : j ≠ 0 := fun z => h0 (by rw [z]; rfl)
        exact nI_le (a := 1) (by omega) hj
      refine g_iconst (v := 0) hX (dk DX11_all 12 rfl) (by decide) ?_
      refine g_istore_2 hX (dk DX11_all 13 rfl) (by decide) rfl ?_
      exact g_fgt (loop23 hs1 hss.2 3601 0 rfl (by decide) rfl) ⟨rfl, rfl, rfl, trivial⟩
    · refine g_bipush (v := -2) hX (dk DX11_all 10 rfl) (by decide) ?_
      refine g_ireturn hX (dk DX11_all 11 rfl) rfl (rfl) (by decide) (by decide) ?_
      first
      | exact qX_of (by unfold allS; rw [if_pos (fun z => by rw [show s = 0 by assumption] at z; exact absurd z.1 (by decide))]) hY
      | (have hok : ¬ s &&& (bitI (I 1 2) - 1 ^^^ -1) = 0 := by assumption
         rw [show I 1 2 = nI (cnt E) from hY.2.1.1.1.trans (inv_cnt hE).1] at hok
         exact qX_of (by unfold allS; rw [if_pos (fun z => hok ((all_ok (inv_cnt hE).2).mpr ⟨Int32.le_trans (by decide) z.1, by rw [(inv_cnt hE).1] at z; exact z.2⟩))]) hY)
end
section
/-! a DOING more, in both; of which kind it is; rows moved -/
set_option maxRecDepth 100000 in
theorem with_0 : ∀ n, n ≤ 10 → ∀ m, m < 2 ^ n → withI (nI m) (nI n) 0 = nI m := by decide +kernel
theorem kb_w0 {n : Nat} {x : Int32} (h : kb n x) (hn : n ≤ 10) : withI x (nI n) 0 = x := by
  obtain ⟨m, hm, rfl⟩ := h
  exact with_0 n hn m hm
theorem r_max {r : Int32} (h : 1 ≤ r) : (if 1 < r then r else 1) = r := by
  by_cases e : 1 < r
  · exact if_pos e
  · rw [if_neg e]; exact Int32.le_antisymm h (Int32.not_lt.mp e)
theorem do_c {E : It} {k v r p c e : Int32} {a j : Nat} (h0 : a ≠ 0) (h : ¬ (1 ≤ a ∧ a ≤ 7) ∨ j ≠ cnt E) : doE E k v r p c e a j = E a j := by
  unfold doE
  rw [upn (by omega), upn (by omega), upn (by omega), upn (by omega), upn (by omega), upn (by omega), upn (by omega), upn (by omega), upn (by omega), upn (by omega)]
theorem do_0 {E : It} {k v r p c e : Int32} {j : Nat} (h : j ≠ 0 ∧ j ≠ 5 ∧ j ≠ 6) : doE E k v r p c e 0 j = E 0 j := by
  unfold doE
  rw [upn (by omega), upn (by omega), upn (by omega), upn (by omega), upn (by omega), upn (by omega), upn (by omega), upn (by omega), upn (by omega), upn (by omega)]
theorem do_r {E : It} {k v r p c e : Int32} {a : Nat} (h0 : a ≠ 0) (h : ¬ (1 ≤ a ∧ a ≤ 7)) : doE E k v r p c e a = E a := funext fun _ => do_c h0 (Or.inl h)
theorem do_n {E : It} {k v r p c e : Int32} : doE E k v r p c e 1 (cnt E) = k ∧ doE E k v r p c e 2 (cnt E) = v ∧ doE E k v r p c e 3 (cnt E) = r ∧ doE E k v r p c e 4 (cnt E) = p ∧ doE E k v r p c e 5 (cnt E) = c ∧ doE E k v r p c e 6 (cnt E) = e ∧ doE E k v r p c e 7 (cnt E) = 5 := by
  unfold doE
  refine ⟨?_, ?_, ?_, ?_, ?_, ?_, ?_⟩ <;> simp [upI]
theorem do_z {E : It} {k v r p c e : Int32} : doE E k v r p c e 0 0 = E 0 0 + 1 ∧ doE E k v r p c e 0 5 = withI (E 0 5) (E 0 0) 0 ∧ doE E k v r p c e 0 6 = withI (E 0 6) (E 0 0) 0 := by
  unfold doE
  refine ⟨?_, ?_, ?_⟩ <;> simp [upI]
theorem RY_doing {E : It} {L : Nat → Int64} {I : It} {h : Ht} (hE : Inv E) (hY : RY E L I h) (hn10 : cnt E < 10) {k v r p c e : Int32} (hr : 1 ≤ r) :
    RY (doE E k v r p c e) L (upI (upI (dI (zI I (hn h)) (hn h) (nI (cnt E)) v r p c e) 3 (cnt E) 5) 1 2 (nI (cnt E + 1))) (wR (zA h (hn h) (hn h + 1) (kcl k, 0)) 2 (cnt E) (some (hn h))) := by
  have hx := hY.1.1
  obtain ⟨e0, -⟩ := inv_cnt hE
  generalize eJ : upI (upI (dI (zI I (hn h)) (hn h) (nI (cnt E)) v r p c e) 3 (cnt E) 5) 1 2 (nI (cnt E + 1)) = J
  generalize eh : wR (zA h (hn h) (hn h + 1) (kcl k, 0)) 2 (cnt E) (some (hn h)) = h2
  have jo : ∀ q, q ≠ hn h → q ≠ 1 → q ≠ 3 → J q = I q := by
    intro q q1 q2 q3
    rw [← eJ, upI_off q2, upI_off q3]
    unfold dI
    rw [upI_off q1, upI_off q1, upI_off q1, upI_off q1, upI_off q1, upI_off q1]
    funext j
    exact if_neg q1
  have j1 : ∀ j, j ≠ 2 → J 1 j = I 1 j := by
    intro j hj
    have q1 : (1 : Nat) ≠ hn h := by omega
    rw [← eJ, upn (by omega), upI_off (by decide)]
    unfold dI
    rw [upI_off q1, upI_off q1, upI_off q1, upI_off q1, upI_off q1, upI_off q1]
    exact if_neg q1
  have j12 : J 1 2 = nI (cnt E + 1) := by rw [← eJ, up0]
  have j3 : ∀ j, J 3 j = if j = cnt E then 5 else I 3 j := by
    intro j
    have q1 : (3 : Nat) ≠ hn h := by omega
    rw [← eJ, upI_off (by decide)]
    by_cases z : j = cnt E
    · subst z; rw [up0, if_pos rfl]
    · rw [upn (by omega), if_neg z]
      unfold dI
      rw [upI_off q1, upI_off q1, upI_off q1, upI_off q1, upI_off q1, upI_off q1]
      exact if_neg q1
  have ja : J (hn h) 0 = nI (cnt E) ∧ J (hn h) 1 = v ∧ J (hn h) 2 = r ∧ J (hn h) 3 = p ∧ J (hn h) 4 = c ∧ J (hn h) 5 = e := by
    have q1 : hn h ≠ 1 := by omega
    have q3 : hn h ≠ 3 := by omega
    rw [← eJ, upI_off q1, upI_off q3]
    unfold dI
    rw [r_max hr]
    refine ⟨?_, ?_, ?_, ?_, ?_, ?_⟩ <;> simp [upI]
  have en : hn h2 = hn h + 1 := by rw [← eh]; rfl
  have er : ∀ q j, q ≠ hn h → (q ≠ 2 ∨ j ≠ cnt E) → hR h2 q j = hR h q j := by
    intro q j h1 h2'
    rw [← eh]
    show (if q = 2 ∧ j = cnt E then some (hn h) else if q = hn h then none else hR h q j) = _
    rw [if_neg (by omega), if_neg h1]
  have er2 : hR h2 2 (cnt E) = some (hn h) := by
    rw [← eh]
    show (if (2 : Nat) = 2 ∧ cnt E = cnt E then some (hn h) else _) = _
    rw [if_pos ⟨rfl, rfl⟩]
  have es : ∀ q, q ≠ hn h → hs h2 q = hs h q := by
    intro q h1
    rw [← eh]
    exact if_neg h1
  have es2 : hs h2 (hn h) = (kcl k, 0) := by rw [← eh]; exact if_pos rfl
  have el : ∀ q, q ≠ hn h → hL h2 q = hL h q := by
    intro q h1
    rw [← eh]
    funext j
    exact if_neg h1
  obtain ⟨g1, ⟨⟨s1, s2, s3, s4⟩, s5, s6, s7⟩, ⟨g3, g4⟩, ⟨g5, g5b⟩, ⟨g6, g7⟩, ⟨g8, g9⟩, gt, g10, g11⟩ := hY
  have okm : ∀ r, okD h r → okD h2 r := fun r hr v hv => ⟨by rw [en]; have := (hr v hv).1; omega, by rw [es v (by have := (hr v hv).1; omega)]; exact (hr v hv).2⟩
  have hx2 : HX h2 := ⟨by rw [en]; omega, fun q hq => by rw [es q (by omega)]; exact g1.2.1 q hq, fun x hx => by
    have a1 : x.1.1 < 73 ∧ x.1.1 ≠ 2 := by revert x; decide
    rw [er _ _ (by omega) (Or.inl a1.2)]; exact g1.2.2 x hx⟩
  have ew6 : withI (E 0 6) (E 0 0) 0 = E 0 6 := by rw [e0]; exact kb_w0 (inv_id hE) (inv_cnt hE).2
  obtain ⟨z0, z5, z6⟩ := @do_z E k v r p c e
  obtain ⟨n1, n2, n3, n4, n5, n6, n7⟩ := @do_n E k v r p c e
  have ec : tN (E 0 0 + 1) = cnt E + 1 := by rw [e0, nI_1, tN_nI (by omega)]
  refine ⟨hx2, ?_, ⟨?_, fun q => ?_⟩, ⟨fun j hj => ?_, fun j hj => ?_⟩, ⟨⟨fun r hr => g6.1 r (by rw [← er 1 13 (by omega) (Or.inl (by decide))]; exact hr), (g6.mv (h := h) (J := J) (fun a ha hb => jo a (by omega) (by omega) (by omega))).2⟩, fun r hr => g7 r (by rw [← er 7 13 (by omega) (Or.inl (by decide))]; exact hr)⟩, ⟨?_, fun j hj => ?_⟩, fun t ht => ?_, ?_, ?_⟩
  · unfold St1
    rw [z0, z6, ew6, do_0 (by decide), do_0 (by decide), do_r (a := 8) (by decide) (by decide)]
    refine ⟨⟨by rw [j12, e0, nI_1], by rw [j1 6 (by decide)]; exact s2, by rw [j1 4 (by decide)]; exact s3, by rw [j1 12 (by decide)]; exact s4⟩, fun j hj => ?_, fun y hy => ?_, fun d hd => ?_⟩
    · rw [j3]
      by_cases q : j = cnt E
      · subst q; rw [if_pos rfl, n7]
      · rw [if_neg q, do_c (by decide) (Or.inr q)]; exact s5 j hj
    · rw [jo 4 (by omega) (by decide) (by decide)]; exact s6 y hy
    · rw [ec] at hd
      by_cases q : d = cnt E
      · subst q
        rw [n1, n2, n3, n4, n5, n6]
        obtain ⟨a0, a1, a2, a3, a4, a5⟩ := ja
        exact ⟨hn h, er2, hx, by omega, by rw [es2], a0, a1, a2, a3, a4, a5⟩
      · rw [do_c (by decide) (Or.inr q), do_c (by decide) (Or.inr q), do_c (by decide) (Or.inr q), do_c (by decide) (Or.inr q), do_c (by decide) (Or.inr q), do_c (by decide) (Or.inr q)]
        obtain ⟨a, a1, a2, a3, a4, a5⟩ := s7 d (show d < cnt E by omega)
        refine ⟨a, by rw [er _ _ (by omega) (Or.inr q)]; exact a1, a2, by omega, by rw [es a (by omega)]; exact a4, ?_⟩
        rw [jo a (by omega) (by omega) (by omega)]; exact a5
  · rw [do_0 (by decide), jo 0 (by omega) (by decide) (by decide)]; exact g3
  · rw [do_0 (by decide)] at q
    unfold St7
    rw [do_0 (by decide), do_0 (by decide), do_0 (by decide), do_0 (by decide), do_r (by decide) (by decide), do_r (by decide) (by decide), do_r (by decide) (by decide), do_r (by decide) (by decide), do_r (by decide) (by decide), do_r (by decide) (by decide), do_r (by decide) (by decide), do_r (by decide) (by decide)]
    exact StR.keep (g4 q) (fun a ha => jo a (by omega) (by omega) (by omega)) (fun j => er _ _ (by omega) (Or.inl (by decide))) (by omega) (fun a ha => es a (by omega))
  · by_cases q : j = cnt E
    · subst q
      rw [er2]
      intro v hv
      cases hv
      exact ⟨by omega, by rw [es2]; exact kcl_dc k⟩
    · rw [er _ _ (by omega) (Or.inr q)]; exact okm _ (g5 j hj)
  · rw [er _ _ (by omega) (Or.inl (by decide))]; exact okm _ (g5b j hj)
  · rw [do_0 (by decide), jo 32 (by omega) (by decide) (by decide)]; exact g8
  · rw [do_r (by decide) (by decide), jo 33 (by omega) (by decide) (by decide)]; exact g9 j hj
  · rw [do_r (by decide) (by decide), do_r (by decide) (by decide), jo 34 (by omega) (by decide) (by decide), jo 35 (by omega) (by decide) (by decide), el _ (by omega)]; exact gt t ht
  · rw [jo 0 (by omega) (by decide) (by decide)]; exact g10
  · rw [jo 0 (by omega) (by decide) (by decide)]; exact g11
theorem c10_n {n : Nat} (h : n ≤ 10) (h2 : ¬ nI n < 10) : nI n = 10 := by
  rcases Nat.lt_or_ge n 10 with z | z
  · exact absurd (nI_lt z (by decide)) h2
  · have : n = 10 := by omega
    subst this
    rfl
/-! of which kind -/
def ikC (c : Nat) (k : Int32) : Int32 := if k = 0 then 1 else if k = 1 then (if c = 9 ∨ c = 8 then 1 else 0) else if k = 2 then (if c = 2 ∨ c = 6 then 1 else 0) else if k = 3 then (if c = 4 ∨ c = 10 then 1 else 0) else if k = 4 then (if c = 8 then 1 else 0) else if k = 5 then (if c = 6 then 1 else 0) else if c = 10 then 1 else 0
theorem tk_e : ∀ x, x < 7 → ∀ k, k < 7 → ((ikC (kcl (nI x)) (nI k) = 0 ↔ ¬ (nI k = 0 ∨ nI x = nI k ∨ (nI k = 1 ∧ nI x = 4) ∨ (nI k = 2 ∧ nI x = 5) ∨ (nI k = 3 ∧ nI x = 6))) ∧ knd (kcl (nI x)) = nI x) := by decide +kernel
theorem RY.shift {E : It} {L : Nat → Int64} {I : It} {h : Ht} (hY : RY E L I h) {t i o j n : Nat} (ht : t < 6) (ho : o < 6) (hi : i + n ≤ 60) (hj : j + n ≤ 60) :
    RY E (fun q => if 60 * o + j ≤ q ∧ q < 60 * o + j + n then L (60 * t + i + (q - (60 * o + j))) else L q) I (cpL h (37 + t) (37 + o) i j n) := by
  refine hY.tp (fun s hs => ⟨(hY.2.2.2.2.2.2.1 s hs).1, (hY.2.2.2.2.2.2.1 s hs).2.1, fun k hk => ?_⟩) (fun _ _ _ => rfl) (fun _ _ _ => rfl) rfl rfl rfl
  show (if 37 + s = 37 + o then va_cpy (hL h (37 + t)) (hL h (37 + o)) i j n else hL h (37 + s)) k = _
  by_cases e : s = o
  · subst e
    rw [if_pos rfl]
    unfold va_cpy
    by_cases e2 : j ≤ k ∧ k < j + n
    · rw [if_pos e2, if_pos (by omega), (hY.2.2.2.2.2.2.1 t ht).2.2 _ (by omega)]
      congr 1
      omega
    · rw [if_neg e2, if_neg (by omega)]
      exact (hY.2.2.2.2.2.2.1 s hs).2.2 k hk
  · rw [if_neg (by omega), if_neg (by omega)]
    exact (hY.2.2.2.2.2.2.1 s hs).2.2 k hk
theorem dI_1 {h : Ht} {I : It} {i v r p c n : Int32} (hh : 73 ≤ hn h) : dI (zI I (hn h)) (hn h) i v r p c n 1 = I 1 := by
  have q1 : (1 : Nat) ≠ hn h := by omega
  unfold dI
  rw [upI_off q1, upI_off q1, upI_off q1, upI_off q1, upI_off q1, upI_off q1]
  funext j
  exact if_neg q1
theorem sh_in {lt l2 : Nat} {a b e f n : Int32} (hlt : lt ≤ 60) (hl2 : l2 ≤ 60) (ea : a = nI lt) (eb : b = nI l2) (h0 : ¬ n < 0) (h1 : ¬ ¬ (0 ≤ e ∧ e ≤ a - n)) (h2 : ¬ ¬ (0 ≤ f ∧ f ≤ b - n)) : ∃ i0 j0 n0, e = nI i0 ∧ f = nI j0 ∧ n = nI n0 ∧ i0 + n0 ≤ lt ∧ j0 + n0 ≤ l2 := by
  subst ea
  subst eb
  obtain ⟨n0, hn0, rfl⟩ := nI_of h0
  obtain ⟨h1a, h1b⟩ := Decidable.not_not.mp h1
  obtain ⟨h2a, h2b⟩ := Decidable.not_not.mp h2
  obtain ⟨i0, hi0, rfl⟩ := nI_of (Int32.not_lt.mpr h1a)
  obtain ⟨j0, hj0, rfl⟩ := nI_of (Int32.not_lt.mpr h2a)
  exact ⟨i0, j0, n0, rfl, rfl, rfl, sh_le hlt hn0 hi0 h1b, sh_le hl2 hn0 hj0 h2b⟩
theorem m1_nn {x : Int32} (h : x = -1 ∨ ∃ s, s ≤ 4 ∧ x = nI s) (hne : ¬ x = -1) : 0 ≤ x := by
  obtain ⟨s, hs, rfl⟩ := h.resolve_left hne
  exact nI_pos' (by omega)
theorem sh_sp {E : It} {L : Nat → Int64} {e f n : Int32} {t o : Nat} (ht : t < 6) (ho : o < 6) (ta : isT (nI t)) (oa : isT (nI o)) :
    ((E 36 t = -1 ∨ E 36 o = -1) → (shiftS E (nI t) e (nI o) f n, shiftL E L (nI t) e (nI o) f n) = (-11, L)) ∧
    (¬ E 36 t = -1 → ¬ E 36 o = -1 → (E 36 t = -1 ∨ ∃ s, s ≤ 4 ∧ E 36 t = nI s) → (E 36 o = -1 ∨ ∃ s, s ≤ 4 ∧ E 36 o = nI s) → ¬ E 36 t = E 36 o → (shiftS E (nI t) e (nI o) f n, shiftL E L (nI t) e (nI o) f n) = (-12, L)) ∧
    (¬ E 36 t = -1 → ¬ E 36 o = -1 → (E 36 t = -1 ∨ ∃ s, s ≤ 4 ∧ E 36 t = nI s) → (E 36 o = -1 ∨ ∃ s, s ≤ 4 ∧ E 36 o = nI s) → E 36 t = E 36 o → (n < 0 ∨ ¬ (0 ≤ e ∧ e ≤ E 37 t - n) ∨ ¬ (0 ≤ f ∧ f ≤ E 37 o - n)) → (shiftS E (nI t) e (nI o) f n, shiftL E L (nI t) e (nI o) f n) = (-13, L)) ∧
    (¬ E 36 t = -1 → ¬ E 36 o = -1 → (E 36 t = -1 ∨ ∃ s, s ≤ 4 ∧ E 36 t = nI s) → (E 36 o = -1 ∨ ∃ s, s ≤ 4 ∧ E 36 o = nI s) → E 36 t = E 36 o → ∀ {lt l2 i0 j0 n0 : Nat}, E 37 t = nI lt → E 37 o = nI l2 → lt ≤ 60 → l2 ≤ 60 → i0 + n0 ≤ lt → j0 + n0 ≤ l2 →
      (shiftS E (nI t) (nI i0) (nI o) (nI j0) (nI n0), shiftL E L (nI t) (nI i0) (nI o) (nI j0) (nI n0)) = (nI n0, fun q => if 60 * o + j0 ≤ q ∧ q < 60 * o + j0 + n0 then L (60 * t + i0 + (q - (60 * o + j0))) else L q)) := by
  have et : tN (nI t) = t := tN_nI (by omega)
  have eo : tN (nI o) = o := tN_nI (by omega)
  unfold shiftS shiftL
  rw [if_neg (not_not_intro ta), if_neg (not_not_intro oa), if_neg (not_not_intro ta), if_neg (not_not_intro oa), et, eo]
  refine ⟨fun h => ?_, fun n1 n2 h1 h2 hne => ?_, fun n1 n2 h1 h2 he h => ?_, fun n1 n2 h1 h2 he lt l2 i0 j0 n0 el el2 hl hl2 hi hj => ?_⟩
  · by_cases z : E 36 t < 0
    · rw [if_pos z, if_pos z]
    · have z2 : ¬ 0 ≤ E 36 o := by
        rcases h with h | h
        · exact absurd (by rw [h]; decide) z
        · rw [h]; decide
      rw [if_neg z, if_pos z2, if_neg z, if_pos z2]
  · have z := Int32.not_lt.mpr (m1_nn h1 n1)
    have z2 := m1_nn h2 n2
    rw [if_neg z, if_neg (not_not_intro z2), if_pos hne, if_neg z, if_neg (not_not_intro z2), if_pos hne]
  · have z := Int32.not_lt.mpr (m1_nn h1 n1)
    have z2 := m1_nn h2 n2
    rw [if_neg z, if_neg (not_not_intro z2), if_neg (not_not_intro he), if_neg z, if_neg (not_not_intro z2), if_neg (not_not_intro he)]
    by_cases a1 : n < 0
    · rw [if_pos a1, if_pos a1]
    rw [if_neg a1, if_neg a1]
    by_cases a2 : e < 0
    · rw [if_pos a2, if_pos a2]
    rw [if_neg a2, if_neg a2]
    by_cases a3 : f < 0
    · rw [if_pos a3, if_pos a3]
    rw [if_neg a3, if_neg a3]
    by_cases a4 : E 37 t - n < e
    · rw [if_pos a4, if_pos a4]
    rw [if_neg a4, if_neg a4]
    by_cases a5 : ¬ f ≤ E 37 o - n
    · rw [if_pos a5, if_pos a5]
    · exfalso
      rcases h with h | h | h
      · exact a1 h
      · exact h ⟨Int32.not_lt.mp a2, Int32.not_lt.mp a4⟩
      · exact h ⟨Int32.not_lt.mp a3, Decidable.not_not.mp a5⟩
  · have z := Int32.not_lt.mpr (m1_nn h1 n1)
    have z2 := m1_nn h2 n2
    have p1 : ¬ nI n0 < 0 := nI_pos (by omega)
    have p2 : ¬ nI i0 < 0 := nI_pos (by omega)
    have p3 : ¬ nI j0 < 0 := nI_pos (by omega)
    have p4 : ¬ nI lt - nI n0 < nI i0 := by rw [pk_sub (by omega)]; exact Int32.not_lt.mpr (nI_le (by omega) (by omega))
    have p5 : ¬ ¬ nI j0 ≤ nI l2 - nI n0 := by rw [pk_sub (by omega)]; exact not_not_intro (nI_le (by omega) (by omega))
    rw [if_neg (not_not_intro ta), if_neg (not_not_intro oa), if_neg (not_not_intro ta), if_neg (not_not_intro oa), el, el2, if_neg z, if_neg (not_not_intro z2), if_neg (not_not_intro he), if_neg p1, if_neg p2, if_neg p3, if_neg p4, if_neg p5, if_neg z, if_neg (not_not_intro z2), if_neg (not_not_intro he), if_neg p1, if_neg p2, if_neg p3, if_neg p4, if_neg p5, tN_nI (by omega), tN_nI (by omega), tN_nI (by omega)]
end
section
set_option maxRecDepth 8000 in
set_option maxHeartbeats 4000000 in
theorem x_chance {G : Gt} (hG : Gok G) {I : It} {h : Ht}  {E : It} {L : Nat → Int64} (hE : Inv E) (hY : RY E L I h) {n p : Int32} : Con G (5) 0 0 mX11_chance [.ref 0, .int n, .int p] I h (qXL (chanceF E n p) E L (hn h)) := by
  refine con_intro (own := RX11) (lo0 := [some (.ref 0), some (.int n), some (.int p), none, none, none, none, none, none]) hG rfl pl_X11 (Nat.le_of_ble_eq_true rfl) rfl (fun X hX => ?_)
  have hW := hY.wx hE
  have hH := hW.1
  have hc10 := hW.2.1.2
  have loop31 : ∀ m, n = nI m → m ≤ 60 → (0 ≤ p ∧ p ≤ 1) → ∀ (k d a b : Nat), d + k = cnt E → a ≤ b → a ≤ 10 ^ d → (1 ≤ b ∧ b ≤ 10 ^ d) → chR E m k d a b = chR E m (cnt E) 0 1 1 → GG G (5) 0 0 X (qXL (chanceF E n p) E L (hn h)) 31 [some (.ref 0), some (.int (nI m)), some (.int p), some (.long (lN a)), none, some (.long (lN b)), none, some (.int (nI d)), none] [] (I) (h) 0 0 := by
    intro m hnm hm60 hp1 k
    subst hnm
    have hin : 0 ≤ nI m ∧ nI m ≤ 60 := ⟨nI_pos' (by omega), (nI_leI (b := 60) (by omega) (by decide)).mpr hm60⟩
    induction k using Nat.strongRecOn with | _ k ih => ?_
    intro d a b hk hab ha hb hv
    refine g_iload_7 hX (dk DX11_chance_0 18 rfl) ?_
    refine g_aload_0 hX (dk DX11_chance_0 19 rfl) ?_
    refine g_getRs (r := 1) hX (dk DX11_chance_0 20 rfl) KX11 fX11_12 (by decide) rfl (CLt hH (q := 0) (by decide)) (CC hH 0 (by decide) rfl) (CR hH 0 0 1 (by decide)) ?_
    refine g_getIv hX (dk DX11_chance_0 21 rfl) KX5 fX11_72 (by decide) rfl (CLt hH (q := 1) (by decide)) (CC hH 1 (by decide) rfl) (hY.2.1.1.1.trans (inv_cnt hE).1) ?_
    refine g_icmp_ge (tgt := 118) hX (dk DX11_chance_0 22 rfl) (by decide) (fun hc1 => ?_) (fun hc1 => ?_)
    · have hg : 0 < Nat.gcd a b := Nat.gcd_pos_of_pos_right _ hb.1
      have hg2 : Nat.gcd a b < 2 ^ 63 := Nat.lt_of_le_of_lt (Nat.gcd_le_right _ hb.1) (ch_63 hb.2 (by have := (inv_cnt hE).2; omega))
      have hk0 := cl_end hk (by have := (inv_cnt hE).2; omega) hc1
      subst hk0
      have hcE := (inv_cnt hE).2
      have hb34 : b < 2 ^ 34 := Nat.lt_of_le_of_lt (Nat.le_trans hb.2 (Nat.pow_le_pow_right (by decide) (show d ≤ 10 by omega))) (by decide)
      refine g_lload_3 hX (dk DX11_chance_0 58 rfl) ?_
      refine g_lload_5 hX (dk DX11_chance_0 59 rfl) ?_
      refine g_c2L hX sX11_chance_121 (by decide) (Nat.le_of_ble_eq_true rfl) rcN (by decide) (by decide) (c_X11_commonDivisor hG hab hb.1 hb34) ?_
      refine g_lstore_7 hX (dk DX11_chance_1 1 rfl) (by decide) rfl ?_
      refine g_iload_2 hX (dk DX11_chance_1 2 rfl) ?_
      refine g_if_ne (tgt := 134) hX (dk DX11_chance_1 3 rfl) (by decide) (fun hc2 => ?_) (fun hc2 => ?_)
      · refine g_lload_5 hX (dk DX11_chance_1 6 rfl) ?_
        refine g_lload_7 hX (dk DX11_chance_1 7 rfl) ?_
        refine g_ldiv hX (dk DX11_chance_1 8 rfl) (lN_ne0 hg hg2) ?_
        refine g_lreturn hX (dk DX11_chance_1 9 rfl) rfl (by decide) (by decide) ?_
        have hch : chanceF E (nI m) p = if p = 0 then lN (a / Nat.gcd a b) else lN (b / Nat.gcd a b) := by
          unfold chanceF
          rw [if_neg (not_not_intro hin), if_neg (not_not_intro hp1), tN_nI (by omega), ← hv]
          rfl
        first
        | exact qXL_of (by rw [hch, if_pos (by assumption)]; exact pk_lDiv (ch_63 ha (by omega)) hg hg2) hY
        | exact qXL_of (by rw [hch, if_neg (by assumption)]; exact pk_lDiv (ch_63 hb.2 (by omega)) hg hg2) hY
      · refine g_lload_3 hX (dk DX11_chance_1 4 rfl) ?_
        refine g_goto (tgt := 136) hX (dk DX11_chance_1 5 rfl) (by decide) ?_
        refine g_lload_7 hX (dk DX11_chance_1 7 rfl) ?_
        refine g_ldiv hX (dk DX11_chance_1 8 rfl) (lN_ne0 hg hg2) ?_
        refine g_lreturn hX (dk DX11_chance_1 9 rfl) rfl (by decide) (by decide) ?_
        have hch : chanceF E (nI m) p = if p = 0 then lN (a / Nat.gcd a b) else lN (b / Nat.gcd a b) := by
          unfold chanceF
          rw [if_neg (not_not_intro hin), if_neg (not_not_intro hp1), tN_nI (by omega), ← hv]
          rfl
        first
        | exact qXL_of (by rw [hch, if_pos (by assumption)]; exact pk_lDiv (ch_63 ha (by omega)) hg hg2) hY
        | exact qXL_of (by rw [hch, if_neg (by assumption)]; exact pk_lDiv (ch_63 hb.2 (by omega)) hg hg2) hY
    · have hcE := (inv_cnt hE).2
      obtain ⟨k, rfl⟩ := cl_go hk (by omega) hc1
      have hd : d < cnt E := by omega
      have hd10 : d < 10 := by omega
      have hcd : d < cN I := by rw [hY.cn]; exact hd
      obtain ⟨g1, g2, g3, g4, g5, g6, g7, g8, g9, g10⟩ := hY.d hd
      have hw9 := (inv_wk hE).2
      refine g_aload_0 hX (dk DX11_chance_0 23 rfl) ?_
      refine g_getRs (r := 1) hX (dk DX11_chance_0 24 rfl) KX11 fX11_12 (by decide) rfl (CLt hH (q := 0) (by decide)) (CC hH 0 (by decide) rfl) (CR hH 0 0 1 (by decide)) ?_
      refine g_iload_7 hX (dk DX11_chance_0 25 rfl) ?_
      refine g_c2R hX sX11_chance_49 (by decide) (Nat.le_of_ble_eq_true rfl) (rc0 rfl (CLt hH (by decide)) (CC hH 1 (by decide) rfl)) (by decide) (by decide) (c_X5_find hG hW hcd) ?_
      refine g_astore_8 hX (dk DX11_chance_0 27 rfl) (by decide) rfl ?_
      refine g_aload_8 hX (dk DX11_chance_0 28 rfl) ?_
      refine g_ifnullR hX (dk DX11_chance_0 29 rfl) ?_
      refine g_aload_0 hX (dk DX11_chance_0 30 rfl) ?_
      refine g_getRs (r := 1) hX (dk DX11_chance_0 31 rfl) KX11 fX11_12 (by decide) rfl (CLt hH (q := 0) (by decide)) (CC hH 0 (by decide) rfl) (CR hH 0 0 1 (by decide)) ?_
      refine g_getIv hX (dk DX11_chance_0 32 rfl) KX5 fX11_109 (by decide) rfl (CLt hH (q := 1) (by decide)) (CC hH 1 (by decide) rfl) (hY.2.1.1.2.2.1) ?_
      refine g_iload_7 hX (dk DX11_chance_0 33 rfl) ?_
      refine g_c2I hX sX11_chance_68 (by decide) (Nat.le_of_ble_eq_true rfl) rcN (by decide) (by decide) (c_X11_bit hG) ?_
      refine g_if_ne (tgt := 112) hX (dk DX11_chance_0 35 rfl) (by decide) (fun hc3 => ?_) (fun hc3 => ?_)
      · refine g_iinc_7 hX (dk DX11_chance_0 56 rfl) (nI_1 d) (by decide) rfl ?_
        refine g_goto (tgt := 31) hX (dk DX11_chance_0 57 rfl) (by decide) ?_
        first
        | exact g_fgt (ih k (by omega) (d + 1) _ _ (by omega) (Nat.mul_le_mul hab ho) hbd.1 hbd.2 (by rw [← hv, hst])) ⟨rfl, rfl, rfl, rfl, rfl, rfl, trivial⟩
        | exact g_fgt (ih k (by omega) (d + 1) _ _ (by omega) hab (ch_up ha) ⟨hb.1, ch_up hb.2⟩ (by rw [← hv, chR_s, if_neg hst0, if_neg (fun z => (show ¬ nI (wu E d (wk E)) < nI m from Int32.not_lt.mpr (by assumption)) ((comIn_e hE hd m (by omega)).mp z))])) ⟨rfl, rfl, rfl, rfl, rfl, rfl, trivial⟩
        | exact g_fgt (ih k (by omega) (d + 1) _ _ (by omega) hab (ch_up ha) ⟨hb.1, ch_up hb.2⟩ (by rw [← hv, chR_s, if_pos ((has_01 _ _).resolve_left (by assumption))])) ⟨rfl, rfl, rfl, rfl, rfl, rfl, trivial⟩
      · have hst0 : ¬ hasI (E 0 6) (nI d) = 1 := fun z => by rw [show hasI (E 0 6) (nI d) = 0 by first | assumption | exact Decidable.not_not.mp hc3] at z; exact absurd z (by decide)
        refine g_aload_8 hX (dk DX11_chance_0 36 rfl) ?_
        refine g_aload_0 hX (dk DX11_chance_0 37 rfl) ?_
        refine g_getRs (r := 1) hX (dk DX11_chance_0 38 rfl) KX11 fX11_12 (by decide) rfl (CLt hH (q := 0) (by decide)) (CC hH 0 (by decide) rfl) (CR hH 0 0 1 (by decide)) ?_
        refine g_getIv hX (dk DX11_chance_0 39 rfl) KX5 fX11_122 (by decide) rfl (CLt hH (q := 1) (by decide)) (CC hH 1 (by decide) rfl) (hY.2.1.1.2.1.trans (inv_wk hE).1) ?_
        refine g_c2I hX (sD_X11_chance_83 _ (by rw [g4]; exact kcl_dc _)) (by decide) (Nat.le_of_ble_eq_true rfl) (rc0 rfl g3 rfl) (by decide) (by decide) (cD_weeksUntil hG g3 (by rw [g4]; exact kcl_dc _) (by exact (hW.2.2.1 d hcd).2.2.2.2.2)) ?_
        refine g_nmI (nI (wu E d (wk E))) (by rw [g7, g8]; exact (wu_fm hE hd (by omega)).1) ?_
        refine g_iload_1 hX (dk DX11_chance_0 41 rfl) ?_
        refine g_icmp_ge (tgt := 112) hX (dk DX11_chance_0 42 rfl) (by decide) (fun hc4 => ?_) (fun hc4 => ?_)
        · refine g_iinc_7 hX (dk DX11_chance_0 56 rfl) (nI_1 d) (by decide) rfl ?_
          refine g_goto (tgt := 31) hX (dk DX11_chance_0 57 rfl) (by decide) ?_
          first
          | exact g_fgt (ih k (by omega) (d + 1) _ _ (by omega) (Nat.mul_le_mul hab ho) hbd.1 hbd.2 (by rw [← hv, hst])) ⟨rfl, rfl, rfl, rfl, rfl, rfl, trivial⟩
          | exact g_fgt (ih k (by omega) (d + 1) _ _ (by omega) hab (ch_up ha) ⟨hb.1, ch_up hb.2⟩ (by rw [← hv, chR_s, if_neg hst0, if_neg (fun z => (show ¬ nI (wu E d (wk E)) < nI m from Int32.not_lt.mpr (by assumption)) ((comIn_e hE hd m (by omega)).mp z))])) ⟨rfl, rfl, rfl, rfl, rfl, rfl, trivial⟩
          | exact g_fgt (ih k (by omega) (d + 1) _ _ (by omega) hab (ch_up ha) ⟨hb.1, ch_up hb.2⟩ (by rw [← hv, chR_s, if_pos ((has_01 _ _).resolve_left (by assumption))])) ⟨rfl, rfl, rfl, rfl, rfl, rfl, trivial⟩
        · have hst : chR E m (k + 1) d a b = chR E m k (d + 1) (a * tN (E 7 d)) (b * 10) := by rw [chR_s, if_neg hst0, if_pos ((comIn_e hE hd m (by omega)).mpr (Int32.not_le.mp hc4))]
          obtain ⟨-, -, -, -, -, o, ho, eo⟩ := inv_d hE hd
          have ht : tN (E 7 d) = o := by rw [eo, tN_nI (by omega)]
          rw [ht] at hst
          have hbd := ch_bd ha hb ho
          refine g_lload_3 hX (dk DX11_chance_0 43 rfl) ?_
          refine g_aload_0 hX (dk DX11_chance_0 44 rfl) ?_
          refine g_getRs (r := 1) hX (dk DX11_chance_0 45 rfl) KX11 fX11_12 (by decide) rfl (CLt hH (q := 0) (by decide)) (CC hH 0 (by decide) rfl) (CR hH 0 0 1 (by decide)) ?_
          refine g_getRs (r := 3) hX (dk DX11_chance_0 46 rfl) KX5 fX11_129 (by decide) rfl (CLt hH (q := 1) (by decide)) (CC hH 1 (by decide) rfl) (CR hH 1 1 3 (by decide)) ?_
          refine g_iload_7 hX (dk DX11_chance_0 47 rfl) ?_
          refine v_iaload hX (dk DX11_chance_0 48 rfl) (CLt hH (q := 3) (by decide)) (CS hH 3 (by decide) rfl) (⟨rfl, hd10, by decide⟩) (hY.2.1.2.1 d hd10) ?_
          refine g_i2l hX (dk DX11_chance_0 49 rfl) ?_
          refine g_lmul hX (dk DX11_chance_0 50 rfl) ?_
          rw [eo, nI_l (by omega), lN_mul]
          refine g_lstore_3 hX (dk DX11_chance_0 51 rfl) (by decide) rfl ?_
          refine g_lload_5 hX (dk DX11_chance_0 52 rfl) ?_
          refine g_ldc2_w (v := 10) hX (dk DX11_chance_0 53 rfl) (tg_4 80 rfl rfl) ?_
          refine g_lmul hX (dk DX11_chance_0 54 rfl) ?_
          rw [show (10 : Int64) = lN 10 from rfl, lN_mul]
          refine g_lstore_5 hX (dk DX11_chance_0 55 rfl) (by decide) rfl ?_
          refine g_iinc_7 hX (dk DX11_chance_0 56 rfl) (nI_1 d) (by decide) rfl ?_
          refine g_goto (tgt := 31) hX (dk DX11_chance_0 57 rfl) (by decide) ?_
          first
          | exact g_fgt (ih k (by omega) (d + 1) _ _ (by omega) (Nat.mul_le_mul hab ho) hbd.1 hbd.2 (by rw [← hv, hst])) ⟨rfl, rfl, rfl, rfl, rfl, rfl, trivial⟩
          | exact g_fgt (ih k (by omega) (d + 1) _ _ (by omega) hab (ch_up ha) ⟨hb.1, ch_up hb.2⟩ (by rw [← hv, chR_s, if_neg hst0, if_neg (fun z => (show ¬ nI (wu E d (wk E)) < nI m from Int32.not_lt.mpr (by assumption)) ((comIn_e hE hd m (by omega)).mp z))])) ⟨rfl, rfl, rfl, rfl, rfl, rfl, trivial⟩
          | exact g_fgt (ih k (by omega) (d + 1) _ _ (by omega) hab (ch_up ha) ⟨hb.1, ch_up hb.2⟩ (by rw [← hv, chR_s, if_pos ((has_01 _ _).resolve_left (by assumption))])) ⟨rfl, rfl, rfl, rfl, rfl, rfl, trivial⟩
  refine g_iload_1 hX (dk DX11_chance_0 0 rfl) ?_
  refine g_iconst (v := 0) hX (dk DX11_chance_0 1 rfl) (by decide) ?_
  refine g_bipush (v := 60) hX (dk DX11_chance_0 2 rfl) (by decide) ?_
  refine g_c3I hX sX11_chance_4 (by decide) (Nat.le_of_ble_eq_true rfl) rcN (by decide) (by decide) (c_X11_isNot hG ) ?_
  refine g_ifb_ne (tgt := 19) hX (dk DX11_chance_0 4 rfl) (by decide) (fun hc1 => ?_) (fun hc1 => ?_)
  · refine g_ldc2_w (v := -9223372036854775808) hX (dk DX11_chance_0 10 rfl) (tg_4 79 rfl rfl) ?_
    refine g_lreturn hX (dk DX11_chance_0 11 rfl) rfl (by decide) (by decide) ?_
    first
    | exact qXL_of (by unfold chanceF; rw [if_pos (by assumption)]; rfl) hY
    | exact qXL_of (by unfold chanceF; rw [if_neg (show ¬ ¬ (0 ≤ n ∧ n ≤ 60) by assumption), if_pos (by assumption)]; rfl) hY
  · refine g_iload_2 hX (dk DX11_chance_0 5 rfl) ?_
    refine g_iconst (v := 0) hX (dk DX11_chance_0 6 rfl) (by decide) ?_
    refine g_iconst (v := 1) hX (dk DX11_chance_0 7 rfl) (by decide) ?_
    refine g_c3I hX sX11_chance_13 (by decide) (Nat.le_of_ble_eq_true rfl) rcN (by decide) (by decide) (c_X11_isNot hG ) ?_
    refine g_ifb_eq (tgt := 23) hX (dk DX11_chance_0 9 rfl) (by decide) (fun hc2 => ?_) (fun hc2 => ?_)
    · have hp1 := Decidable.not_not.mp hc2
      have hn1 := Decidable.not_not.mp hc1
      obtain ⟨m, hm60, rfl⟩ := in_of (b := 60) (by decide) hn1
      refine g_lconst (v := 1) hX (dk DX11_chance_0 12 rfl) (by decide) ?_
      refine g_lstore_3 hX (dk DX11_chance_0 13 rfl) (by decide) rfl ?_
      refine g_lconst (v := 1) hX (dk DX11_chance_0 14 rfl) (by decide) ?_
      refine g_lstore_5 hX (dk DX11_chance_0 15 rfl) (by decide) rfl ?_
      refine g_iconst (v := 0) hX (dk DX11_chance_0 16 rfl) (by decide) ?_
      refine g_istore_7 hX (dk DX11_chance_0 17 rfl) (by decide) rfl ?_
      exact g_fgt (loop31 m rfl hm60 hp1 (cnt E) 0 1 1 (Nat.zero_add _) (by decide) (by decide) (by decide) rfl) ⟨rfl, rfl, rfl, rfl, rfl, rfl, trivial⟩
    · refine g_ldc2_w (v := -9223372036854775808) hX (dk DX11_chance_0 10 rfl) (tg_4 79 rfl rfl) ?_
      refine g_lreturn hX (dk DX11_chance_0 11 rfl) rfl (by decide) (by decide) ?_
      first
      | exact qXL_of (by unfold chanceF; rw [if_pos (by assumption)]; rfl) hY
      | exact qXL_of (by unfold chanceF; rw [if_neg (show ¬ ¬ (0 ≤ n ∧ n ≤ 60) by assumption), if_pos (by assumption)]; rfl) hY
end
