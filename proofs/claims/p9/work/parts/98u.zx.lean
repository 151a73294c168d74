section
set_option maxRecDepth 8000 in
set_option maxHeartbeats 4000000 in
theorem zy_needless {G : Gt} (hG : Gok G) {I : It} {h : Ht}  {E : It} {L : Nat → Int64} (hE : Inv E) (hZ : RZ E L I h) {d : Nat} (hd : d < cnt E) {z : Int32} : Con G (3) 0 0 mX11_needless [.ref 0, .int (nI d), .int z] I h (qZ (needlessS E (nI d) z) L (hn h)) := by
  refine con_intro (own := RX11) (lo0 := [some (.ref 0), some (.int (nI d)), some (.int z), none]) hG rfl pl_X11 (Nat.le_of_ble_eq_true rfl) rfl (fun X hX => ?_)
  have hY := hZ.1
  have hW := hY.wx hE
  have hH := hW.1
  have hc10 := hW.2.1.2
  have hcE := (inv_cnt hE).2
  have hd10 : d < 10 := Nat.lt_of_lt_of_le hd (inv_cnt hE).2
  have hcd : d < cN I := by rw [hY.cn]; exact hd
  have hDD := isD_mk hE hd
  obtain ⟨g1, g2, g3, g4, g5, g6, g7, g8, g9, g10⟩ := hY.d hd
  refine g_aload_0 hX (dk DX11_needless 0 rfl) ?_
  refine g_getRs (r := 1) hX (dk DX11_needless 1 rfl) KX11 fX11_12 (by decide) rfl (CLt hH (q := 0) (by decide)) (CC hH 0 (by decide) rfl) (CR hH 0 0 1 (by decide)) ?_
  refine g_iload_1 hX (dk DX11_needless 2 rfl) ?_
  refine g_c2R hX sX11_needless_5 (by decide) (Nat.le_of_ble_eq_true rfl) (rc0 rfl (CLt hH (by decide)) (CC hH 1 (by decide) rfl)) (by decide) (by decide) (c_X5_find hG hW (by exact hcd)) ?_
  refine g_ifnonnull (tgt := 13) hX (dk DX11_needless 4 rfl) (by decide) ?_
  refine g_aload_0 hX (dk DX11_needless 7 rfl) ?_
  refine g_getRs (r := 1) hX (dk DX11_needless 8 rfl) KX11 fX11_12 (by decide) rfl (CLt hH (q := 0) (by decide)) (CC hH 0 (by decide) rfl) (CR hH 0 0 1 (by decide)) ?_
  refine g_getIv hX (dk DX11_needless 9 rfl) KX5 fX11_109 (by decide) rfl (CLt hH (q := 1) (by decide)) (CC hH 1 (by decide) rfl) (hY.2.1.1.2.2.1) ?_
  refine g_iload_1 hX (dk DX11_needless 10 rfl) ?_
  refine g_c2I hX sX11_needless_21 (by decide) (Nat.le_of_ble_eq_true rfl) rcN (by decide) (by decide) (c_X11_bit hG ) ?_
  refine g_istore_3 hX (dk DX11_needless 12 rfl) (by decide) rfl ?_
  refine g_aload_0 hX (dk DX11_needless 13 rfl) ?_
  refine g_getRs (r := 1) hX (dk DX11_needless 14 rfl) KX11 fX11_12 (by decide) rfl (CLt hH (q := 0) (by decide)) (CC hH 0 (by decide) rfl) (CR hH 0 0 1 (by decide)) ?_
  refine g_aload_0 hX (dk DX11_needless 15 rfl) ?_
  refine g_getRs (r := 1) hX (dk DX11_needless 16 rfl) KX11 fX11_12 (by decide) rfl (CLt hH (q := 0) (by decide)) (CC hH 0 (by decide) rfl) (CR hH 0 0 1 (by decide)) ?_
  refine g_getIv hX (dk DX11_needless 17 rfl) KX5 fX11_109 (by decide) rfl (CLt hH (q := 1) (by decide)) (CC hH 1 (by decide) rfl) (hY.2.1.1.2.2.1) ?_
  refine g_iload_1 hX (dk DX11_needless 18 rfl) ?_
  refine g_iload_2 hX (dk DX11_needless 19 rfl) ?_
  refine g_c3I hX sX11_needless_38 (by decide) (Nat.le_of_ble_eq_true rfl) rcN (by decide) (by decide) (c_X11_withBit hG ) ?_
  refine g_putI hX (dk DX11_needless 21 rfl) KX5 fX11_109 (by decide) rfl (CLt hH (q := 1) (by decide)) (CC hH 1 (by decide) rfl) (Or.inl rfl) (rfl) (rfl) ?_
  refine g_iload_3 hX (dk DX11_needless 22 rfl) ?_
  refine g_ireturn hX (dk DX11_needless 23 rfl) rfl (rfl) (by decide) (by decide) ?_
  exact qZ_of (needless_e hDD) (by exact hZ.wN)

set_option maxRecDepth 8000 in
set_option maxHeartbeats 4000000 in
theorem zz_needless {G : Gt} (hG : Gok G) {I : It} {h : Ht}  {E : It} {L : Nat → Int64} (hE : Inv E) (hZ : RZ E L I h) {a : Int32} (hno : ¬ isD E a) {z : Int32} : Con G (3) 0 0 mX11_needless [.ref 0, .int a, .int z] I h (qZ (needlessS E a z) L (hn h)) := by
  refine con_intro (own := RX11) (lo0 := [some (.ref 0), some (.int a), some (.int z), none]) hG rfl pl_X11 (Nat.le_of_ble_eq_true rfl) rfl (fun X hX => ?_)
  have hY := hZ.1
  have hW := hY.wx hE
  have hH := hW.1
  have hc10 := hW.2.1.2
  have hcE := (inv_cnt hE).2
  refine g_aload_0 hX (dk DX11_needless 0 rfl) ?_
  refine g_getRs (r := 1) hX (dk DX11_needless 1 rfl) KX11 fX11_12 (by decide) rfl (CLt hH (q := 0) (by decide)) (CC hH 0 (by decide) rfl) (CR hH 0 0 1 (by decide)) ?_
  refine g_iload_1 hX (dk DX11_needless 2 rfl) ?_
  refine g_c2R hX sX11_needless_5 (by decide) (Nat.le_of_ble_eq_true rfl) (rc0 rfl (CLt hH (by decide)) (CC hH 1 (by decide) rfl)) (by decide) (by decide) (c_X5_find0 hG hW (hY.no hE hno)) ?_
  refine g_ifnonnullN hX (dk DX11_needless 4 rfl) ?_
  refine g_iconst (v := -1) hX (dk DX11_needless 5 rfl) (by decide) ?_
  refine g_ireturn hX (dk DX11_needless 6 rfl) rfl (rfl) (by decide) (by decide) ?_
  exact qZ_of (by unfold needlessS; rw [if_pos hno]) hZ

theorem zx_needless {G : Gt} (hG : Gok G) {I : It} {h : Ht} {E : It} {L : Nat → Int64} (hE : Inv E) (hZ : RZ E L I h) {a : Int32} {z : Int32} : Con G 3 0 0 mX11_needless [.ref 0, .int a, .int z] I h (qZ (needlessS E a z) L (hn h)) := by
  by_cases hh : isD E a
  · obtain ⟨d, hd, rfl⟩ := isD_of hE hh
    exact zy_needless hG hE hZ hd (z := z)
  · exact zz_needless hG hE hZ hh (z := z)
set_option maxRecDepth 8000 in
set_option maxHeartbeats 4000000 in
theorem zy_odds {G : Gt} (hG : Gok G) {I : It} {h : Ht}  {E : It} {L : Nat → Int64} (hE : Inv E) (hZ : RZ E L I h) {d : Nat} (hd : d < cnt E) {n : Int32} : Con G (3) 0 0 mX11_odds [.ref 0, .int (nI d), .int n] I h (qZ (oddsS E (nI d) n) L (hn h)) := by
  refine con_intro (own := RX11) (lo0 := [some (.ref 0), some (.int (nI d)), some (.int n), none, none]) hG rfl pl_X11 (Nat.le_of_ble_eq_true rfl) rfl (fun X hX => ?_)
  have hY := hZ.1
  have hW := hY.wx hE
  have hH := hW.1
  have hc10 := hW.2.1.2
  have hcE := (inv_cnt hE).2
  have hd10 : d < 10 := Nat.lt_of_lt_of_le hd (inv_cnt hE).2
  have hcd : d < cN I := by rw [hY.cn]; exact hd
  have hDD := isD_mk hE hd
  obtain ⟨g1, g2, g3, g4, g5, g6, g7, g8, g9, g10⟩ := hY.d hd
  refine g_aload_0 hX (dk DX11_odds 0 rfl) ?_
  refine g_getRs (r := 1) hX (dk DX11_odds 1 rfl) KX11 fX11_12 (by decide) rfl (CLt hH (q := 0) (by decide)) (CC hH 0 (by decide) rfl) (CR hH 0 0 1 (by decide)) ?_
  refine g_iload_1 hX (dk DX11_odds 2 rfl) ?_
  refine g_c2R hX sX11_odds_5 (by decide) (Nat.le_of_ble_eq_true rfl) (rc0 rfl (CLt hH (by decide)) (CC hH 1 (by decide) rfl)) (by decide) (by decide) (c_X5_find hG hW (by exact hcd)) ?_
  refine g_astore_3 hX (dk DX11_odds 4 rfl) (by decide) rfl ?_
  refine g_aload_3 hX (dk DX11_odds 5 rfl) ?_
  refine g_ifnonnull (tgt := 15) hX (dk DX11_odds 6 rfl) (by decide) ?_
  refine g_iload_2 hX (dk DX11_odds 9 rfl) ?_
  refine g_iconst (v := 0) hX (dk DX11_odds 10 rfl) (by decide) ?_
  refine g_bipush (v := 10) hX (dk DX11_odds 11 rfl) (by decide) ?_
  refine g_c3I hX sX11_odds_19 (by decide) (Nat.le_of_ble_eq_true rfl) rcN (by decide) (by decide) (c_X11_isNot hG ) ?_
  refine g_ifb_eq (tgt := 28) hX (dk DX11_odds 13 rfl) (by decide) (fun hc1 => ?_) (fun hc1 => ?_)
  · refine g_aload_0 hX (dk DX11_odds 16 rfl) ?_
    refine g_getRs (r := 1) hX (dk DX11_odds 17 rfl) KX11 fX11_12 (by decide) rfl (CLt hH (q := 0) (by decide)) (CC hH 0 (by decide) rfl) (CR hH 0 0 1 (by decide)) ?_
    refine g_getRs (r := 3) hX (dk DX11_odds 18 rfl) KX5 fX11_129 (by decide) rfl (CLt hH (q := 1) (by decide)) (CC hH 1 (by decide) rfl) (CR hH 1 1 3 (by decide)) ?_
    refine g_aload_3 hX (dk DX11_odds 19 rfl) ?_
    refine g_getD (v := (nI d)) hX (dk DX11_odds 20 rfl) fX11_132 (by decide) g3 (by rw [g4]; exact kcl_dc _) (g5) ?_
    refine v_iaload hX (dk DX11_odds 21 rfl) (CLt hH (q := 3) (by decide)) (CS hH 3 (by decide) rfl) (⟨rfl, hd10, by decide⟩) (hY.2.1.2.1 d hd10) ?_
    refine g_istore_4 hX (dk DX11_odds 22 rfl) (by decide) rfl ?_
    refine g_aload_0 hX (dk DX11_odds 23 rfl) ?_
    refine g_getRs (r := 1) hX (dk DX11_odds 24 rfl) KX11 fX11_12 (by decide) rfl (CLt hH (q := 0) (by decide)) (CC hH 0 (by decide) rfl) (CR hH 0 0 1 (by decide)) ?_
    refine g_getRs (r := 3) hX (dk DX11_odds 25 rfl) KX5 fX11_129 (by decide) rfl (CLt hH (q := 1) (by decide)) (CC hH 1 (by decide) rfl) (CR hH 1 1 3 (by decide)) ?_
    refine g_aload_3 hX (dk DX11_odds 26 rfl) ?_
    refine g_getD (v := (nI d)) hX (dk DX11_odds 27 rfl) fX11_132 (by decide) g3 (by rw [g4]; exact kcl_dc _) (g5) ?_
    refine g_iload_2 hX (dk DX11_odds 28 rfl) ?_
    refine i_iastore hX (dk DX11_odds 29 rfl) (CLt hH (q := 3) (by decide)) (CS hH 3 (by decide) rfl) (⟨rfl, hd10, by decide⟩) ?_
    refine g_iload_4 hX (dk DX11_odds 30 rfl) ?_
    refine g_ireturn hX (dk DX11_odds 31 rfl) rfl (rfl) (by decide) (by decide) ?_
    exact qZ_of (by unfold oddsS; rw [if_neg (not_not_intro hDD)]; (try first | rw [if_pos hc1] | rw [if_neg hc1] | rw [if_neg (not_not_intro hc1)]); first | done | rfl | (first | rw [tN_nI (by omega)] | (rw [tN_nI (by omega)]; rfl))) hZ.wO
  · refine g_bipush (v := -2) hX (dk DX11_odds 14 rfl) (by decide) ?_
    refine g_ireturn hX (dk DX11_odds 15 rfl) rfl (rfl) (by decide) (by decide) ?_
    exact qZ_of (by unfold oddsS; rw [if_neg (not_not_intro hDD)]; (try first | rw [if_pos hc1] | rw [if_neg hc1] | rw [if_neg (not_not_intro hc1)]); first | done | rfl | (first | rw [tN_nI (by omega)] | (rw [tN_nI (by omega)]; rfl))) hZ

set_option maxRecDepth 8000 in
set_option maxHeartbeats 4000000 in
theorem zz_odds {G : Gt} (hG : Gok G) {I : It} {h : Ht}  {E : It} {L : Nat → Int64} (hE : Inv E) (hZ : RZ E L I h) {a : Int32} (hno : ¬ isD E a) {n : Int32} : Con G (3) 0 0 mX11_odds [.ref 0, .int a, .int n] I h (qZ (oddsS E a n) L (hn h)) := by
  refine con_intro (own := RX11) (lo0 := [some (.ref 0), some (.int a), some (.int n), none, none]) hG rfl pl_X11 (Nat.le_of_ble_eq_true rfl) rfl (fun X hX => ?_)
  have hY := hZ.1
  have hW := hY.wx hE
  have hH := hW.1
  have hc10 := hW.2.1.2
  have hcE := (inv_cnt hE).2
  refine g_aload_0 hX (dk DX11_odds 0 rfl) ?_
  refine g_getRs (r := 1) hX (dk DX11_odds 1 rfl) KX11 fX11_12 (by decide) rfl (CLt hH (q := 0) (by decide)) (CC hH 0 (by decide) rfl) (CR hH 0 0 1 (by decide)) ?_
  refine g_iload_1 hX (dk DX11_odds 2 rfl) ?_
  refine g_c2R hX sX11_odds_5 (by decide) (Nat.le_of_ble_eq_true rfl) (rc0 rfl (CLt hH (by decide)) (CC hH 1 (by decide) rfl)) (by decide) (by decide) (c_X5_find0 hG hW (hY.no hE hno)) ?_
  refine g_astoreN_3 hX (dk DX11_odds 4 rfl) (by decide) rfl ?_
  refine g_aloadN_3 hX (dk DX11_odds 5 rfl) ?_
  refine g_ifnonnullN hX (dk DX11_odds 6 rfl) ?_
  refine g_iconst (v := -1) hX (dk DX11_odds 7 rfl) (by decide) ?_
  refine g_ireturn hX (dk DX11_odds 8 rfl) rfl (rfl) (by decide) (by decide) ?_
  exact qZ_of (by unfold oddsS; rw [if_pos hno]) hZ

theorem zx_odds {G : Gt} (hG : Gok G) {I : It} {h : Ht} {E : It} {L : Nat → Int64} (hE : Inv E) (hZ : RZ E L I h) {a : Int32} {n : Int32} : Con G 3 0 0 mX11_odds [.ref 0, .int a, .int n] I h (qZ (oddsS E a n) L (hn h)) := by
  by_cases hh : isD E a
  · obtain ⟨d, hd, rfl⟩ := isD_of hE hh
    exact zy_odds hG hE hZ hd (n := n)
  · exact zz_odds hG hE hZ hh (n := n)
set_option maxRecDepth 8000 in
set_option maxHeartbeats 4000000 in
theorem zx_hours {G : Gt} (hG : Gok G) {I : It} {h : Ht}  {E : It} {L : Nat → Int64} (hE : Inv E) (hZ : RZ E L I h) {a n : Int32} : Con G (3) 0 0 mX11_hours [.ref 0, .int a, .int n] I h (qZ (hoursS E a n) L (hn h)) := by
  refine con_intro (own := RX11) (lo0 := [some (.ref 0), some (.int a), some (.int n), none]) hG rfl pl_X11 (Nat.le_of_ble_eq_true rfl) rfl (fun X hX => ?_)
  have hY := hZ.1
  have hW := hY.wx hE
  have hH := hW.1
  have hc10 := hW.2.1.2
  have hcE := (inv_cnt hE).2
  refine g_iload_1 hX (dk DX11_hours 0 rfl) ?_
  refine g_iconst (v := 0) hX (dk DX11_hours 1 rfl) (by decide) ?_
  refine g_iconst (v := 3) hX (dk DX11_hours 2 rfl) (by decide) ?_
  refine g_c3I hX sX11_hours_3 (by decide) (Nat.le_of_ble_eq_true rfl) rcN (by decide) (by decide) (c_X11_isNot hG ) ?_
  refine g_ifb_eq (tgt := 11) hX (dk DX11_hours 4 rfl) (by decide) (fun hc1 => ?_) (fun hc1 => ?_)
  · refine g_iload_2 hX (dk DX11_hours 7 rfl) ?_
    refine g_iconst (v := 0) hX (dk DX11_hours 8 rfl) (by decide) ?_
    refine g_bipush (v := 9) hX (dk DX11_hours 9 rfl) (by decide) ?_
    refine g_c3I hX sX11_hours_15 (by decide) (Nat.le_of_ble_eq_true rfl) rcN (by decide) (by decide) (c_X11_isNot hG ) ?_
    refine g_ifb_eq (tgt := 24) hX (dk DX11_hours 11 rfl) (by decide) (fun hc2 => ?_) (fun hc2 => ?_)
    · obtain ⟨y, hy, rfl⟩ := in_of (b := 3) (by decide) (Decidable.not_not.mp hc1)
      refine g_aload_0 hX (dk DX11_hours 14 rfl) ?_
      refine g_getRs (r := 1) hX (dk DX11_hours 15 rfl) KX11 fX11_12 (by decide) rfl (CLt hH (q := 0) (by decide)) (CC hH 0 (by decide) rfl) (CR hH 0 0 1 (by decide)) ?_
      refine g_getRs (r := 4) hX (dk DX11_hours 16 rfl) KX5 fX11_139 (by decide) rfl (CLt hH (q := 1) (by decide)) (CC hH 1 (by decide) rfl) (CR hH 1 5 4 (by decide)) ?_
      refine g_iload_1 hX (dk DX11_hours 17 rfl) ?_
      refine v_iaload hX (dk DX11_hours 18 rfl) (CLt hH (q := 4) (by decide)) (CS hH 4 (by decide) rfl) (⟨rfl, by omega, by decide⟩) (hY.2.1.2.2.1 y (by omega)) ?_
      refine g_istore_3 hX (dk DX11_hours 19 rfl) (by decide) rfl ?_
      refine g_aload_0 hX (dk DX11_hours 20 rfl) ?_
      refine g_getRs (r := 1) hX (dk DX11_hours 21 rfl) KX11 fX11_12 (by decide) rfl (CLt hH (q := 0) (by decide)) (CC hH 0 (by decide) rfl) (CR hH 0 0 1 (by decide)) ?_
      refine g_getRs (r := 4) hX (dk DX11_hours 22 rfl) KX5 fX11_139 (by decide) rfl (CLt hH (q := 1) (by decide)) (CC hH 1 (by decide) rfl) (CR hH 1 5 4 (by decide)) ?_
      refine g_iload_1 hX (dk DX11_hours 23 rfl) ?_
      refine g_iload_2 hX (dk DX11_hours 24 rfl) ?_
      refine i_iastore hX (dk DX11_hours 25 rfl) (CLt hH (q := 4) (by decide)) (CS hH 4 (by decide) rfl) (⟨rfl, by omega, by decide⟩) ?_
      refine g_iload_3 hX (dk DX11_hours 26 rfl) ?_
      refine g_ireturn hX (dk DX11_hours 27 rfl) rfl (rfl) (by decide) (by decide) ?_
      exact qZ_of (by unfold hoursS; (try first | rw [if_pos hc1] | rw [if_neg hc1] | rw [if_neg (not_not_intro hc1)]); (try first | rw [if_pos hc2] | rw [if_neg hc2] | rw [if_neg (not_not_intro hc2)]); rw [tN_nI (by omega)]) (by exact hZ.wH)
    · refine g_bipush (v := -2) hX (dk DX11_hours 12 rfl) (by decide) ?_
      refine g_ireturn hX (dk DX11_hours 13 rfl) rfl (rfl) (by decide) (by decide) ?_
      exact qZ_of (by unfold hoursS; (try first | rw [if_pos hc1] | rw [if_neg hc1] | rw [if_neg (not_not_intro hc1)]); (try first | rw [if_pos hc2] | rw [if_neg hc2] | rw [if_neg (not_not_intro hc2)]); first | done | rfl) hZ
  · refine g_iconst (v := -1) hX (dk DX11_hours 5 rfl) (by decide) ?_
    refine g_ireturn hX (dk DX11_hours 6 rfl) rfl (rfl) (by decide) (by decide) ?_
    exact qZ_of (by unfold hoursS; (try first | rw [if_pos hc1] | rw [if_neg hc1] | rw [if_neg (not_not_intro hc1)]); first | done | rfl) hZ

set_option maxRecDepth 8000 in
set_option maxHeartbeats 4000000 in
theorem zx_trace {G : Gt} (hG : Gok G) {I : It} {h : Ht}  {E : It} {L : Nat → Int64} (hE : Inv E) (hZ : RZ E L I h) {a : Int32} : Con G (1) 0 0 mX11_trace [.ref 0, .int a] I h (qZ (traceS E a) L (hn h)) := by
  refine con_intro (own := RX11) (lo0 := [some (.ref 0), some (.int a)]) hG rfl pl_X11 (Nat.le_of_ble_eq_true rfl) rfl (fun X hX => ?_)
  have hY := hZ.1
  have hW := hY.wx hE
  have hH := hW.1
  have hc10 := hW.2.1.2
  have hcE := (inv_cnt hE).2
  refine g_iload_1 hX (dk DX11_trace 0 rfl) ?_
  refine g_if_lt (tgt := 27) hX (dk DX11_trace 1 rfl) (by decide) (fun hc1 => ?_) (fun hc1 => ?_)
  · refine g_iconst (v := -1) hX (dk DX11_trace 13 rfl) (by decide) ?_
    refine g_ireturn hX (dk DX11_trace 14 rfl) rfl (rfl) (by decide) (by decide) ?_
    first
    | exact qZ_of (by unfold traceS; rw [if_pos (fun z => Int32.not_lt.mpr z.1 (show a < 0 by assumption))]) hZ
    | exact qZ_of (by unfold traceS; rw [if_pos (fun z => absurd (Int32.le_trans (Int32.not_lt.mp (show ¬ a < 20 by assumption)) z.2) (by decide))]) hZ
    | exact qZ_of (by unfold traceS; split <;> first | rfl | rw [if_pos (show E 0 67 ≤ a by assumption)]) hZ
  · refine g_iload_1 hX (dk DX11_trace 2 rfl) ?_
    refine g_aload_0 hX (dk DX11_trace 3 rfl) ?_
    refine g_getRs (r := 32) hX (dk DX11_trace 4 rfl) KX11 fX11_43 (by decide) rfl (CLt hH (q := 0) (by decide)) (CC hH 0 (by decide) rfl) (CR hH 0 8 32 (by decide)) ?_
    refine g_getIv hX (dk DX11_trace 5 rfl) KX7 fX11_258 (by decide) rfl (CLt hH (q := 32) (by decide)) (CC hH 32 (by decide) rfl) (hY.2.2.2.2.2.1.1) ?_
    refine g_icmp_ge (tgt := 27) hX (dk DX11_trace 6 rfl) (by decide) (fun hc2 => ?_) (fun hc2 => ?_)
    · refine g_iconst (v := -1) hX (dk DX11_trace 13 rfl) (by decide) ?_
      refine g_ireturn hX (dk DX11_trace 14 rfl) rfl (rfl) (by decide) (by decide) ?_
      first
      | exact qZ_of (by unfold traceS; rw [if_pos (fun z => Int32.not_lt.mpr z.1 (show a < 0 by assumption))]) hZ
      | exact qZ_of (by unfold traceS; rw [if_pos (fun z => absurd (Int32.le_trans (Int32.not_lt.mp (show ¬ a < 20 by assumption)) z.2) (by decide))]) hZ
      | exact qZ_of (by unfold traceS; split <;> first | rfl | rw [if_pos (show E 0 67 ≤ a by assumption)]) hZ
    · refine g_iload_1 hX (dk DX11_trace 7 rfl) ?_
      refine g_aload_0 hX (dk DX11_trace 8 rfl) ?_
      refine g_getRs (r := 32) hX (dk DX11_trace 9 rfl) KX11 fX11_43 (by decide) rfl (CLt hH (q := 0) (by decide)) (CC hH 0 (by decide) rfl) (CR hH 0 8 32 (by decide)) ?_
      refine g_getRs (r := 33) hX (dk DX11_trace 10 rfl) KX7 fX11_271 (by decide) rfl (CLt hH (q := 32) (by decide)) (CC hH 32 (by decide) rfl) (CR hH 32 0 33 (by decide)) ?_
      refine g_alen (v := 20) hX (dk DX11_trace 11 rfl) (CLt hH (q := 33) (by decide)) (CS hH 33 (by decide) rfl) (by decide) (i0 := 0) rfl (by decide) ?_
      refine g_icmp_lt (tgt := 29) hX (dk DX11_trace 12 rfl) (by decide) (fun hc3 => ?_) (fun hc3 => ?_)
      · have hix : idx a (tN a) 20 := here_ix20 (by assumption) hc3
        refine g_aload_0 hX (dk DX11_trace 15 rfl) ?_
        refine g_getRs (r := 32) hX (dk DX11_trace 16 rfl) KX11 fX11_43 (by decide) rfl (CLt hH (q := 0) (by decide)) (CC hH 0 (by decide) rfl) (CR hH 0 8 32 (by decide)) ?_
        refine g_getRs (r := 33) hX (dk DX11_trace 17 rfl) KX7 fX11_271 (by decide) rfl (CLt hH (q := 32) (by decide)) (CC hH 32 (by decide) rfl) (CR hH 32 0 33 (by decide)) ?_
        refine g_iload_1 hX (dk DX11_trace 18 rfl) ?_
        refine v_iaload hX (dk DX11_trace 19 rfl) (CLt hH (q := 33) (by decide)) (CS hH 33 (by decide) rfl) (hix) (hY.2.2.2.2.2.1.2 (tN a) hix.2.1) ?_
        refine g_ireturn hX (dk DX11_trace 20 rfl) rfl (rfl) (by decide) (by decide) ?_
        exact qZ_of (by unfold traceS; rw [if_neg (not_not_intro ⟨Int32.not_lt.mp (by assumption), lt20_le hix⟩), if_neg (by assumption)]) hZ
      · refine g_iconst (v := -1) hX (dk DX11_trace 13 rfl) (by decide) ?_
        refine g_ireturn hX (dk DX11_trace 14 rfl) rfl (rfl) (by decide) (by decide) ?_
        first
        | exact qZ_of (by unfold traceS; rw [if_pos (fun z => Int32.not_lt.mpr z.1 (show a < 0 by assumption))]) hZ
        | exact qZ_of (by unfold traceS; rw [if_pos (fun z => absurd (Int32.le_trans (Int32.not_lt.mp (show ¬ a < 20 by assumption)) z.2) (by decide))]) hZ
        | exact qZ_of (by unfold traceS; split <;> first | rfl | rw [if_pos (show E 0 67 ≤ a by assumption)]) hZ

set_option maxRecDepth 8000 in
set_option maxHeartbeats 4000000 in
theorem zy_when {G : Gt} (hG : Gok G) {I : It} {h : Ht}  {E : It} {L : Nat → Int64} (hE : Inv E) (hZ : RZ E L I h) {d : Nat} (hd : d < cnt E)  : Con G (3) 0 0 mX11_when [.ref 0, .int (nI d)] I h (qZ (whenS E (nI d)) L (hn h)) := by
  refine con_intro (own := RX11) (lo0 := [some (.ref 0), some (.int (nI d)), none]) hG rfl pl_X11 (Nat.le_of_ble_eq_true rfl) rfl (fun X hX => ?_)
  have hY := hZ.1
  have hW := hY.wx hE
  have hH := hW.1
  have hc10 := hW.2.1.2
  have hcE := (inv_cnt hE).2
  have hd10 : d < 10 := Nat.lt_of_lt_of_le hd (inv_cnt hE).2
  have hcd : d < cN I := by rw [hY.cn]; exact hd
  have hDD := isD_mk hE hd
  obtain ⟨g1, g2, g3, g4, g5, g6, g7, g8, g9, g10⟩ := hY.d hd
  refine g_aload_0 hX (dk DX11_when 0 rfl) ?_
  refine g_getRs (r := 1) hX (dk DX11_when 1 rfl) KX11 fX11_12 (by decide) rfl (CLt hH (q := 0) (by decide)) (CC hH 0 (by decide) rfl) (CR hH 0 0 1 (by decide)) ?_
  refine g_iload_1 hX (dk DX11_when 2 rfl) ?_
  refine g_c2R hX sX11_when_5 (by decide) (Nat.le_of_ble_eq_true rfl) (rc0 rfl (CLt hH (by decide)) (CC hH 1 (by decide) rfl)) (by decide) (by decide) (c_X5_find hG hW (by exact hcd)) ?_
  refine g_astore_2 hX (dk DX11_when 4 rfl) (by decide) rfl ?_
  refine g_aload_2 hX (dk DX11_when 5 rfl) ?_
  refine g_ifnonnull (tgt := 17) hX (dk DX11_when 6 rfl) (by decide) ?_
  refine g_aload_0 hX (dk DX11_when 9 rfl) ?_
  refine g_getRs (r := 1) hX (dk DX11_when 10 rfl) KX11 fX11_12 (by decide) rfl (CLt hH (q := 0) (by decide)) (CC hH 0 (by decide) rfl) (CR hH 0 0 1 (by decide)) ?_
  refine g_getIv hX (dk DX11_when 11 rfl) KX5 fX11_122 (by decide) rfl (CLt hH (q := 1) (by decide)) (CC hH 1 (by decide) rfl) (hY.2.1.1.2.1) ?_
  refine g_aload_2 hX (dk DX11_when 12 rfl) ?_
  refine g_aload_0 hX (dk DX11_when 13 rfl) ?_
  refine g_getRs (r := 1) hX (dk DX11_when 14 rfl) KX11 fX11_12 (by decide) rfl (CLt hH (q := 0) (by decide)) (CC hH 0 (by decide) rfl) (CR hH 0 0 1 (by decide)) ?_
  refine g_getIv hX (dk DX11_when 15 rfl) KX5 fX11_122 (by decide) rfl (CLt hH (q := 1) (by decide)) (CC hH 1 (by decide) rfl) (hY.2.1.1.2.1) ?_
  refine g_c2I hX (sD_X11_when_32 _ (by rw [g4]; exact kcl_dc _)) (by decide) (Nat.le_of_ble_eq_true rfl) (rc0 rfl g3 rfl) (by decide) (by decide) (cD_weeksUntil hG g3 (by rw [g4]; exact kcl_dc _) (by exact (hW.2.2.1 d hcd).2.2.2.2.2)) ?_
  refine g_iadd hX (dk DX11_when 17 rfl) ?_
  refine g_ireturn hX (dk DX11_when 18 rfl) rfl (rfl) (by decide) (by decide) ?_
  exact qZ_of (by unfold whenS; rw [if_neg (not_not_intro hDD), tN_nI (by omega), g7, g8, when_e hE hd]) hZ

set_option maxRecDepth 8000 in
set_option maxHeartbeats 4000000 in
theorem zz_when {G : Gt} (hG : Gok G) {I : It} {h : Ht}  {E : It} {L : Nat → Int64} (hE : Inv E) (hZ : RZ E L I h) {a : Int32} (hno : ¬ isD E a)  : Con G (3) 0 0 mX11_when [.ref 0, .int a] I h (qZ (whenS E a) L (hn h)) := by
  refine con_intro (own := RX11) (lo0 := [some (.ref 0), some (.int a), none]) hG rfl pl_X11 (Nat.le_of_ble_eq_true rfl) rfl (fun X hX => ?_)
  have hY := hZ.1
  have hW := hY.wx hE
  have hH := hW.1
  have hc10 := hW.2.1.2
  have hcE := (inv_cnt hE).2
  refine g_aload_0 hX (dk DX11_when 0 rfl) ?_
  refine g_getRs (r := 1) hX (dk DX11_when 1 rfl) KX11 fX11_12 (by decide) rfl (CLt hH (q := 0) (by decide)) (CC hH 0 (by decide) rfl) (CR hH 0 0 1 (by decide)) ?_
  refine g_iload_1 hX (dk DX11_when 2 rfl) ?_
  refine g_c2R hX sX11_when_5 (by decide) (Nat.le_of_ble_eq_true rfl) (rc0 rfl (CLt hH (by decide)) (CC hH 1 (by decide) rfl)) (by decide) (by decide) (c_X5_find0 hG hW (hY.no hE hno)) ?_
  refine g_astoreN_2 hX (dk DX11_when 4 rfl) (by decide) rfl ?_
  refine g_aloadN_2 hX (dk DX11_when 5 rfl) ?_
  refine g_ifnonnullN hX (dk DX11_when 6 rfl) ?_
  refine g_iconst (v := -1) hX (dk DX11_when 7 rfl) (by decide) ?_
  refine g_goto (tgt := 36) hX (dk DX11_when 8 rfl) (by decide) ?_
  refine g_ireturn hX (dk DX11_when 18 rfl) rfl (rfl) (by decide) (by decide) ?_
  exact qZ_of (by unfold whenS; rw [if_pos hno]) hZ

theorem zx_when {G : Gt} (hG : Gok G) {I : It} {h : Ht} {E : It} {L : Nat → Int64} (hE : Inv E) (hZ : RZ E L I h) {a : Int32}  : Con G 3 0 0 mX11_when [.ref 0, .int a] I h (qZ (whenS E a) L (hn h)) := by
  by_cases hh : isD E a
  · obtain ⟨d, hd, rfl⟩ := isD_of hE hh
    exact zy_when hG hE hZ hd
  · exact zz_when hG hE hZ hh
end
section
set_option maxRecDepth 8000 in
set_option maxHeartbeats 4000000 in
theorem zy_list {G : Gt} (hG : Gok G) {I : It} {h : Ht}  {E : It} {L : Nat → Int64} (hE : Inv E) (hZ : RZ E L I h) {w : Int32} {d : Nat} (hd : d < cnt E) : Con G (3) 0 0 mX11_list [.ref 0, .int w, .int (nI d)] I h (qZ (listS E w (nI d)) L (hn h)) := by
  refine con_intro (own := RX11) (lo0 := [some (.ref 0), some (.int w), some (.int (nI d))]) hG rfl pl_X11 (Nat.le_of_ble_eq_true rfl) rfl (fun X hX => ?_)
  have hY := hZ.1
  have hW := hY.wx hE
  have hH := hW.1
  have hc10 := hW.2.1.2
  have hcE := (inv_cnt hE).2
  have hd10 : d < 10 := Nat.lt_of_lt_of_le hd (inv_cnt hE).2
  have hcd : d < cN I := by rw [hY.cn]; exact hd
  have hDD := isD_mk hE hd
  obtain ⟨g1, g2, g3, g4, g5, g6, g7, g8, g9, g10⟩ := hY.d hd
  obtain ⟨r, hr12, er⟩ := inv_rows hE
  have er2 : I 1 12 = nI r := hY.2.1.1.2.2.2.trans er
  refine g_iload_1 hX (dk DX11_list 0 rfl) ?_
  refine g_iconst (v := -1) hX (dk DX11_list 1 rfl) (by decide) ?_
  refine g_icmp_ne (tgt := 15) hX (dk DX11_list 2 rfl) (by decide) (fun hc1 => ?_) (fun hc1 => ?_)
  · refine g_iload_1 hX (dk DX11_list 9 rfl) ?_
    refine g_iconst (v := 0) hX (dk DX11_list 10 rfl) (by decide) ?_
    refine g_bipush (v := 99) hX (dk DX11_list 11 rfl) (by decide) ?_
    refine g_c3I hX sX11_list_19 (by decide) (Nat.le_of_ble_eq_true rfl) rcN (by decide) (by decide) (c_X11_isNot hG ) ?_
    refine g_ifb_eq (tgt := 28) hX (dk DX11_list 13 rfl) (by decide) (fun hc2 => ?_) (fun hc2 => ?_)
    · refine g_aload_0 hX (dk DX11_list 16 rfl) ?_
      refine g_getRs (r := 1) hX (dk DX11_list 17 rfl) KX11 fX11_12 (by decide) rfl (CLt hH (q := 0) (by decide)) (CC hH 0 (by decide) rfl) (CR hH 0 0 1 (by decide)) ?_
      refine g_iload_2 hX (dk DX11_list 18 rfl) ?_
      refine g_c2R hX sX11_list_33 (by decide) (Nat.le_of_ble_eq_true rfl) (rc0 rfl (CLt hH (by decide)) (CC hH 1 (by decide) rfl)) (by decide) (by decide) (c_X5_find hG hW (by exact hcd)) ?_
      refine g_ifnonnull (tgt := 41) hX (dk DX11_list 20 rfl) (by decide) ?_
      refine g_aload_0 hX (dk DX11_list 23 rfl) ?_
      refine g_getRs (r := 1) hX (dk DX11_list 24 rfl) KX11 fX11_12 (by decide) rfl (CLt hH (q := 0) (by decide)) (CC hH 0 (by decide) rfl) (CR hH 0 0 1 (by decide)) ?_
      refine g_getIv hX (dk DX11_list 25 rfl) KX5 fX11_231 (by decide) rfl (CLt hH (q := 1) (by decide)) (CC hH 1 (by decide) rfl) (er2) ?_
      refine g_bipush (v := 12) hX (dk DX11_list 26 rfl) (by decide) ?_
      refine g_icmp_lt (tgt := 58) hX (dk DX11_list 27 rfl) (by decide) (fun hc3 => ?_) (fun hc3 => ?_)
      · have hlt := hc3
        refine g_aload_0 hX (dk DX11_list 30 rfl) ?_
        refine g_getRs (r := 1) hX (dk DX11_list 31 rfl) KX11 fX11_12 (by decide) rfl (CLt hH (q := 0) (by decide)) (CC hH 0 (by decide) rfl) (CR hH 0 0 1 (by decide)) ?_
        refine g_aload_0 hX (dk DX11_list 32 rfl) ?_
        refine g_getRs (r := 1) hX (dk DX11_list 33 rfl) KX11 fX11_12 (by decide) rfl (CLt hH (q := 0) (by decide)) (CC hH 0 (by decide) rfl) (CR hH 0 0 1 (by decide)) ?_
        refine g_getI hX (dk DX11_list 34 rfl) KX5 fX11_122 (by decide) rfl (CLt hH (q := 1) (by decide)) (CC hH 1 (by decide) rfl) ?_
        refine g_iload_1 hX (dk DX11_list 35 rfl) ?_
        refine g_iadd hX (dk DX11_list 36 rfl) ?_
        refine g_iload_2 hX (dk DX11_list 37 rfl) ?_
        refine g_c3I hX sX11_list_72 (by decide) (Nat.le_of_ble_eq_true rfl) (rc0 rfl (CLt hH (by decide)) (CC hH 1 (by decide) rfl)) (by decide) (by decide) (c_X5_addRow hG hW er2 (lt_nI (b := 12) (by omega) (by decide) hlt)) ?_
        refine g_ireturn hX (dk DX11_list 39 rfl) rfl (rfl) (by decide) (by decide) ?_
        first
        | exact qZ_of (E' := upI (upI (upI E 23 r w) 24 r (nI d)) 0 44 (nI (r + 1))) (by unfold listS; (try first | rw [if_pos hc1] | rw [if_neg hc1] | rw [if_neg (not_not_intro hc1)]); (try first | rw [if_pos hc2] | rw [if_neg hc2] | rw [if_neg (not_not_intro hc2)]); (try first | rw [if_pos hc3] | rw [if_neg hc3] | rw [if_neg (not_not_intro hc3)]); rw [if_neg (not_not_intro hDD), if_neg (show ¬ E 0 44 = 12 from fun z => by rw [er] at z; rw [z] at hlt; exact absurd hlt (by decide)), er, tN_nI (by omega), nI_1]) (by exact ((((hZ.ua (a := 5) (by decide)).ua (a := 6) (by decide)).cc (a := 23) (by decide)).cc (a := 24) (by decide)).wR)
        | exact qZ_of (by unfold listS; (try first | rw [if_pos hc1] | rw [if_neg hc1] | rw [if_neg (not_not_intro hc1)]); (try first | rw [if_pos hc2] | rw [if_neg hc2] | rw [if_neg (not_not_intro hc2)]); (try first | rw [if_pos hc3] | rw [if_neg hc3] | rw [if_neg (not_not_intro hc3)]); rw [if_neg (not_not_intro hDD), if_pos (show E 0 44 = 12 from by rw [er]; exact r_12 hr12 (by assumption))]) hZ
      · refine g_bipush (v := -4) hX (dk DX11_list 28 rfl) (by decide) ?_
        refine g_goto (tgt := 75) hX (dk DX11_list 29 rfl) (by decide) ?_
        refine g_ireturn hX (dk DX11_list 39 rfl) rfl (rfl) (by decide) (by decide) ?_
        first
        | exact qZ_of (E' := upI (upI (upI E 23 r w) 24 r (nI d)) 0 44 (nI (r + 1))) (by unfold listS; (try first | rw [if_pos hc1] | rw [if_neg hc1] | rw [if_neg (not_not_intro hc1)]); (try first | rw [if_pos hc2] | rw [if_neg hc2] | rw [if_neg (not_not_intro hc2)]); (try first | rw [if_pos hc3] | rw [if_neg hc3] | rw [if_neg (not_not_intro hc3)]); rw [if_neg (not_not_intro hDD), if_neg (show ¬ E 0 44 = 12 from fun z => by rw [er] at z; rw [z] at hlt; exact absurd hlt (by decide)), er, tN_nI (by omega), nI_1]) (by exact ((((hZ.ua (a := 5) (by decide)).ua (a := 6) (by decide)).cc (a := 23) (by decide)).cc (a := 24) (by decide)).wR)
        | exact qZ_of (by unfold listS; (try first | rw [if_pos hc1] | rw [if_neg hc1] | rw [if_neg (not_not_intro hc1)]); (try first | rw [if_pos hc2] | rw [if_neg hc2] | rw [if_neg (not_not_intro hc2)]); (try first | rw [if_pos hc3] | rw [if_neg hc3] | rw [if_neg (not_not_intro hc3)]); rw [if_neg (not_not_intro hDD), if_pos (show E 0 44 = 12 from by rw [er]; exact r_12 hr12 (by assumption))]) hZ
    · refine g_bipush (v := -2) hX (dk DX11_list 14 rfl) (by decide) ?_
      refine g_ireturn hX (dk DX11_list 15 rfl) rfl (rfl) (by decide) (by decide) ?_
      exact qZ_of (by unfold listS; (try first | rw [if_pos hc1] | rw [if_neg hc1] | rw [if_neg (not_not_intro hc1)]); (try first | rw [if_pos hc2] | rw [if_neg hc2] | rw [if_neg (not_not_intro hc2)]); first | done | rfl) hZ
  · refine g_aload_0 hX (dk DX11_list 3 rfl) ?_
    refine g_getRs (r := 1) hX (dk DX11_list 4 rfl) KX11 fX11_12 (by decide) rfl (CLt hH (q := 0) (by decide)) (CC hH 0 (by decide) rfl) (CR hH 0 0 1 (by decide)) ?_
    refine g_iconst (v := 0) hX (dk DX11_list 5 rfl) (by decide) ?_
    refine g_putI hX (dk DX11_list 6 rfl) KX5 fX11_231 (by decide) rfl (CLt hH (q := 1) (by decide)) (CC hH 1 (by decide) rfl) (Or.inl rfl) (rfl) (rfl) ?_
    refine g_iconst (v := 0) hX (dk DX11_list 7 rfl) (by decide) ?_
    refine g_ireturn hX (dk DX11_list 8 rfl) rfl (rfl) (by decide) (by decide) ?_
    exact qZ_of (by unfold listS; rw [if_pos (by assumption)]) (by exact hZ.wR)

set_option maxRecDepth 8000 in
set_option maxHeartbeats 4000000 in
theorem zz_list {G : Gt} (hG : Gok G) {I : It} {h : Ht}  {E : It} {L : Nat → Int64} (hE : Inv E) (hZ : RZ E L I h) {w a : Int32} (hno : ¬ isD E a) : Con G (3) 0 0 mX11_list [.ref 0, .int w, .int a] I h (qZ (listS E w a) L (hn h)) := by
  refine con_intro (own := RX11) (lo0 := [some (.ref 0), some (.int w), some (.int a)]) hG rfl pl_X11 (Nat.le_of_ble_eq_true rfl) rfl (fun X hX => ?_)
  have hY := hZ.1
  have hW := hY.wx hE
  have hH := hW.1
  have hc10 := hW.2.1.2
  have hcE := (inv_cnt hE).2
  obtain ⟨r, hr12, er⟩ := inv_rows hE
  have er2 : I 1 12 = nI r := hY.2.1.1.2.2.2.trans er
  refine g_iload_1 hX (dk DX11_list 0 rfl) ?_
  refine g_iconst (v := -1) hX (dk DX11_list 1 rfl) (by decide) ?_
  refine g_icmp_ne (tgt := 15) hX (dk DX11_list 2 rfl) (by decide) (fun hc1 => ?_) (fun hc1 => ?_)
  · refine g_iload_1 hX (dk DX11_list 9 rfl) ?_
    refine g_iconst (v := 0) hX (dk DX11_list 10 rfl) (by decide) ?_
    refine g_bipush (v := 99) hX (dk DX11_list 11 rfl) (by decide) ?_
    refine g_c3I hX sX11_list_19 (by decide) (Nat.le_of_ble_eq_true rfl) rcN (by decide) (by decide) (c_X11_isNot hG ) ?_
    refine g_ifb_eq (tgt := 28) hX (dk DX11_list 13 rfl) (by decide) (fun hc2 => ?_) (fun hc2 => ?_)
    · refine g_aload_0 hX (dk DX11_list 16 rfl) ?_
      refine g_getRs (r := 1) hX (dk DX11_list 17 rfl) KX11 fX11_12 (by decide) rfl (CLt hH (q := 0) (by decide)) (CC hH 0 (by decide) rfl) (CR hH 0 0 1 (by decide)) ?_
      refine g_iload_2 hX (dk DX11_list 18 rfl) ?_
      refine g_c2R hX sX11_list_33 (by decide) (Nat.le_of_ble_eq_true rfl) (rc0 rfl (CLt hH (by decide)) (CC hH 1 (by decide) rfl)) (by decide) (by decide) (c_X5_find0 hG hW (hY.no hE hno)) ?_
      refine g_ifnonnullN hX (dk DX11_list 20 rfl) ?_
      refine g_iconst (v := -1) hX (dk DX11_list 21 rfl) (by decide) ?_
      refine g_ireturn hX (dk DX11_list 22 rfl) rfl (rfl) (by decide) (by decide) ?_
      exact qZ_of (by unfold listS; (try first | rw [if_pos hc1] | rw [if_neg hc1] | rw [if_neg (not_not_intro hc1)]); (try first | rw [if_pos hc2] | rw [if_neg hc2] | rw [if_neg (not_not_intro hc2)]); rw [if_pos hno]) hZ
    · refine g_bipush (v := -2) hX (dk DX11_list 14 rfl) (by decide) ?_
      refine g_ireturn hX (dk DX11_list 15 rfl) rfl (rfl) (by decide) (by decide) ?_
      exact qZ_of (by unfold listS; (try first | rw [if_pos hc1] | rw [if_neg hc1] | rw [if_neg (not_not_intro hc1)]); (try first | rw [if_pos hc2] | rw [if_neg hc2] | rw [if_neg (not_not_intro hc2)]); first | done | rfl) hZ
  · refine g_aload_0 hX (dk DX11_list 3 rfl) ?_
    refine g_getRs (r := 1) hX (dk DX11_list 4 rfl) KX11 fX11_12 (by decide) rfl (CLt hH (q := 0) (by decide)) (CC hH 0 (by decide) rfl) (CR hH 0 0 1 (by decide)) ?_
    refine g_iconst (v := 0) hX (dk DX11_list 5 rfl) (by decide) ?_
    refine g_putI hX (dk DX11_list 6 rfl) KX5 fX11_231 (by decide) rfl (CLt hH (q := 1) (by decide)) (CC hH 1 (by decide) rfl) (Or.inl rfl) (rfl) (rfl) ?_
    refine g_iconst (v := 0) hX (dk DX11_list 7 rfl) (by decide) ?_
    refine g_ireturn hX (dk DX11_list 8 rfl) rfl (rfl) (by decide) (by decide) ?_
    exact qZ_of (by unfold listS; rw [if_pos (by assumption)]) (by exact hZ.wR)

theorem zx_list {G : Gt} (hG : Gok G) {I : It} {h : Ht} {E : It} {L : Nat → Int64} (hE : Inv E) (hZ : RZ E L I h) {w a : Int32} : Con G 3 0 0 mX11_list [.ref 0, .int w, .int a] I h (qZ (listS E w a) L (hn h)) := by
  by_cases hh : isD E a
  · obtain ⟨d, hd, rfl⟩ := isD_of hE hh
    exact zy_list hG hE hZ hd
  · exact zz_list hG hE hZ hh
set_option maxRecDepth 8000 in
set_option maxHeartbeats 4000000 in
theorem zx_image {G : Gt} (hG : Gok G) {I : It} {h : Ht}  {E : It} {L : Nat → Int64} (hE : Inv E) (hZ : RZ E L I h)  : Con G (3) 0 0 mX11_image [.ref 0] I h (qZ (imageS E) L (hn h)) := by
  refine con_intro (own := RX11) (lo0 := [some (.ref 0)]) hG rfl pl_X11 (Nat.le_of_ble_eq_true rfl) rfl (fun X hX => ?_)
  have hY := hZ.1
  have hW := hY.wx hE
  have hH := hW.1
  have hc10 := hW.2.1.2
  have hcE := (inv_cnt hE).2
  refine g_aload_0 hX (dk DX11_image 0 rfl) ?_
  refine g_getRs (r := 7) hX (dk DX11_image 1 rfl) KX11 fX11_18 (by decide) rfl (CLt hH (q := 0) (by decide)) (CC hH 0 (by decide) rfl) (CR hH 0 1 7 (by decide)) ?_
  refine g_aload_0 hX (dk DX11_image 2 rfl) ?_
  refine g_getRs (r := 1) hX (dk DX11_image 3 rfl) KX11 fX11_12 (by decide) rfl (CLt hH (q := 0) (by decide)) (CC hH 0 (by decide) rfl) (CR hH 0 0 1 (by decide)) ?_
  refine g_c2v hX sX11_image_8 (by decide) (Nat.le_of_ble_eq_true rfl) (rc0 rfl (CLt hH (by decide)) (CC hH 7 (by decide) rfl)) (by decide) (by decide) (c_take7 hG hH hY.2.2.2.1.1) ?_
  rintro J h9 hT
  have en : hn h9 = hn h := hT.2.2.2.2.2.2.2.2.2.2.2.1
  have hx9 : HX h9 := hT.2.2.2.2.2.2.2.2.2.2.2.2.2
  have hZ9 := hZ.img hE hT
  have hY9 := hZ9.1
  have hH := hx9
  refine g_aload_0 hX (dk DX11_image 5 rfl) ?_
  refine g_iconst (v := 1) hX (dk DX11_image 6 rfl) (by decide) ?_
  refine g_putI hX (dk DX11_image 7 rfl) KX11 fX11_254 (by decide) rfl (CLt hH (q := 0) (by decide)) (CC hH 0 (by decide) rfl) (Or.inl rfl) (by decide) (by decide) ?_
  refine g_aload_0 hX (dk DX11_image 8 rfl) ?_
  refine g_getRs (r := 1) hX (dk DX11_image 9 rfl) KX11 fX11_12 (by decide) rfl (CLt hH (q := 0) (by decide)) (CC hH 0 (by decide) rfl) (CR hH 0 0 1 (by decide)) ?_
  refine g_getIv hX (dk DX11_image 10 rfl) KX5 fX11_72 (by decide) rfl (CLt hH (q := 1) (by decide)) (CC hH 1 (by decide) rfl) ((hY9.2.1.1.1.trans (img_0 (by decide)))) ?_
  refine g_ireturn hX (dk DX11_image 11 rfl) rfl (rfl) (by decide) (by decide) ?_
  exact qZ_ofN rfl hZ9 (Nat.le_of_eq en)

set_option maxRecDepth 8000 in
set_option maxHeartbeats 4000000 in
theorem zx_undo {G : Gt} (hG : Gok G) {I : It} {h : Ht}  {E : It} {L : Nat → Int64} (hE : Inv E) (hZ : RZ E L I h)  : Con G (3) 0 0 mX11_undo [.ref 0] I h (qZ (undoS E) L (hn h)) := by
  refine con_intro (own := RX11) (lo0 := [some (.ref 0)]) hG rfl pl_X11 (Nat.le_of_ble_eq_true rfl) rfl (fun X hX => ?_)
  have hY := hZ.1
  have hW := hY.wx hE
  have hH := hW.1
  have hc10 := hW.2.1.2
  have hcE := (inv_cnt hE).2
  refine g_aload_0 hX (dk DX11_undo 0 rfl) ?_
  refine g_getIv hX (dk DX11_undo 1 rfl) KX11 fX11_254 (by decide) rfl (CLt hH (q := 0) (by decide)) (CC hH 0 (by decide) rfl) (hY.2.2.1.1) ?_
  refine g_if_ne (tgt := 10) hX (dk DX11_undo 2 rfl) (by decide) (fun hc1 => ?_) (fun hc1 => ?_)
  · refine g_aload_0 hX (dk DX11_undo 5 rfl) ?_
    refine g_getRs (r := 1) hX (dk DX11_undo 6 rfl) KX11 fX11_12 (by decide) rfl (CLt hH (q := 0) (by decide)) (CC hH 0 (by decide) rfl) (CR hH 0 0 1 (by decide)) ?_
    refine g_aload_0 hX (dk DX11_undo 7 rfl) ?_
    refine g_getRs (r := 7) hX (dk DX11_undo 8 rfl) KX11 fX11_18 (by decide) rfl (CLt hH (q := 0) (by decide)) (CC hH 0 (by decide) rfl) (CR hH 0 1 7 (by decide)) ?_
    refine g_c2v hX sX11_undo_18 (by decide) (Nat.le_of_ble_eq_true rfl) (rc0 rfl (CLt hH (by decide)) (CC hH 1 (by decide) rfl)) (by decide) (by decide) (c_take1 hG hH hY.2.2.2.1.2) ?_
    rintro J h9 hT
    have en : hn h9 = hn h := hT.2.2.2.2.2.2.2.2.2.2.2.1
    have hx9 : HX h9 := hT.2.2.2.2.2.2.2.2.2.2.2.2.2
    have hZ9 := hZ.und hE hc1 hT
    have hY9 := hZ9.1
    have hH := hx9
    refine g_aload_0 hX (dk DX11_undo 10 rfl) ?_
    refine g_getRs (r := 1) hX (dk DX11_undo 11 rfl) KX11 fX11_12 (by decide) rfl (CLt hH (q := 0) (by decide)) (CC hH 0 (by decide) rfl) (CR hH 0 0 1 (by decide)) ?_
    refine g_getIv hX (dk DX11_undo 12 rfl) KX5 fX11_72 (by decide) rfl (CLt hH (q := 1) (by decide)) (CC hH 1 (by decide) rfl) (hY9.2.1.1.1) ?_
    refine g_ireturn hX (dk DX11_undo 13 rfl) rfl (rfl) (by decide) (by decide) ?_
    exact qZ_ofN (by unfold undoS; rw [if_neg hc1]; rfl) hZ9 (Nat.le_of_eq en)
  · refine g_bipush (v := -3) hX (dk DX11_undo 3 rfl) (by decide) ?_
    refine g_ireturn hX (dk DX11_undo 4 rfl) rfl (rfl) (by decide) (by decide) ?_
    exact qZ_of (by unfold undoS; rw [if_pos (by first | exact hc1 | exact Decidable.not_not.mp hc1)]) hZ

set_option maxRecDepth 8000 in
set_option maxHeartbeats 4000000 in
theorem zy_act {G : Gt} (hG : Gok G) {I : It} {h : Ht}  {E : It} {L : Nat → Int64} (hE : Inv E) (hZ : RZ E L I h) {d : Nat} (hd : d < cnt E) {w x : Int32} : Con G (9) 0 0 mX11_act [.ref 0, .int (nI d), .int w, .int x] I h (qZ (actS E (nI d) w x) L (hn h)) := by
  refine con_intro (own := RX11) (lo0 := [some (.ref 0), some (.int (nI d)), some (.int w), some (.int x), none]) hG rfl pl_X11 (Nat.le_of_ble_eq_true rfl) rfl (fun X hX => ?_)
  have hY := hZ.1
  have hW := hY.wx hE
  have hH := hW.1
  have hc10 := hW.2.1.2
  have hcE := (inv_cnt hE).2
  have hd10 : d < 10 := Nat.lt_of_lt_of_le hd (inv_cnt hE).2
  have hcd : d < cN I := by rw [hY.cn]; exact hd
  have hDD := isD_mk hE hd
  obtain ⟨g1, g2, g3, g4, g5, g6, g7, g8, g9, g10⟩ := hY.d hd
  refine g_aload_0 hX (dk DX11_act 0 rfl) ?_
  refine g_getRs (r := 32) hX (dk DX11_act 1 rfl) KX11 fX11_43 (by decide) rfl (CLt hH (q := 0) (by decide)) (CC hH 0 (by decide) rfl) (CR hH 0 8 32 (by decide)) ?_
  refine g_iconst (v := 0) hX (dk DX11_act 2 rfl) (by decide) ?_
  refine g_putI hX (dk DX11_act 3 rfl) KX7 fX11_258 (by decide) rfl (CLt hH (q := 32) (by decide)) (CC hH 32 (by decide) rfl) (Or.inl rfl) (rfl) (rfl) ?_
  refine g_aload_0 hX (dk DX11_act 4 rfl) ?_
  refine g_getRs (r := 1) hX (dk DX11_act 5 rfl) KX11 fX11_12 (by decide) rfl (CLt hH (q := 0) (by decide)) (CC hH 0 (by decide) rfl) (CR hH 0 0 1 (by decide)) ?_
  refine g_iload_1 hX (dk DX11_act 6 rfl) ?_
  refine g_c2R hX sX11_act_13 (by decide) (Nat.le_of_ble_eq_true rfl) (rc0 rfl (CLt hH (by decide)) (CC hH 1 (by decide) rfl)) (by decide) (by decide) (c_X5_find hG (hW.tr (of_0 I [])) (by exact hcd)) ?_
  refine g_astore_4 hX (dk DX11_act 8 rfl) (by decide) rfl ?_
  refine g_aload_4 hX (dk DX11_act 9 rfl) ?_
  refine g_ifnonnull (tgt := 25) hX (dk DX11_act 10 rfl) (by decide) ?_
  refine g_iload_2 hX (dk DX11_act 13 rfl) ?_
  refine g_tswitch (dt := 85) hX [(0, 52), (1, 63), (2, 74)] (dk DX11_act 14 rfl) (by decide +kernel) ?_
  refine ⟨fun hc1 => ?_, fun hc1n => ?_⟩
  · show GG _ _ _ _ _ _ _ _ _ _ _ _ _
    refine g_aload_4 hX (dk DX11_act 15 rfl) ?_
    refine g_iload_3 hX (dk DX11_act 16 rfl) ?_
    refine g_aload_0 hX (dk DX11_act 17 rfl) ?_
    refine g_getRs (r := 32) hX (dk DX11_act 18 rfl) KX11 fX11_43 (by decide) rfl (CLt hH (q := 0) (by decide)) (CC hH 0 (by decide) rfl) (CR hH 0 8 32 (by decide)) ?_
    refine g_c3I hX (sD_X11_act_59 _ (by rw [g4]; exact kcl_dc _)) (by decide) (Nat.le_of_ble_eq_true rfl) (rc0 rfl g3 rfl) (by decide) (by decide) (cD_says hG g3 (by rw [g4]; exact kcl_dc _) hH (r := 0) (by exact up0 _ _ _ _) (by decide) (by omega) (by omega)) ?_
    refine g_ireturn hX (dk DX11_act 20 rfl) rfl (rfl) (by decide) (by decide) ?_
    exact qZ_of (E' := putB (upI E 0 67 0) (saysB E d)) (by unfold actS; rw [if_neg (not_not_intro hDD), show w = 0 by assumption, if_neg (by decide), if_neg (by decide), tN_nI (by omega), show tbL (upI I 32 1 0) [] (dn h d) = I (dn h d) from upI_off (by omega), g5, g6, g4, (ac_all hE hd).1.1 x]) (by rw [g4, (ac_all hE hd).1.2]; exact hZ.act _)
  refine ⟨fun hc2 => ?_, fun hc2n => ?_⟩
  · show GG _ _ _ _ _ _ _ _ _ _ _ _ _
    refine g_aload_4 hX (dk DX11_act 21 rfl) ?_
    refine g_iload_3 hX (dk DX11_act 22 rfl) ?_
    refine g_aload_0 hX (dk DX11_act 23 rfl) ?_
    refine g_getRs (r := 32) hX (dk DX11_act 24 rfl) KX11 fX11_43 (by decide) rfl (CLt hH (q := 0) (by decide)) (CC hH 0 (by decide) rfl) (CR hH 0 8 32 (by decide)) ?_
    refine g_c3I hX (sD_X11_act_70 _ (by rw [g4]; exact kcl_dc _)) (by decide) (Nat.le_of_ble_eq_true rfl) (rc0 rfl g3 rfl) (by decide) (by decide) (cD_holds hG g3 (by rw [g4]; exact kcl_dc _) hH (r := 0) (by exact up0 _ _ _ _) (by decide) (by omega) (by omega)) ?_
    refine g_ireturn hX (dk DX11_act 26 rfl) rfl (rfl) (by decide) (by decide) ?_
    exact qZ_of (E' := putB (upI E 0 67 0) (holdsB E d)) (by unfold actS; rw [if_neg (not_not_intro hDD), show w = 1 by assumption, if_neg (by decide), if_pos (by decide), if_pos rfl, tN_nI (by omega), show tbL (upI I 32 1 0) [] (dn h d) = I (dn h d) from upI_off (by omega), g5, g6, g4, (ac_all hE hd).2.1.1 x]) (by rw [g4, (ac_all hE hd).2.1.2]; exact hZ.act _)
  refine ⟨fun hc3 => ?_, fun hc3n => ?_⟩
  · show GG _ _ _ _ _ _ _ _ _ _ _ _ _
    refine g_aload_4 hX (dk DX11_act 27 rfl) ?_
    refine g_iload_3 hX (dk DX11_act 28 rfl) ?_
    refine g_aload_0 hX (dk DX11_act 29 rfl) ?_
    refine g_getRs (r := 32) hX (dk DX11_act 30 rfl) KX11 fX11_43 (by decide) rfl (CLt hH (q := 0) (by decide)) (CC hH 0 (by decide) rfl) (CR hH 0 8 32 (by decide)) ?_
    refine g_c3I hX (sD_X11_act_81 _ (by rw [g4]; exact kcl_dc _)) (by decide) (Nat.le_of_ble_eq_true rfl) (rc0 rfl g3 rfl) (by decide) (by decide) (cD_tells hG g3 (by rw [g4]; exact kcl_dc _) hH (r := 0) (by exact up0 _ _ _ _) (by decide) (by omega) (by omega)) ?_
    refine g_ireturn hX (dk DX11_act 32 rfl) rfl (rfl) (by decide) (by decide) ?_
    exact qZ_of (E' := putB (upI E 0 67 0) (tellsB E d)) (by unfold actS; rw [if_neg (not_not_intro hDD), show w = 2 by assumption, if_neg (by decide), if_pos (by decide), if_neg (by decide), tN_nI (by omega), show tbL (upI I 32 1 0) [] (dn h d) = I (dn h d) from upI_off (by omega), g5, g6, g4, (ac_all hE hd).2.2.1 x]) (by rw [g4, (ac_all hE hd).2.2.2]; exact hZ.act _)
  show GG _ _ _ _ _ _ _ _ _ _ _ _ _
  refine g_iconst (v := 0) hX (dk DX11_act 33 rfl) (by decide) ?_
  refine g_ireturn hX (dk DX11_act 34 rfl) rfl (rfl) (by decide) (by decide) ?_
  exact qZ_of (E' := upI E 0 67 0) (by unfold actS; rw [if_neg (not_not_intro hDD), if_pos (w012 (by assumption) (by assumption) (by assumption))]) (by exact hZ.act [])

set_option maxRecDepth 8000 in
set_option maxHeartbeats 4000000 in
theorem zz_act {G : Gt} (hG : Gok G) {I : It} {h : Ht}  {E : It} {L : Nat → Int64} (hE : Inv E) (hZ : RZ E L I h) {a : Int32} (hno : ¬ isD E a) {w x : Int32} : Con G (9) 0 0 mX11_act [.ref 0, .int a, .int w, .int x] I h (qZ (actS E a w x) L (hn h)) := by
  refine con_intro (own := RX11) (lo0 := [some (.ref 0), some (.int a), some (.int w), some (.int x), none]) hG rfl pl_X11 (Nat.le_of_ble_eq_true rfl) rfl (fun X hX => ?_)
  have hY := hZ.1
  have hW := hY.wx hE
  have hH := hW.1
  have hc10 := hW.2.1.2
  have hcE := (inv_cnt hE).2
  refine g_aload_0 hX (dk DX11_act 0 rfl) ?_
  refine g_getRs (r := 32) hX (dk DX11_act 1 rfl) KX11 fX11_43 (by decide) rfl (CLt hH (q := 0) (by decide)) (CC hH 0 (by decide) rfl) (CR hH 0 8 32 (by decide)) ?_
  refine g_iconst (v := 0) hX (dk DX11_act 2 rfl) (by decide) ?_
  refine g_putI hX (dk DX11_act 3 rfl) KX7 fX11_258 (by decide) rfl (CLt hH (q := 32) (by decide)) (CC hH 32 (by decide) rfl) (Or.inl rfl) (rfl) (rfl) ?_
  refine g_aload_0 hX (dk DX11_act 4 rfl) ?_
  refine g_getRs (r := 1) hX (dk DX11_act 5 rfl) KX11 fX11_12 (by decide) rfl (CLt hH (q := 0) (by decide)) (CC hH 0 (by decide) rfl) (CR hH 0 0 1 (by decide)) ?_
  refine g_iload_1 hX (dk DX11_act 6 rfl) ?_
  refine g_c2R hX sX11_act_13 (by decide) (Nat.le_of_ble_eq_true rfl) (rc0 rfl (CLt hH (by decide)) (CC hH 1 (by decide) rfl)) (by decide) (by decide) (c_X5_find0 hG (hW.tr (of_0 I [])) (by exact hY.no hE hno)) ?_
  refine g_astoreN_4 hX (dk DX11_act 8 rfl) (by decide) rfl ?_
  refine g_aloadN_4 hX (dk DX11_act 9 rfl) ?_
  refine g_ifnonnullN hX (dk DX11_act 10 rfl) ?_
  refine g_iconst (v := 0) hX (dk DX11_act 11 rfl) (by decide) ?_
  refine g_ireturn hX (dk DX11_act 12 rfl) rfl (rfl) (by decide) (by decide) ?_
  exact qZ_of (E' := upI E 0 67 0) (by unfold actS; rw [if_pos hno]) (by exact hZ.act [])

theorem zx_act {G : Gt} (hG : Gok G) {I : It} {h : Ht} {E : It} {L : Nat → Int64} (hE : Inv E) (hZ : RZ E L I h) {a : Int32} {w x : Int32} : Con G 9 0 0 mX11_act [.ref 0, .int a, .int w, .int x] I h (qZ (actS E a w x) L (hn h)) := by
  by_cases hh : isD E a
  · obtain ⟨d, hd, rfl⟩ := isD_of hE hh
    exact zy_act hG hE hZ hd
  · exact zz_act hG hE hZ hh
end
section
set_option maxRecDepth 8000 in
set_option maxHeartbeats 4000000 in
theorem zx_read {G : Gt} (hG : Gok G) {I : It} {h : Ht}  {E : It} {L : Nat → Int64} (hE : Inv E) (hZ : RZ E L I h) {a e : Int32} : Con G (3) 0 0 mX11_read [.ref 0, .int a, .int e] I h (qZL (readF E L a e) E L (hn h)) := by
  refine con_intro (own := RX11) (lo0 := [some (.ref 0), some (.int a), some (.int e)]) hG rfl pl_X11 (Nat.le_of_ble_eq_true rfl) rfl (fun X hX => ?_)
  have hY := hZ.1
  have hW := hY.wx hE
  have hH := hW.1
  have hc10 := hW.2.1.2
  have hcE := (inv_cnt hE).2
  refine g_iload_1 hX (dk DX11_read 0 rfl) ?_
  refine g_iconst (v := 0) hX (dk DX11_read 1 rfl) (by decide) ?_
  refine g_iconst (v := 5) hX (dk DX11_read 2 rfl) (by decide) ?_
  refine g_c3I hX sX11_read_3 (by decide) (Nat.le_of_ble_eq_true rfl) rcN (by decide) (by decide) (c_X11_isNot hG ) ?_
  refine g_ifb_ne (tgt := 25) hX (dk DX11_read 4 rfl) (by decide) (fun hc1 => ?_) (fun hc1 => ?_)
  · refine g_ldc2_w (v := -9223372036854775808) hX (dk DX11_read 15 rfl) (tg_4 79 rfl rfl) ?_
    refine g_lreturn hX (dk DX11_read 16 rfl) rfl (by decide) (by decide) ?_
    first
    | exact qZL_of (by unfold readF; rw [if_pos hc1]; rfl) hZ
    | exact qZL_of (by unfold readF; rw [if_neg hc1, tN_nI (by omega)]; split <;> first | rfl | (rw [if_pos hc2]; rfl)) hZ
  · obtain ⟨t, ht5, rfl⟩ := in_of (b := 5) (by decide) (Decidable.not_not.mp hc1)
    have ht : t < 6 := by omega
    have hT := hY.2.2.2.2.2.2.1 t ht
    refine g_iload_2 hX (dk DX11_read 5 rfl) ?_
    refine g_iconst (v := 0) hX (dk DX11_read 6 rfl) (by decide) ?_
    refine g_aload_0 hX (dk DX11_read 7 rfl) ?_
    refine g_getRs (r := 35) hX (dk DX11_read 8 rfl) KX11 fX11_51 (by decide) rfl (CLt hH (q := 0) (by decide)) (CC hH 0 (by decide) rfl) (CR hH 0 10 35 (by decide)) ?_
    refine g_iload_1 hX (dk DX11_read 9 rfl) ?_
    refine v_iaload hX (dk DX11_read 10 rfl) (CLt hH (q := 35) (by decide)) (CS hH 35 (by decide) rfl) (⟨rfl, ht, by decide⟩) (hT.2.1) ?_
    refine g_iconst (v := 1) hX (dk DX11_read 11 rfl) (by decide) ?_
    refine g_isub hX (dk DX11_read 12 rfl) ?_
    refine g_c3I hX sX11_read_19 (by decide) (Nat.le_of_ble_eq_true rfl) rcN (by decide) (by decide) (c_X11_isNot hG ) ?_
    refine g_ifb_eq (tgt := 29) hX (dk DX11_read 14 rfl) (by decide) (fun hc2 => ?_) (fun hc2 => ?_)
    · obtain ⟨hs0, k, hk, ek⟩ := tp_in hE ht (Decidable.not_not.mp hc2)
      refine g_aload_0 hX (dk DX11_read 17 rfl) ?_
      refine g_getRs (r := 36) hX (dk DX11_read 18 rfl) KX11 fX11_56 (by decide) rfl (CLt hH (q := 0) (by decide)) (CC hH 0 (by decide) rfl) (CR hH 0 11 36 (by decide)) ?_
      refine g_iload_1 hX (dk DX11_read 19 rfl) ?_
      refine i_aaload (i0 := 7) hX (dk DX11_read 20 rfl) (CLt hH (q := 36) (by decide)) (CS hH 36 (by decide) rfl) (by decide) rfl rfl (⟨rfl, ht, by decide⟩) (IT_r hH ht) ?_
      refine g_iload_2 hX (dk DX11_read 21 rfl) ?_
      refine v_laload hX (dk DX11_read 22 rfl) (IT_lt hH ht) (IT_sh hH ht) (⟨ek, hk, by decide⟩) (hT.2.2 k hk) ?_
      refine g_lreturn hX (dk DX11_read 23 rfl) rfl (by decide) (by decide) ?_
      exact qZL_of (by unfold readF; rw [if_neg hc1, tN_nI (by omega), if_neg hs0, if_neg hc2, ek, tN_nI (by omega)]) hZ
    · refine g_ldc2_w (v := -9223372036854775808) hX (dk DX11_read 15 rfl) (tg_4 79 rfl rfl) ?_
      refine g_lreturn hX (dk DX11_read 16 rfl) rfl (by decide) (by decide) ?_
      first
      | exact qZL_of (by unfold readF; rw [if_pos hc1]; rfl) hZ
      | exact qZL_of (by unfold readF; rw [if_neg hc1, tN_nI (by omega)]; split <;> first | rfl | (rw [if_pos hc2]; rfl)) hZ

set_option maxRecDepth 8000 in
set_option maxHeartbeats 4000000 in
theorem zx_item {G : Gt} (hG : Gok G) {I : It} {h : Ht}  {E : It} {L : Nat → Int64} (hE : Inv E) (hZ : RZ E L I h) {a e : Int32} {v : Int64} : Con G (3) 0 0 mX11_item [.ref 0, .int a, .int e, .long v] I h (qZ ((itemS E L a e v).1, E) (itemS E L a e v).2 (hn h)) := by
  refine con_intro (own := RX11) (lo0 := [some (.ref 0), some (.int a), some (.int e), some (.long v), none]) hG rfl pl_X11 (Nat.le_of_ble_eq_true rfl) rfl (fun X hX => ?_)
  have hY := hZ.1
  have hW := hY.wx hE
  have hH := hW.1
  have hc10 := hW.2.1.2
  have hcE := (inv_cnt hE).2
  refine g_iload_1 hX (dk DX11_item 0 rfl) ?_
  refine g_iconst (v := 0) hX (dk DX11_item 1 rfl) (by decide) ?_
  refine g_iconst (v := 5) hX (dk DX11_item 2 rfl) (by decide) ?_
  refine g_c3I hX sX11_item_3 (by decide) (Nat.le_of_ble_eq_true rfl) rcN (by decide) (by decide) (c_X11_isNot hG ) ?_
  refine g_ifb_eq (tgt := 11) hX (dk DX11_item 4 rfl) (by decide) (fun hc1 => ?_) (fun hc1 => ?_)
  · obtain ⟨t, ht5, rfl⟩ := in_of (b := 5) (by decide) (Decidable.not_not.mp hc1)
    have ht : t < 6 := by omega
    have hT := hY.2.2.2.2.2.2.1 t ht
    refine g_aload_0 hX (dk DX11_item 7 rfl) ?_
    refine g_getRs (r := 34) hX (dk DX11_item 8 rfl) KX11 fX11_47 (by decide) rfl (CLt hH (q := 0) (by decide)) (CC hH 0 (by decide) rfl) (CR hH 0 9 34 (by decide)) ?_
    refine g_iload_1 hX (dk DX11_item 9 rfl) ?_
    refine v_iaload hX (dk DX11_item 10 rfl) (CLt hH (q := 34) (by decide)) (CS hH 34 (by decide) rfl) (⟨rfl, ht, by decide⟩) (hT.1) ?_
    refine g_iconst (v := -1) hX (dk DX11_item 11 rfl) (by decide) ?_
    refine g_icmp_ne (tgt := 24) hX (dk DX11_item 12 rfl) (by decide) (fun hc2 => ?_) (fun hc2 => ?_)
    · have hsne := hc2
      obtain ⟨l, hl, el, hz, hs⟩ := tp_of hE ht
      have hs4 : ∃ s, s ≤ 4 ∧ E 36 t = nI s := hs.resolve_left hsne
      obtain ⟨s, hs4, es⟩ := hs4
      refine g_iload_2 hX (dk DX11_item 15 rfl) ?_
      refine g_iconst (v := 0) hX (dk DX11_item 16 rfl) (by decide) ?_
      refine g_aload_0 hX (dk DX11_item 17 rfl) ?_
      refine g_getRs (r := 35) hX (dk DX11_item 18 rfl) KX11 fX11_51 (by decide) rfl (CLt hH (q := 0) (by decide)) (CC hH 0 (by decide) rfl) (CR hH 0 10 35 (by decide)) ?_
      refine g_iload_1 hX (dk DX11_item 19 rfl) ?_
      refine v_iaload hX (dk DX11_item 20 rfl) (CLt hH (q := 35) (by decide)) (CS hH 35 (by decide) rfl) (⟨rfl, ht, by decide⟩) (hT.2.1) ?_
      refine g_iconst (v := 1) hX (dk DX11_item 21 rfl) (by decide) ?_
      refine g_isub hX (dk DX11_item 22 rfl) ?_
      refine g_c3I hX sX11_item_34 (by decide) (Nat.le_of_ble_eq_true rfl) rcN (by decide) (by decide) (c_X11_isNot hG ) ?_
      refine g_ifb_eq (tgt := 43) hX (dk DX11_item 24 rfl) (by decide) (fun hc3 => ?_) (fun hc3 => ?_)
      · obtain ⟨hs0, k, hk, ek⟩ := tp_in hE ht (Decidable.not_not.mp hc3)
        refine g_aload_0 hX (dk DX11_item 27 rfl) ?_
        refine g_getRs (r := 36) hX (dk DX11_item 28 rfl) KX11 fX11_56 (by decide) rfl (CLt hH (q := 0) (by decide)) (CC hH 0 (by decide) rfl) (CR hH 0 11 36 (by decide)) ?_
        refine g_iload_1 hX (dk DX11_item 29 rfl) ?_
        refine i_aaload (i0 := 7) hX (dk DX11_item 30 rfl) (CLt hH (q := 36) (by decide)) (CS hH 36 (by decide) rfl) (by decide) rfl rfl (⟨rfl, ht, by decide⟩) (IT_r hH ht) ?_
        refine g_iload_2 hX (dk DX11_item 31 rfl) ?_
        refine g_lload_3 hX (dk DX11_item 32 rfl) ?_
        refine g_aload_0 hX (dk DX11_item 33 rfl) ?_
        refine g_getRs (r := 34) hX (dk DX11_item 34 rfl) KX11 fX11_47 (by decide) rfl (CLt hH (q := 0) (by decide)) (CC hH 0 (by decide) rfl) (CR hH 0 9 34 (by decide)) ?_
        refine g_iload_1 hX (dk DX11_item 35 rfl) ?_
        refine v_iaload hX (dk DX11_item 36 rfl) (CLt hH (q := 34) (by decide)) (CS hH 34 (by decide) rfl) (⟨rfl, ht, by decide⟩) (hT.1.trans es) ?_
        refine g_c2L hX sX11_item_57 (by decide) (Nat.le_of_ble_eq_true rfl) rcN (by decide) (by decide) (c_X11_cut hG hs4) ?_
        refine i_lastore hX (dk DX11_item 38 rfl) (IT_lt hH ht) (IT_sh hH ht) (⟨ek, hk, by decide⟩) ?_
        refine g_iconst (v := 1) hX (dk DX11_item 39 rfl) (by decide) ?_
        refine g_ireturn hX (dk DX11_item 40 rfl) rfl (rfl) (by decide) (by decide) ?_
        exact itz_of (by unfold itemS; rw [if_neg hc1, tN_nI (by omega), if_neg (not_not_intro (show 0 ≤ E 36 t from by rw [es]; exact nI_pos' (by omega))), if_neg (show ¬ ¬ (0 ≤ e ∧ e ≤ E 37 t - 1) by assumption), ek, tN_nI (by omega), es]) (hZ.it ht hk _)
      · refine g_bipush (v := -13) hX (dk DX11_item 25 rfl) (by decide) ?_
        refine g_ireturn hX (dk DX11_item 26 rfl) rfl (rfl) (by decide) (by decide) ?_
        exact itz_of (by unfold itemS; rw [if_neg hc1, tN_nI (by omega), if_neg (not_not_intro (show 0 ≤ E 36 t from by rw [es]; exact nI_pos' (by omega))), if_pos (by assumption)]) hZ
    · refine g_bipush (v := -11) hX (dk DX11_item 13 rfl) (by decide) ?_
      refine g_ireturn hX (dk DX11_item 14 rfl) rfl (rfl) (by decide) (by decide) ?_
      exact itz_of (by unfold itemS; rw [if_neg hc1, tN_nI (by omega), if_pos (show ¬ 0 ≤ E 36 t from by rw [show E 36 t = -1 by first | assumption | exact Decidable.not_not.mp (by assumption)]; decide)]) hZ
  · refine g_iconst (v := -1) hX (dk DX11_item 5 rfl) (by decide) ?_
    refine g_ireturn hX (dk DX11_item 6 rfl) rfl (rfl) (by decide) (by decide) ?_
    exact itz_of (by unfold itemS; rw [if_pos hc1]) hZ

set_option maxRecDepth 8000 in
set_option maxHeartbeats 4000000 in
theorem zx_tape {G : Gt} (hG : Gok G) {I : It} {h : Ht}  {E : It} {L : Nat → Int64} (hE : Inv E) (hZ : RZ E L I h) {a s n : Int32} : Con G (3) 0 0 mX11_tape [.ref 0, .int a, .int s, .int n] I h (qZ (tapeS E a s n) (tapeL L a s n) (hn h)) := by
  refine con_intro (own := RX11) (lo0 := [some (.ref 0), some (.int a), some (.int s), some (.int n)]) hG rfl pl_X11 (Nat.le_of_ble_eq_true rfl) rfl (fun X hX => ?_)
  have hY := hZ.1
  have hW := hY.wx hE
  have hH := hW.1
  have hc10 := hW.2.1.2
  have hcE := (inv_cnt hE).2
  refine g_iload_1 hX (dk DX11_tape 0 rfl) ?_
  refine g_iconst (v := 0) hX (dk DX11_tape 1 rfl) (by decide) ?_
  refine g_iconst (v := 5) hX (dk DX11_tape 2 rfl) (by decide) ?_
  refine g_c3I hX sX11_tape_3 (by decide) (Nat.le_of_ble_eq_true rfl) rcN (by decide) (by decide) (c_X11_isNot hG ) ?_
  refine g_ifb_eq (tgt := 11) hX (dk DX11_tape 4 rfl) (by decide) (fun hc1 => ?_) (fun hc1 => ?_)
  · obtain ⟨t, ht5, rfl⟩ := in_of (b := 5) (by decide) (Decidable.not_not.mp hc1)
    have ht : t < 6 := by omega
    have hT := hY.2.2.2.2.2.2.1 t ht
    refine g_iload_2 hX (dk DX11_tape 7 rfl) ?_
    refine g_iconst (v := -1) hX (dk DX11_tape 8 rfl) (by decide) ?_
    refine g_iconst (v := 4) hX (dk DX11_tape 9 rfl) (by decide) ?_
    refine g_c3I hX sX11_tape_14 (by decide) (Nat.le_of_ble_eq_true rfl) rcN (by decide) (by decide) (c_X11_isNot hG ) ?_
    refine g_ifb_ne (tgt := 31) hX (dk DX11_tape 11 rfl) (by decide) (fun hc2 => ?_) (fun hc2 => ?_)
    · refine g_bipush (v := -2) hX (dk DX11_tape 18 rfl) (by decide) ?_
      refine g_ireturn hX (dk DX11_tape 19 rfl) rfl (rfl) (by decide) (by decide) ?_
      first
      | exact absurd (show s = -1 by assumption) (show ¬ s = -1 by assumption)
      | exact tpz_of (by unfold tapeS; rw [if_neg hc1, if_pos (show ¬ (-1 ≤ s ∧ s ≤ 4) by assumption)]) (by unfold tapeL; rw [if_neg hc1, if_pos (show ¬ (-1 ≤ s ∧ s ≤ 4) by assumption)]; first | done | rfl) rfl hZ
      | exact tpz_of (by unfold tapeS; rw [if_neg hc1, if_neg (show ¬ ¬ (-1 ≤ s ∧ s ≤ 4) by assumption), if_neg (s_nn (show ¬ ¬ (-1 ≤ s ∧ s ≤ 4) by assumption) (show ¬ s = -1 by assumption)), if_pos (show ¬ n ≤ 60 by assumption)]) (by unfold tapeL; rw [if_neg hc1, if_neg (show ¬ ¬ (-1 ≤ s ∧ s ≤ 4) by assumption), if_neg (s_nn (show ¬ ¬ (-1 ≤ s ∧ s ≤ 4) by assumption) (show ¬ s = -1 by assumption)), if_pos (show ¬ n ≤ 60 by assumption)]; first | done | rfl) rfl hZ
    · refine g_iload_2 hX (dk DX11_tape 12 rfl) ?_
      refine g_iconst (v := -1) hX (dk DX11_tape 13 rfl) (by decide) ?_
      refine g_icmp_eq (tgt := 34) hX (dk DX11_tape 14 rfl) (by decide) (fun hc3 => ?_) (fun hc3 => ?_)
      · refine g_iload_2 hX (dk DX11_tape 20 rfl) ?_
        refine g_iconst (v := -1) hX (dk DX11_tape 21 rfl) (by decide) ?_
        refine g_icmp_eq (tgt := 46) hX (dk DX11_tape 22 rfl) (by decide) (fun hc4 => ?_) (fun hc4 => ?_)
        · refine g_aload_0 hX (dk DX11_tape 27 rfl) ?_
          refine g_getRs (r := 34) hX (dk DX11_tape 28 rfl) KX11 fX11_47 (by decide) rfl (CLt hH (q := 0) (by decide)) (CC hH 0 (by decide) rfl) (CR hH 0 9 34 (by decide)) ?_
          refine g_iload_1 hX (dk DX11_tape 29 rfl) ?_
          refine g_iload_2 hX (dk DX11_tape 30 rfl) ?_
          refine i_iastore hX (dk DX11_tape 31 rfl) (CLt hH (q := 34) (by decide)) (CS hH 34 (by decide) rfl) (⟨rfl, ht, by decide⟩) ?_
          refine g_aload_0 hX (dk DX11_tape 32 rfl) ?_
          refine g_getRs (r := 35) hX (dk DX11_tape 33 rfl) KX11 fX11_51 (by decide) rfl (CLt hH (q := 0) (by decide)) (CC hH 0 (by decide) rfl) (CR hH 0 10 35 (by decide)) ?_
          refine g_iload_1 hX (dk DX11_tape 34 rfl) ?_
          refine g_iload_2 hX (dk DX11_tape 35 rfl) ?_
          refine g_iconst (v := -1) hX (dk DX11_tape 36 rfl) (by decide) ?_
          refine g_icmp_ne (tgt := 67) hX (dk DX11_tape 37 rfl) (by decide) (fun hc5 => ?_) (fun hc5 => ?_)
          · refine g_iload_3 hX (dk DX11_tape 40 rfl) ?_
            refine i_iastore hX (dk DX11_tape 41 rfl) (CLt hH (q := 35) (by decide)) (CS hH 35 (by decide) rfl) (⟨rfl, ht, by decide⟩) ?_
            refine g_aload_0 hX (dk DX11_tape 42 rfl) ?_
            refine g_getRs (r := 36) hX (dk DX11_tape 43 rfl) KX11 fX11_56 (by decide) rfl (CLt hH (q := 0) (by decide)) (CC hH 0 (by decide) rfl) (CR hH 0 11 36 (by decide)) ?_
            refine g_iload_1 hX (dk DX11_tape 44 rfl) ?_
            refine i_aaload (i0 := 7) hX (dk DX11_tape 45 rfl) (CLt hH (q := 36) (by decide)) (CS hH 36 (by decide) rfl) (by decide) rfl rfl (⟨rfl, ht, by decide⟩) (IT_r hH ht) ?_
            refine g_lconst (v := 0) hX (dk DX11_tape 46 rfl) (by decide) ?_
            refine g_c2v hX sX11_tape_76 (by decide) (Nat.le_of_ble_eq_true rfl) rcN (by decide) (by decide) (c_J7_fill_d0a16 hG (len := 60) (IT_lt hH ht) (IT_sh hH ht) (by decide)) ?_
            rintro I9 h9 ⟨f1, -, f3, f4, f5, f6, rfl⟩
            refine g_iconst (v := 1) hX (dk DX11_tape 48 rfl) (by decide) ?_
            refine g_ireturn hX (dk DX11_tape 49 rfl) rfl (rfl) (by decide) (by decide) ?_
            first
            | exact absurd (show s = -1 by assumption) (show ¬ s = -1 by assumption)
            | exact tpz_of (E' := (upI (upI E 36 t s) 37 t 0)) (by unfold tapeS; rw [if_neg hc1, if_neg (show ¬ ¬ (-1 ≤ s ∧ s ≤ 4) by assumption), if_pos (s_m1 (show s = -1 by assumption)), tN_nI (by omega)]) (by unfold tapeL; rw [if_neg hc1, if_neg (show ¬ ¬ (-1 ≤ s ∧ s ≤ 4) by assumption), if_pos (s_m1 (show s = -1 by assumption)), tN_nI (by omega)]; first | done | rfl) f6 (hZ.tape ht s 0 f1 f3 f4 f5 f6)
            | exact tpz_of (E' := (upI (upI E 36 t s) 37 t n)) (by unfold tapeS; rw [if_neg hc1, if_neg (show ¬ ¬ (-1 ≤ s ∧ s ≤ 4) by assumption), if_neg (s_nn (show ¬ ¬ (-1 ≤ s ∧ s ≤ 4) by assumption) (show ¬ s = -1 by assumption)), if_neg (show ¬ ¬ n ≤ 60 from not_not_intro (by assumption)), if_neg (show ¬ ¬ 0 ≤ n from not_not_intro (by assumption)), tN_nI (by omega)]) (by unfold tapeL; rw [if_neg hc1, if_neg (show ¬ ¬ (-1 ≤ s ∧ s ≤ 4) by assumption), if_neg (s_nn (show ¬ ¬ (-1 ≤ s ∧ s ≤ 4) by assumption) (show ¬ s = -1 by assumption)), if_neg (show ¬ ¬ n ≤ 60 from not_not_intro (by assumption)), if_neg (show ¬ ¬ 0 ≤ n from not_not_intro (by assumption)), tN_nI (by omega)]; first | done | rfl) f6 (hZ.tape ht s n f1 f3 f4 f5 f6)
          · refine g_iconst (v := 0) hX (dk DX11_tape 38 rfl) (by decide) ?_
            refine g_goto (tgt := 68) hX (dk DX11_tape 39 rfl) (by decide) ?_
            refine i_iastore hX (dk DX11_tape 41 rfl) (CLt hH (q := 35) (by decide)) (CS hH 35 (by decide) rfl) (⟨rfl, ht, by decide⟩) ?_
            refine g_aload_0 hX (dk DX11_tape 42 rfl) ?_
            refine g_getRs (r := 36) hX (dk DX11_tape 43 rfl) KX11 fX11_56 (by decide) rfl (CLt hH (q := 0) (by decide)) (CC hH 0 (by decide) rfl) (CR hH 0 11 36 (by decide)) ?_
            refine g_iload_1 hX (dk DX11_tape 44 rfl) ?_
            refine i_aaload (i0 := 7) hX (dk DX11_tape 45 rfl) (CLt hH (q := 36) (by decide)) (CS hH 36 (by decide) rfl) (by decide) rfl rfl (⟨rfl, ht, by decide⟩) (IT_r hH ht) ?_
            refine g_lconst (v := 0) hX (dk DX11_tape 46 rfl) (by decide) ?_
            refine g_c2v hX sX11_tape_76 (by decide) (Nat.le_of_ble_eq_true rfl) rcN (by decide) (by decide) (c_J7_fill_d0a16 hG (len := 60) (IT_lt hH ht) (IT_sh hH ht) (by decide)) ?_
            rintro I9 h9 ⟨f1, -, f3, f4, f5, f6, rfl⟩
            refine g_iconst (v := 1) hX (dk DX11_tape 48 rfl) (by decide) ?_
            refine g_ireturn hX (dk DX11_tape 49 rfl) rfl (rfl) (by decide) (by decide) ?_
            first
            | exact absurd (show s = -1 by assumption) (show ¬ s = -1 by assumption)
            | exact tpz_of (E' := (upI (upI E 36 t s) 37 t 0)) (by unfold tapeS; rw [if_neg hc1, if_neg (show ¬ ¬ (-1 ≤ s ∧ s ≤ 4) by assumption), if_pos (s_m1 (show s = -1 by assumption)), tN_nI (by omega)]) (by unfold tapeL; rw [if_neg hc1, if_neg (show ¬ ¬ (-1 ≤ s ∧ s ≤ 4) by assumption), if_pos (s_m1 (show s = -1 by assumption)), tN_nI (by omega)]; first | done | rfl) f6 (hZ.tape ht s 0 f1 f3 f4 f5 f6)
            | exact tpz_of (E' := (upI (upI E 36 t s) 37 t n)) (by unfold tapeS; rw [if_neg hc1, if_neg (show ¬ ¬ (-1 ≤ s ∧ s ≤ 4) by assumption), if_neg (s_nn (show ¬ ¬ (-1 ≤ s ∧ s ≤ 4) by assumption) (show ¬ s = -1 by assumption)), if_neg (show ¬ ¬ n ≤ 60 from not_not_intro (by assumption)), if_neg (show ¬ ¬ 0 ≤ n from not_not_intro (by assumption)), tN_nI (by omega)]) (by unfold tapeL; rw [if_neg hc1, if_neg (show ¬ ¬ (-1 ≤ s ∧ s ≤ 4) by assumption), if_neg (s_nn (show ¬ ¬ (-1 ≤ s ∧ s ≤ 4) by assumption) (show ¬ s = -1 by assumption)), if_neg (show ¬ ¬ n ≤ 60 from not_not_intro (by assumption)), if_neg (show ¬ ¬ 0 ≤ n from not_not_intro (by assumption)), tN_nI (by omega)]; first | done | rfl) f6 (hZ.tape ht s n f1 f3 f4 f5 f6)
        · refine g_iload_3 hX (dk DX11_tape 23 rfl) ?_
          refine g_if_ge (tgt := 46) hX (dk DX11_tape 24 rfl) (by decide) (fun hc6 => ?_) (fun hc6 => ?_)
          · refine g_aload_0 hX (dk DX11_tape 27 rfl) ?_
            refine g_getRs (r := 34) hX (dk DX11_tape 28 rfl) KX11 fX11_47 (by decide) rfl (CLt hH (q := 0) (by decide)) (CC hH 0 (by decide) rfl) (CR hH 0 9 34 (by decide)) ?_
            refine g_iload_1 hX (dk DX11_tape 29 rfl) ?_
            refine g_iload_2 hX (dk DX11_tape 30 rfl) ?_
            refine i_iastore hX (dk DX11_tape 31 rfl) (CLt hH (q := 34) (by decide)) (CS hH 34 (by decide) rfl) (⟨rfl, ht, by decide⟩) ?_
            refine g_aload_0 hX (dk DX11_tape 32 rfl) ?_
            refine g_getRs (r := 35) hX (dk DX11_tape 33 rfl) KX11 fX11_51 (by decide) rfl (CLt hH (q := 0) (by decide)) (CC hH 0 (by decide) rfl) (CR hH 0 10 35 (by decide)) ?_
            refine g_iload_1 hX (dk DX11_tape 34 rfl) ?_
            refine g_iload_2 hX (dk DX11_tape 35 rfl) ?_
            refine g_iconst (v := -1) hX (dk DX11_tape 36 rfl) (by decide) ?_
            refine g_icmp_ne (tgt := 67) hX (dk DX11_tape 37 rfl) (by decide) (fun hc7 => ?_) (fun hc7 => ?_)
            · refine g_iload_3 hX (dk DX11_tape 40 rfl) ?_
              refine i_iastore hX (dk DX11_tape 41 rfl) (CLt hH (q := 35) (by decide)) (CS hH 35 (by decide) rfl) (⟨rfl, ht, by decide⟩) ?_
              refine g_aload_0 hX (dk DX11_tape 42 rfl) ?_
              refine g_getRs (r := 36) hX (dk DX11_tape 43 rfl) KX11 fX11_56 (by decide) rfl (CLt hH (q := 0) (by decide)) (CC hH 0 (by decide) rfl) (CR hH 0 11 36 (by decide)) ?_
              refine g_iload_1 hX (dk DX11_tape 44 rfl) ?_
              refine i_aaload (i0 := 7) hX (dk DX11_tape 45 rfl) (CLt hH (q := 36) (by decide)) (CS hH 36 (by decide) rfl) (by decide) rfl rfl (⟨rfl, ht, by decide⟩) (IT_r hH ht) ?_
              refine g_lconst (v := 0) hX (dk DX11_tape 46 rfl) (by decide) ?_
              refine g_c2v hX sX11_tape_76 (by decide) (Nat.le_of_ble_eq_true rfl) rcN (by decide) (by decide) (c_J7_fill_d0a16 hG (len := 60) (IT_lt hH ht) (IT_sh hH ht) (by decide)) ?_
              rintro I9 h9 ⟨f1, -, f3, f4, f5, f6, rfl⟩
              refine g_iconst (v := 1) hX (dk DX11_tape 48 rfl) (by decide) ?_
              refine g_ireturn hX (dk DX11_tape 49 rfl) rfl (rfl) (by decide) (by decide) ?_
              first
              | exact absurd (show s = -1 by assumption) (show ¬ s = -1 by assumption)
              | exact tpz_of (E' := (upI (upI E 36 t s) 37 t 0)) (by unfold tapeS; rw [if_neg hc1, if_neg (show ¬ ¬ (-1 ≤ s ∧ s ≤ 4) by assumption), if_pos (s_m1 (show s = -1 by assumption)), tN_nI (by omega)]) (by unfold tapeL; rw [if_neg hc1, if_neg (show ¬ ¬ (-1 ≤ s ∧ s ≤ 4) by assumption), if_pos (s_m1 (show s = -1 by assumption)), tN_nI (by omega)]; first | done | rfl) f6 (hZ.tape ht s 0 f1 f3 f4 f5 f6)
              | exact tpz_of (E' := (upI (upI E 36 t s) 37 t n)) (by unfold tapeS; rw [if_neg hc1, if_neg (show ¬ ¬ (-1 ≤ s ∧ s ≤ 4) by assumption), if_neg (s_nn (show ¬ ¬ (-1 ≤ s ∧ s ≤ 4) by assumption) (show ¬ s = -1 by assumption)), if_neg (show ¬ ¬ n ≤ 60 from not_not_intro (by assumption)), if_neg (show ¬ ¬ 0 ≤ n from not_not_intro (by assumption)), tN_nI (by omega)]) (by unfold tapeL; rw [if_neg hc1, if_neg (show ¬ ¬ (-1 ≤ s ∧ s ≤ 4) by assumption), if_neg (s_nn (show ¬ ¬ (-1 ≤ s ∧ s ≤ 4) by assumption) (show ¬ s = -1 by assumption)), if_neg (show ¬ ¬ n ≤ 60 from not_not_intro (by assumption)), if_neg (show ¬ ¬ 0 ≤ n from not_not_intro (by assumption)), tN_nI (by omega)]; first | done | rfl) f6 (hZ.tape ht s n f1 f3 f4 f5 f6)
            · refine g_iconst (v := 0) hX (dk DX11_tape 38 rfl) (by decide) ?_
              refine g_goto (tgt := 68) hX (dk DX11_tape 39 rfl) (by decide) ?_
              refine i_iastore hX (dk DX11_tape 41 rfl) (CLt hH (q := 35) (by decide)) (CS hH 35 (by decide) rfl) (⟨rfl, ht, by decide⟩) ?_
              refine g_aload_0 hX (dk DX11_tape 42 rfl) ?_
              refine g_getRs (r := 36) hX (dk DX11_tape 43 rfl) KX11 fX11_56 (by decide) rfl (CLt hH (q := 0) (by decide)) (CC hH 0 (by decide) rfl) (CR hH 0 11 36 (by decide)) ?_
              refine g_iload_1 hX (dk DX11_tape 44 rfl) ?_
              refine i_aaload (i0 := 7) hX (dk DX11_tape 45 rfl) (CLt hH (q := 36) (by decide)) (CS hH 36 (by decide) rfl) (by decide) rfl rfl (⟨rfl, ht, by decide⟩) (IT_r hH ht) ?_
              refine g_lconst (v := 0) hX (dk DX11_tape 46 rfl) (by decide) ?_
              refine g_c2v hX sX11_tape_76 (by decide) (Nat.le_of_ble_eq_true rfl) rcN (by decide) (by decide) (c_J7_fill_d0a16 hG (len := 60) (IT_lt hH ht) (IT_sh hH ht) (by decide)) ?_
              rintro I9 h9 ⟨f1, -, f3, f4, f5, f6, rfl⟩
              refine g_iconst (v := 1) hX (dk DX11_tape 48 rfl) (by decide) ?_
              refine g_ireturn hX (dk DX11_tape 49 rfl) rfl (rfl) (by decide) (by decide) ?_
              first
              | exact absurd (show s = -1 by assumption) (show ¬ s = -1 by assumption)
              | exact tpz_of (E' := (upI (upI E 36 t s) 37 t 0)) (by unfold tapeS; rw [if_neg hc1, if_neg (show ¬ ¬ (-1 ≤ s ∧ s ≤ 4) by assumption), if_pos (s_m1 (show s = -1 by assumption)), tN_nI (by omega)]) (by unfold tapeL; rw [if_neg hc1, if_neg (show ¬ ¬ (-1 ≤ s ∧ s ≤ 4) by assumption), if_pos (s_m1 (show s = -1 by assumption)), tN_nI (by omega)]; first | done | rfl) f6 (hZ.tape ht s 0 f1 f3 f4 f5 f6)
              | exact tpz_of (E' := (upI (upI E 36 t s) 37 t n)) (by unfold tapeS; rw [if_neg hc1, if_neg (show ¬ ¬ (-1 ≤ s ∧ s ≤ 4) by assumption), if_neg (s_nn (show ¬ ¬ (-1 ≤ s ∧ s ≤ 4) by assumption) (show ¬ s = -1 by assumption)), if_neg (show ¬ ¬ n ≤ 60 from not_not_intro (by assumption)), if_neg (show ¬ ¬ 0 ≤ n from not_not_intro (by assumption)), tN_nI (by omega)]) (by unfold tapeL; rw [if_neg hc1, if_neg (show ¬ ¬ (-1 ≤ s ∧ s ≤ 4) by assumption), if_neg (s_nn (show ¬ ¬ (-1 ≤ s ∧ s ≤ 4) by assumption) (show ¬ s = -1 by assumption)), if_neg (show ¬ ¬ n ≤ 60 from not_not_intro (by assumption)), if_neg (show ¬ ¬ 0 ≤ n from not_not_intro (by assumption)), tN_nI (by omega)]; first | done | rfl) f6 (hZ.tape ht s n f1 f3 f4 f5 f6)
          · refine g_bipush (v := -14) hX (dk DX11_tape 25 rfl) (by decide) ?_
            refine g_ireturn hX (dk DX11_tape 26 rfl) rfl (rfl) (by decide) (by decide) ?_
            first
            | exact absurd (show s = -1 by assumption) (show ¬ s = -1 by assumption)
            | exact tpz_of (by unfold tapeS; rw [if_neg hc1, if_neg (show ¬ ¬ (-1 ≤ s ∧ s ≤ 4) by assumption), if_neg (s_nn (show ¬ ¬ (-1 ≤ s ∧ s ≤ 4) by assumption) (show ¬ s = -1 by assumption)), if_neg (show ¬ ¬ n ≤ 60 from not_not_intro (by assumption)), if_pos (show ¬ 0 ≤ n by assumption)]) (by unfold tapeL; rw [if_neg hc1, if_neg (show ¬ ¬ (-1 ≤ s ∧ s ≤ 4) by assumption), if_neg (s_nn (show ¬ ¬ (-1 ≤ s ∧ s ≤ 4) by assumption) (show ¬ s = -1 by assumption)), if_neg (show ¬ ¬ n ≤ 60 from not_not_intro (by assumption)), if_pos (show ¬ 0 ≤ n by assumption)]; first | done | rfl) rfl hZ
      · refine g_iload_3 hX (dk DX11_tape 15 rfl) ?_
        refine g_bipush (v := 60) hX (dk DX11_tape 16 rfl) (by decide) ?_
        refine g_icmp_le (tgt := 34) hX (dk DX11_tape 17 rfl) (by decide) (fun hc8 => ?_) (fun hc8 => ?_)
        · refine g_iload_2 hX (dk DX11_tape 20 rfl) ?_
          refine g_iconst (v := -1) hX (dk DX11_tape 21 rfl) (by decide) ?_
          refine g_icmp_eq (tgt := 46) hX (dk DX11_tape 22 rfl) (by decide) (fun hc9 => ?_) (fun hc9 => ?_)
          · refine g_aload_0 hX (dk DX11_tape 27 rfl) ?_
            refine g_getRs (r := 34) hX (dk DX11_tape 28 rfl) KX11 fX11_47 (by decide) rfl (CLt hH (q := 0) (by decide)) (CC hH 0 (by decide) rfl) (CR hH 0 9 34 (by decide)) ?_
            refine g_iload_1 hX (dk DX11_tape 29 rfl) ?_
            refine g_iload_2 hX (dk DX11_tape 30 rfl) ?_
            refine i_iastore hX (dk DX11_tape 31 rfl) (CLt hH (q := 34) (by decide)) (CS hH 34 (by decide) rfl) (⟨rfl, ht, by decide⟩) ?_
            refine g_aload_0 hX (dk DX11_tape 32 rfl) ?_
            refine g_getRs (r := 35) hX (dk DX11_tape 33 rfl) KX11 fX11_51 (by decide) rfl (CLt hH (q := 0) (by decide)) (CC hH 0 (by decide) rfl) (CR hH 0 10 35 (by decide)) ?_
            refine g_iload_1 hX (dk DX11_tape 34 rfl) ?_
            refine g_iload_2 hX (dk DX11_tape 35 rfl) ?_
            refine g_iconst (v := -1) hX (dk DX11_tape 36 rfl) (by decide) ?_
            refine g_icmp_ne (tgt := 67) hX (dk DX11_tape 37 rfl) (by decide) (fun hc10 => ?_) (fun hc10 => ?_)
            · refine g_iload_3 hX (dk DX11_tape 40 rfl) ?_
              refine i_iastore hX (dk DX11_tape 41 rfl) (CLt hH (q := 35) (by decide)) (CS hH 35 (by decide) rfl) (⟨rfl, ht, by decide⟩) ?_
              refine g_aload_0 hX (dk DX11_tape 42 rfl) ?_
              refine g_getRs (r := 36) hX (dk DX11_tape 43 rfl) KX11 fX11_56 (by decide) rfl (CLt hH (q := 0) (by decide)) (CC hH 0 (by decide) rfl) (CR hH 0 11 36 (by decide)) ?_
              refine g_iload_1 hX (dk DX11_tape 44 rfl) ?_
              refine i_aaload (i0 := 7) hX (dk DX11_tape 45 rfl) (CLt hH (q := 36) (by decide)) (CS hH 36 (by decide) rfl) (by decide) rfl rfl (⟨rfl, ht, by decide⟩) (IT_r hH ht) ?_
              refine g_lconst (v := 0) hX (dk DX11_tape 46 rfl) (by decide) ?_
              refine g_c2v hX sX11_tape_76 (by decide) (Nat.le_of_ble_eq_true rfl) rcN (by decide) (by decide) (c_J7_fill_d0a16 hG (len := 60) (IT_lt hH ht) (IT_sh hH ht) (by decide)) ?_
              rintro I9 h9 ⟨f1, -, f3, f4, f5, f6, rfl⟩
              refine g_iconst (v := 1) hX (dk DX11_tape 48 rfl) (by decide) ?_
              refine g_ireturn hX (dk DX11_tape 49 rfl) rfl (rfl) (by decide) (by decide) ?_
              first
              | exact absurd (show s = -1 by assumption) (show ¬ s = -1 by assumption)
              | exact tpz_of (E' := (upI (upI E 36 t s) 37 t 0)) (by unfold tapeS; rw [if_neg hc1, if_neg (show ¬ ¬ (-1 ≤ s ∧ s ≤ 4) by assumption), if_pos (s_m1 (show s = -1 by assumption)), tN_nI (by omega)]) (by unfold tapeL; rw [if_neg hc1, if_neg (show ¬ ¬ (-1 ≤ s ∧ s ≤ 4) by assumption), if_pos (s_m1 (show s = -1 by assumption)), tN_nI (by omega)]; first | done | rfl) f6 (hZ.tape ht s 0 f1 f3 f4 f5 f6)
              | exact tpz_of (E' := (upI (upI E 36 t s) 37 t n)) (by unfold tapeS; rw [if_neg hc1, if_neg (show ¬ ¬ (-1 ≤ s ∧ s ≤ 4) by assumption), if_neg (s_nn (show ¬ ¬ (-1 ≤ s ∧ s ≤ 4) by assumption) (show ¬ s = -1 by assumption)), if_neg (show ¬ ¬ n ≤ 60 from not_not_intro (by assumption)), if_neg (show ¬ ¬ 0 ≤ n from not_not_intro (by assumption)), tN_nI (by omega)]) (by unfold tapeL; rw [if_neg hc1, if_neg (show ¬ ¬ (-1 ≤ s ∧ s ≤ 4) by assumption), if_neg (s_nn (show ¬ ¬ (-1 ≤ s ∧ s ≤ 4) by assumption) (show ¬ s = -1 by assumption)), if_neg (show ¬ ¬ n ≤ 60 from not_not_intro (by assumption)), if_neg (show ¬ ¬ 0 ≤ n from not_not_intro (by assumption)), tN_nI (by omega)]; first | done | rfl) f6 (hZ.tape ht s n f1 f3 f4 f5 f6)
            · refine g_iconst (v := 0) hX (dk DX11_tape 38 rfl) (by decide) ?_
              refine g_goto (tgt := 68) hX (dk DX11_tape 39 rfl) (by decide) ?_
              refine i_iastore hX (dk DX11_tape 41 rfl) (CLt hH (q := 35) (by decide)) (CS hH 35 (by decide) rfl) (⟨rfl, ht, by decide⟩) ?_
              refine g_aload_0 hX (dk DX11_tape 42 rfl) ?_
              refine g_getRs (r := 36) hX (dk DX11_tape 43 rfl) KX11 fX11_56 (by decide) rfl (CLt hH (q := 0) (by decide)) (CC hH 0 (by decide) rfl) (CR hH 0 11 36 (by decide)) ?_
              refine g_iload_1 hX (dk DX11_tape 44 rfl) ?_
              refine i_aaload (i0 := 7) hX (dk DX11_tape 45 rfl) (CLt hH (q := 36) (by decide)) (CS hH 36 (by decide) rfl) (by decide) rfl rfl (⟨rfl, ht, by decide⟩) (IT_r hH ht) ?_
              refine g_lconst (v := 0) hX (dk DX11_tape 46 rfl) (by decide) ?_
              refine g_c2v hX sX11_tape_76 (by decide) (Nat.le_of_ble_eq_true rfl) rcN (by decide) (by decide) (c_J7_fill_d0a16 hG (len := 60) (IT_lt hH ht) (IT_sh hH ht) (by decide)) ?_
              rintro I9 h9 ⟨f1, -, f3, f4, f5, f6, rfl⟩
              refine g_iconst (v := 1) hX (dk DX11_tape 48 rfl) (by decide) ?_
              refine g_ireturn hX (dk DX11_tape 49 rfl) rfl (rfl) (by decide) (by decide) ?_
              first
              | exact absurd (show s = -1 by assumption) (show ¬ s = -1 by assumption)
              | exact tpz_of (E' := (upI (upI E 36 t s) 37 t 0)) (by unfold tapeS; rw [if_neg hc1, if_neg (show ¬ ¬ (-1 ≤ s ∧ s ≤ 4) by assumption), if_pos (s_m1 (show s = -1 by assumption)), tN_nI (by omega)]) (by unfold tapeL; rw [if_neg hc1, if_neg (show ¬ ¬ (-1 ≤ s ∧ s ≤ 4) by assumption), if_pos (s_m1 (show s = -1 by assumption)), tN_nI (by omega)]; first | done | rfl) f6 (hZ.tape ht s 0 f1 f3 f4 f5 f6)
              | exact tpz_of (E' := (upI (upI E 36 t s) 37 t n)) (by unfold tapeS; rw [if_neg hc1, if_neg (show ¬ ¬ (-1 ≤ s ∧ s ≤ 4) by assumption), if_neg (s_nn (show ¬ ¬ (-1 ≤ s ∧ s ≤ 4) by assumption) (show ¬ s = -1 by assumption)), if_neg (show ¬ ¬ n ≤ 60 from not_not_intro (by assumption)), if_neg (show ¬ ¬ 0 ≤ n from not_not_intro (by assumption)), tN_nI (by omega)]) (by unfold tapeL; rw [if_neg hc1, if_neg (show ¬ ¬ (-1 ≤ s ∧ s ≤ 4) by assumption), if_neg (s_nn (show ¬ ¬ (-1 ≤ s ∧ s ≤ 4) by assumption) (show ¬ s = -1 by assumption)), if_neg (show ¬ ¬ n ≤ 60 from not_not_intro (by assumption)), if_neg (show ¬ ¬ 0 ≤ n from not_not_intro (by assumption)), tN_nI (by omega)]; first | done | rfl) f6 (hZ.tape ht s n f1 f3 f4 f5 f6)
          · refine g_iload_3 hX (dk DX11_tape 23 rfl) ?_
            refine g_if_ge (tgt := 46) hX (dk DX11_tape 24 rfl) (by decide) (fun hc11 => ?_) (fun hc11 => ?_)
            · refine g_aload_0 hX (dk DX11_tape 27 rfl) ?_
              refine g_getRs (r := 34) hX (dk DX11_tape 28 rfl) KX11 fX11_47 (by decide) rfl (CLt hH (q := 0) (by decide)) (CC hH 0 (by decide) rfl) (CR hH 0 9 34 (by decide)) ?_
              refine g_iload_1 hX (dk DX11_tape 29 rfl) ?_
              refine g_iload_2 hX (dk DX11_tape 30 rfl) ?_
              refine i_iastore hX (dk DX11_tape 31 rfl) (CLt hH (q := 34) (by decide)) (CS hH 34 (by decide) rfl) (⟨rfl, ht, by decide⟩) ?_
              refine g_aload_0 hX (dk DX11_tape 32 rfl) ?_
              refine g_getRs (r := 35) hX (dk DX11_tape 33 rfl) KX11 fX11_51 (by decide) rfl (CLt hH (q := 0) (by decide)) (CC hH 0 (by decide) rfl) (CR hH 0 10 35 (by decide)) ?_
              refine g_iload_1 hX (dk DX11_tape 34 rfl) ?_
              refine g_iload_2 hX (dk DX11_tape 35 rfl) ?_
              refine g_iconst (v := -1) hX (dk DX11_tape 36 rfl) (by decide) ?_
              refine g_icmp_ne (tgt := 67) hX (dk DX11_tape 37 rfl) (by decide) (fun hc12 => ?_) (fun hc12 => ?_)
              · refine g_iload_3 hX (dk DX11_tape 40 rfl) ?_
                refine i_iastore hX (dk DX11_tape 41 rfl) (CLt hH (q := 35) (by decide)) (CS hH 35 (by decide) rfl) (⟨rfl, ht, by decide⟩) ?_
                refine g_aload_0 hX (dk DX11_tape 42 rfl) ?_
                refine g_getRs (r := 36) hX (dk DX11_tape 43 rfl) KX11 fX11_56 (by decide) rfl (CLt hH (q := 0) (by decide)) (CC hH 0 (by decide) rfl) (CR hH 0 11 36 (by decide)) ?_
                refine g_iload_1 hX (dk DX11_tape 44 rfl) ?_
                refine i_aaload (i0 := 7) hX (dk DX11_tape 45 rfl) (CLt hH (q := 36) (by decide)) (CS hH 36 (by decide) rfl) (by decide) rfl rfl (⟨rfl, ht, by decide⟩) (IT_r hH ht) ?_
                refine g_lconst (v := 0) hX (dk DX11_tape 46 rfl) (by decide) ?_
                refine g_c2v hX sX11_tape_76 (by decide) (Nat.le_of_ble_eq_true rfl) rcN (by decide) (by decide) (c_J7_fill_d0a16 hG (len := 60) (IT_lt hH ht) (IT_sh hH ht) (by decide)) ?_
                rintro I9 h9 ⟨f1, -, f3, f4, f5, f6, rfl⟩
                refine g_iconst (v := 1) hX (dk DX11_tape 48 rfl) (by decide) ?_
                refine g_ireturn hX (dk DX11_tape 49 rfl) rfl (rfl) (by decide) (by decide) ?_
                first
                | exact absurd (show s = -1 by assumption) (show ¬ s = -1 by assumption)
                | exact tpz_of (E' := (upI (upI E 36 t s) 37 t 0)) (by unfold tapeS; rw [if_neg hc1, if_neg (show ¬ ¬ (-1 ≤ s ∧ s ≤ 4) by assumption), if_pos (s_m1 (show s = -1 by assumption)), tN_nI (by omega)]) (by unfold tapeL; rw [if_neg hc1, if_neg (show ¬ ¬ (-1 ≤ s ∧ s ≤ 4) by assumption), if_pos (s_m1 (show s = -1 by assumption)), tN_nI (by omega)]; first | done | rfl) f6 (hZ.tape ht s 0 f1 f3 f4 f5 f6)
                | exact tpz_of (E' := (upI (upI E 36 t s) 37 t n)) (by unfold tapeS; rw [if_neg hc1, if_neg (show ¬ ¬ (-1 ≤ s ∧ s ≤ 4) by assumption), if_neg (s_nn (show ¬ ¬ (-1 ≤ s ∧ s ≤ 4) by assumption) (show ¬ s = -1 by assumption)), if_neg (show ¬ ¬ n ≤ 60 from not_not_intro (by assumption)), if_neg (show ¬ ¬ 0 ≤ n from not_not_intro (by assumption)), tN_nI (by omega)]) (by unfold tapeL; rw [if_neg hc1, if_neg (show ¬ ¬ (-1 ≤ s ∧ s ≤ 4) by assumption), if_neg (s_nn (show ¬ ¬ (-1 ≤ s ∧ s ≤ 4) by assumption) (show ¬ s = -1 by assumption)), if_neg (show ¬ ¬ n ≤ 60 from not_not_intro (by assumption)), if_neg (show ¬ ¬ 0 ≤ n from not_not_intro (by assumption)), tN_nI (by omega)]; first | done | rfl) f6 (hZ.tape ht s n f1 f3 f4 f5 f6)
              · refine g_iconst (v := 0) hX (dk DX11_tape 38 rfl) (by decide) ?_
                refine g_goto (tgt := 68) hX (dk DX11_tape 39 rfl) (by decide) ?_
                refine i_iastore hX (dk DX11_tape 41 rfl) (CLt hH (q := 35) (by decide)) (CS hH 35 (by decide) rfl) (⟨rfl, ht, by decide⟩) ?_
                refine g_aload_0 hX (dk DX11_tape 42 rfl) ?_
                refine g_getRs (r := 36) hX (dk DX11_tape 43 rfl) KX11 fX11_56 (by decide) rfl (CLt hH (q := 0) (by decide)) (CC hH 0 (by decide) rfl) (CR hH 0 11 36 (by decide)) ?_
                refine g_iload_1 hX (dk DX11_tape 44 rfl) ?_
                refine i_aaload (i0 := 7) hX (dk DX11_tape 45 rfl) (CLt hH (q := 36) (by decide)) (CS hH 36 (by decide) rfl) (by decide) rfl rfl (⟨rfl, ht, by decide⟩) (IT_r hH ht) ?_
                refine g_lconst (v := 0) hX (dk DX11_tape 46 rfl) (by decide) ?_
                refine g_c2v hX sX11_tape_76 (by decide) (Nat.le_of_ble_eq_true rfl) rcN (by decide) (by decide) (c_J7_fill_d0a16 hG (len := 60) (IT_lt hH ht) (IT_sh hH ht) (by decide)) ?_
                rintro I9 h9 ⟨f1, -, f3, f4, f5, f6, rfl⟩
                refine g_iconst (v := 1) hX (dk DX11_tape 48 rfl) (by decide) ?_
                refine g_ireturn hX (dk DX11_tape 49 rfl) rfl (rfl) (by decide) (by decide) ?_
                first
                | exact absurd (show s = -1 by assumption) (show ¬ s = -1 by assumption)
                | exact tpz_of (E' := (upI (upI E 36 t s) 37 t 0)) (by unfold tapeS; rw [if_neg hc1, if_neg (show ¬ ¬ (-1 ≤ s ∧ s ≤ 4) by assumption), if_pos (s_m1 (show s = -1 by assumption)), tN_nI (by omega)]) (by unfold tapeL; rw [if_neg hc1, if_neg (show ¬ ¬ (-1 ≤ s ∧ s ≤ 4) by assumption), if_pos (s_m1 (show s = -1 by assumption)), tN_nI (by omega)]; first | done | rfl) f6 (hZ.tape ht s 0 f1 f3 f4 f5 f6)
                | exact tpz_of (E' := (upI (upI E 36 t s) 37 t n)) (by unfold tapeS; rw [if_neg hc1, if_neg (show ¬ ¬ (-1 ≤ s ∧ s ≤ 4) by assumption), if_neg (s_nn (show ¬ ¬ (-1 ≤ s ∧ s ≤ 4) by assumption) (show ¬ s = -1 by assumption)), if_neg (show ¬ ¬ n ≤ 60 from not_not_intro (by assumption)), if_neg (show ¬ ¬ 0 ≤ n from not_not_intro (by assumption)), tN_nI (by omega)]) (by unfold tapeL; rw [if_neg hc1, if_neg (show ¬ ¬ (-1 ≤ s ∧ s ≤ 4) by assumption), if_neg (s_nn (show ¬ ¬ (-1 ≤ s ∧ s ≤ 4) by assumption) (show ¬ s = -1 by assumption)), if_neg (show ¬ ¬ n ≤ 60 from not_not_intro (by assumption)), if_neg (show ¬ ¬ 0 ≤ n from not_not_intro (by assumption)), tN_nI (by omega)]; first | done | rfl) f6 (hZ.tape ht s n f1 f3 f4 f5 f6)
            · refine g_bipush (v := -14) hX (dk DX11_tape 25 rfl) (by decide) ?_
              refine g_ireturn hX (dk DX11_tape 26 rfl) rfl (rfl) (by decide) (by decide) ?_
              first
              | exact absurd (show s = -1 by assumption) (show ¬ s = -1 by assumption)
              | exact tpz_of (by unfold tapeS; rw [if_neg hc1, if_neg (show ¬ ¬ (-1 ≤ s ∧ s ≤ 4) by assumption), if_neg (s_nn (show ¬ ¬ (-1 ≤ s ∧ s ≤ 4) by assumption) (show ¬ s = -1 by assumption)), if_neg (show ¬ ¬ n ≤ 60 from not_not_intro (by assumption)), if_pos (show ¬ 0 ≤ n by assumption)]) (by unfold tapeL; rw [if_neg hc1, if_neg (show ¬ ¬ (-1 ≤ s ∧ s ≤ 4) by assumption), if_neg (s_nn (show ¬ ¬ (-1 ≤ s ∧ s ≤ 4) by assumption) (show ¬ s = -1 by assumption)), if_neg (show ¬ ¬ n ≤ 60 from not_not_intro (by assumption)), if_pos (show ¬ 0 ≤ n by assumption)]; first | done | rfl) rfl hZ
        · refine g_bipush (v := -2) hX (dk DX11_tape 18 rfl) (by decide) ?_
          refine g_ireturn hX (dk DX11_tape 19 rfl) rfl (rfl) (by decide) (by decide) ?_
          first
          | exact absurd (show s = -1 by assumption) (show ¬ s = -1 by assumption)
          | exact tpz_of (by unfold tapeS; rw [if_neg hc1, if_pos (show ¬ (-1 ≤ s ∧ s ≤ 4) by assumption)]) (by unfold tapeL; rw [if_neg hc1, if_pos (show ¬ (-1 ≤ s ∧ s ≤ 4) by assumption)]; first | done | rfl) rfl hZ
          | exact tpz_of (by unfold tapeS; rw [if_neg hc1, if_neg (show ¬ ¬ (-1 ≤ s ∧ s ≤ 4) by assumption), if_neg (s_nn (show ¬ ¬ (-1 ≤ s ∧ s ≤ 4) by assumption) (show ¬ s = -1 by assumption)), if_pos (show ¬ n ≤ 60 by assumption)]) (by unfold tapeL; rw [if_neg hc1, if_neg (show ¬ ¬ (-1 ≤ s ∧ s ≤ 4) by assumption), if_neg (s_nn (show ¬ ¬ (-1 ≤ s ∧ s ≤ 4) by assumption) (show ¬ s = -1 by assumption)), if_pos (show ¬ n ≤ 60 by assumption)]; first | done | rfl) rfl hZ
  · refine g_iconst (v := -1) hX (dk DX11_tape 5 rfl) (by decide) ?_
    refine g_ireturn hX (dk DX11_tape 6 rfl) rfl (rfl) (by decide) (by decide) ?_
    exact tpz_of (by unfold tapeS; rw [if_pos hc1]) (by unfold tapeL; rw [if_pos hc1]; first | done | rfl) rfl hZ
end
section
set_option maxRecDepth 8000 in
set_option maxHeartbeats 4000000 in
theorem zx_busiest {G : Gt} (hG : Gok G) {I : It} {h : Ht}  {E : It} {L : Nat → Int64} (hE : Inv E) (hZ : RZ E L I h) {n w : Int32} : Con G (6) 0 0 mX11_busiest [.ref 0, .int n, .int w] I h (qZ (busiestS E n w) L (hn h)) := by
  refine con_intro (own := RX11) (lo0 := [some (.ref 0), some (.int n), some (.int w), none, none, none, none]) hG rfl pl_X11 (Nat.le_of_ble_eq_true rfl) rfl (fun X hX => ?_)
  have hY := hZ.1
  have hW := hY.wx hE
  have hH := hW.1
  have hc10 := hW.2.1.2
  have hcE := (inv_cnt hE).2
  have loop33 : ∀ m, n = nI m → 1 ≤ m → m ≤ 200 → ¬ ¬ (0 ≤ w ∧ w ≤ 1) → ∀ (k on b : Nat) (z : Int32), on + k = m → bsI E m on k b z → GG G (6) 0 0 X (qZ (busiestS E n w) L (hn h)) 33 [some (.ref 0), some (.int (nI m)), some (.int w), some (.int (nI b)), some (.int z), some (.int (nI on)), none] [] (I) (h) 0 0 := by
    intro m hnm hm1 hm2 hw1 k
    subst hnm
    induction k using Nat.strongRecOn with | _ k ih => ?_
    intro on b z hk hb
    have hw9 := (inv_wk hE).2
    refine g_iload_5 hX (dk DX11_busiest 20 rfl) ?_
    refine g_iload_1 hX (dk DX11_busiest 21 rfl) ?_
    refine g_icmp_ge (tgt := 81) hX (dk DX11_busiest 22 rfl) (by decide) (fun hc1 => ?_) (fun hc1 => ?_)
    · have hk0 := ct_end hk (by omega) hc1
      subst hk0
      obtain ⟨f1, f2⟩ := bsI_end hm1 hk hb
      have hin : ¬ ¬ (1 ≤ nI m ∧ nI m ≤ 200) := not_not_intro ⟨nI_le (a := 1) hm1 (by omega), nI_le (b := 200) hm2 (by decide)⟩
      refine g_iload_2 hX (dk DX11_busiest 42 rfl) ?_
      refine g_if_ne (tgt := 97) hX (dk DX11_busiest 43 rfl) (by decide) (fun hc2 => ?_) (fun hc2 => ?_)
      · refine g_iload_4 hX (dk DX11_busiest 50 rfl) ?_
        refine g_ireturn hX (dk DX11_busiest 51 rfl) rfl (rfl) (by decide) (by decide) ?_
        first
        | exact qZ_of (by unfold busiestS; rw [if_neg hw1, if_neg hin, if_pos (by assumption), tN_nI (by omega), f1]) hZ
        | exact qZ_of (by unfold busiestS; rw [if_neg hw1, if_neg hin, if_neg (by assumption), tN_nI (by omega), f1, f2]) hZ
      · refine g_aload_0 hX (dk DX11_busiest 44 rfl) ?_
        refine g_getRs (r := 1) hX (dk DX11_busiest 45 rfl) KX11 fX11_12 (by decide) rfl (CLt hH (q := 0) (by decide)) (CC hH 0 (by decide) rfl) (CR hH 0 0 1 (by decide)) ?_
        refine g_getIv hX (dk DX11_busiest 46 rfl) KX5 fX11_122 (by decide) rfl (CLt hH (q := 1) (by decide)) (CC hH 1 (by decide) rfl) (hY.2.1.1.2.1.trans (inv_wk hE).1) ?_
        refine g_iload_3 hX (dk DX11_busiest 47 rfl) ?_
        refine g_iadd hX (dk DX11_busiest 48 rfl) ?_
        refine g_nmI (nI (wk E + b)) (nI_add _ _) ?_
        refine g_goto (tgt := 99) hX (dk DX11_busiest 49 rfl) (by decide) ?_
        refine g_ireturn hX (dk DX11_busiest 51 rfl) rfl (rfl) (by decide) (by decide) ?_
        first
        | exact qZ_of (by unfold busiestS; rw [if_neg hw1, if_neg hin, if_pos (by assumption), tN_nI (by omega), f1]) hZ
        | exact qZ_of (by unfold busiestS; rw [if_neg hw1, if_neg hin, if_neg (by assumption), tN_nI (by omega), f1, f2]) hZ
    · obtain ⟨k, rfl⟩ := ct_go hk (by omega) hc1
      obtain ⟨x, hx, e1, e2⟩ := cm_e hE hY (w := wk E + on) (by omega)
      have hx10 := onesN_le x hx
      refine g_aload_0 hX (dk DX11_busiest 23 rfl) ?_
      refine g_getRs (r := 1) hX (dk DX11_busiest 24 rfl) KX11 fX11_12 (by decide) rfl (CLt hH (q := 0) (by decide)) (CC hH 0 (by decide) rfl) (CR hH 0 0 1 (by decide)) ?_
      refine g_aload_0 hX (dk DX11_busiest 25 rfl) ?_
      refine g_getRs (r := 1) hX (dk DX11_busiest 26 rfl) KX11 fX11_12 (by decide) rfl (CLt hH (q := 0) (by decide)) (CC hH 0 (by decide) rfl) (CR hH 0 0 1 (by decide)) ?_
      refine g_getIv hX (dk DX11_busiest 27 rfl) KX5 fX11_122 (by decide) rfl (CLt hH (q := 1) (by decide)) (CC hH 1 (by decide) rfl) (hY.2.1.1.2.1.trans (inv_wk hE).1) ?_
      refine g_iload_5 hX (dk DX11_busiest 28 rfl) ?_
      refine g_iadd hX (dk DX11_busiest 29 rfl) ?_
      refine g_nmI (nI (wk E + on)) (nI_add _ _) ?_
      refine g_c2I hX sX11_busiest_53 (by decide) (Nat.le_of_ble_eq_true rfl) (rc0 rfl (CLt hH (by decide)) (CC hH 1 (by decide) rfl)) (by decide) (by decide) (c_X5_coming hG hW) ?_
      refine g_nmI (nI x) e1 ?_
      refine g_c1q hX sX11_busiest_56 (by decide) (Nat.le_of_ble_eq_true rfl) rcN (by decide) (by decide) (c_J6_bitCount_0f7a4 hG) ?_
      rintro y I9 h9 ⟨hy, rfl, rfl⟩
      refine g_nmI (nI (onesN x)) (hy x hx rfl) ?_
      refine g_istore_6 hX (dk DX11_busiest 32 rfl) (by decide) rfl ?_
      refine g_iload_6 hX (dk DX11_busiest 33 rfl) ?_
      refine g_iload_4 hX (dk DX11_busiest 34 rfl) ?_
      refine g_icmp_le (tgt := 75) hX (dk DX11_busiest 35 rfl) (by decide) (fun hc3 => ?_) (fun hc3 => ?_)
      · refine g_iinc_5 hX (dk DX11_busiest 40 rfl) (nI_1 on) (by decide) rfl ?_
        refine g_goto (tgt := 33) hX (dk DX11_busiest 41 rfl) (by decide) ?_
        first
        | exact g_fgt (ih k (by omega) (on + 1) _ _ (by omega) (bsI_st hb e2 hx10 (by assumption))) ⟨rfl, rfl, rfl, rfl, rfl, rfl, trivial⟩
        | exact g_fgt (ih k (by omega) (on + 1) _ _ (by omega) (bsI_up hb e2 hx10 (by assumption))) ⟨rfl, rfl, rfl, rfl, rfl, rfl, trivial⟩
      · refine g_iload_6 hX (dk DX11_busiest 36 rfl) ?_
        refine g_istore_4 hX (dk DX11_busiest 37 rfl) (by decide) rfl ?_
        refine g_iload_5 hX (dk DX11_busiest 38 rfl) ?_
        refine g_istore_3 hX (dk DX11_busiest 39 rfl) (by decide) rfl ?_
        refine g_iinc_5 hX (dk DX11_busiest 40 rfl) (nI_1 on) (by decide) rfl ?_
        refine g_goto (tgt := 33) hX (dk DX11_busiest 41 rfl) (by decide) ?_
        first
        | exact g_fgt (ih k (by omega) (on + 1) _ _ (by omega) (bsI_st hb e2 hx10 (by assumption))) ⟨rfl, rfl, rfl, rfl, rfl, rfl, trivial⟩
        | exact g_fgt (ih k (by omega) (on + 1) _ _ (by omega) (bsI_up hb e2 hx10 (by assumption))) ⟨rfl, rfl, rfl, rfl, rfl, rfl, trivial⟩
  refine g_iload_2 hX (dk DX11_busiest 0 rfl) ?_
  refine g_iconst (v := 0) hX (dk DX11_busiest 1 rfl) (by decide) ?_
  refine g_iconst (v := 1) hX (dk DX11_busiest 2 rfl) (by decide) ?_
  refine g_c3I hX sX11_busiest_3 (by decide) (Nat.le_of_ble_eq_true rfl) rcN (by decide) (by decide) (c_X11_isNot hG ) ?_
  refine g_ifb_eq (tgt := 11) hX (dk DX11_busiest 4 rfl) (by decide) (fun hc1 => ?_) (fun hc1 => ?_)
  · refine g_iload_1 hX (dk DX11_busiest 7 rfl) ?_
    refine g_iconst (v := 1) hX (dk DX11_busiest 8 rfl) (by decide) ?_
    refine g_sipush (v := 200) hX (dk DX11_busiest 9 rfl) (by decide) ?_
    refine g_c3I hX sX11_busiest_16 (by decide) (Nat.le_of_ble_eq_true rfl) rcN (by decide) (by decide) (c_X11_isNot hG ) ?_
    refine g_ifb_eq (tgt := 25) hX (dk DX11_busiest 11 rfl) (by decide) (fun hc2 => ?_) (fun hc2 => ?_)
    · have hw1 := hc1
      obtain ⟨m, hm1, hm2, rfl⟩ := in1_of (c := 1) (b := 200) (by decide) (by decide) (Decidable.not_not.mp hc2)
      refine g_iconst (v := 0) hX (dk DX11_busiest 14 rfl) (by decide) ?_
      refine g_istore_3 hX (dk DX11_busiest 15 rfl) (by decide) rfl ?_
      refine g_iconst (v := -1) hX (dk DX11_busiest 16 rfl) (by decide) ?_
      refine g_istore_4 hX (dk DX11_busiest 17 rfl) (by decide) rfl ?_
      refine g_iconst (v := 0) hX (dk DX11_busiest 18 rfl) (by decide) ?_
      refine g_istore_5 hX (dk DX11_busiest 19 rfl) (by decide) rfl ?_
      exact g_fgt (loop33 m rfl hm1 hm2 hw1 m 0 0 (-1) (Nat.zero_add _) (Or.inl ⟨rfl, rfl, rfl, rfl⟩)) ⟨rfl, rfl, rfl, rfl, rfl, rfl, trivial⟩
    · refine g_bipush (v := -2) hX (dk DX11_busiest 12 rfl) (by decide) ?_
      refine g_ireturn hX (dk DX11_busiest 13 rfl) rfl (rfl) (by decide) (by decide) ?_
      exact qZ_of (by unfold busiestS; rw [if_neg (by assumption), if_pos (by assumption)]) hZ
  · refine g_iconst (v := -1) hX (dk DX11_busiest 5 rfl) (by decide) ?_
    refine g_ireturn hX (dk DX11_busiest 6 rfl) rfl (rfl) (by decide) (by decide) ?_
    exact qZ_of (by unfold busiestS; rw [if_pos (by assumption)]) hZ

set_option maxRecDepth 8000 in
set_option maxHeartbeats 4000000 in
theorem zx_all {G : Gt} (hG : Gok G) {I : It} {h : Ht}  {E : It} {L : Nat → Int64} (hE : Inv E) (hZ : RZ E L I h) {s : Int32} : Con G (6) 0 0 mX11_all [.ref 0, .int s] I h (qZ (allS E s) L (hn h)) := by
  refine con_intro (own := RX11) (lo0 := [some (.ref 0), some (.int s), none, none]) hG rfl pl_X11 (Nat.le_of_ble_eq_true rfl) rfl (fun X hX => ?_)
  have hY := hZ.1
  have hW := hY.wx hE
  have hH := hW.1
  have hc10 := hW.2.1.2
  have hcE := (inv_cnt hE).2
  have loop23 : 1 ≤ s → s ≤ bitI (nI (cnt E)) - 1 → ∀ (k on : Nat), k = 3601 - on → on ≤ 3700 → alR E s k on = alR E s 3601 0 → GG G (6) 0 0 X (qZ (allS E s) L (hn h)) 23 [some (.ref 0), some (.int s), some (.int (nI on)), none] [] (I) (h) 0 0 := by
    intro hs1 hs2 k
    induction k using Nat.strongRecOn with | _ k ih => ?_
    intro on hk h37 hv
    have hw9 := (inv_wk hE).2
    have hss : ¬ ¬ (1 ≤ s ∧ s ≤ bitI (E 0 0) - 1) := not_not_intro ⟨hs1, by rw [(inv_cnt hE).1]; exact hs2⟩
    refine g_iload_2 hX (dk DX11_all 14 rfl) ?_
    refine g_sipush (v := 3600) hX (dk DX11_all 15 rfl) (by decide) ?_
    refine g_icmp_gt (tgt := 61) hX (dk DX11_all 16 rfl) (by decide) (fun hc1 => ?_) (fun hc1 => ?_)
    · refine g_bipush (v := -5) hX (dk DX11_all 36 rfl) (by decide) ?_
      refine g_ireturn hX (dk DX11_all 37 rfl) rfl (rfl) (by decide) (by decide) ?_
      have hk0 : k = 0 := by have := lt_nI (c := 3600) (by decide) (by omega) hc1; omega
      subst hk0
      exact qZ_of (by unfold allS; rw [if_neg hss, ← hv]; rfl) hZ
    · have hon : on ≤ 3600 := (nI_leI (b := 3600) (by omega) (by decide)).mp (Int32.not_lt.mp hc1)
      obtain ⟨W, hW60, -, eW, hW0, hWj⟩ := lw_e hE hY (s := s) (w := wk E + on) (by omega) (cnt E) 0 0 (Nat.zero_add _) (by decide)
      refine g_aload_0 hX (dk DX11_all 17 rfl) ?_
      refine g_getRs (r := 1) hX (dk DX11_all 18 rfl) KX11 fX11_12 (by decide) rfl (CLt hH (q := 0) (by decide)) (CC hH 0 (by decide) rfl) (CR hH 0 0 1 (by decide)) ?_
      refine g_iload_1 hX (dk DX11_all 19 rfl) ?_
      refine g_aload_0 hX (dk DX11_all 20 rfl) ?_
      refine g_getRs (r := 1) hX (dk DX11_all 21 rfl) KX11 fX11_12 (by decide) rfl (CLt hH (q := 0) (by decide)) (CC hH 0 (by decide) rfl) (CR hH 0 0 1 (by decide)) ?_
      refine g_getIv hX (dk DX11_all 22 rfl) KX5 fX11_122 (by decide) rfl (CLt hH (q := 1) (by decide)) (CC hH 1 (by decide) rfl) (hY.2.1.1.2.1.trans (inv_wk hE).1) ?_
      refine g_iload_2 hX (dk DX11_all 23 rfl) ?_
      refine g_iadd hX (dk DX11_all 24 rfl) ?_
      refine g_nmI (nI (wk E + on)) (nI_add _ _) ?_
      refine g_c3I hX sX11_all_44 (by decide) (Nat.le_of_ble_eq_true rfl) (rc0 rfl (CLt hH (by decide)) (CC hH 1 (by decide) rfl)) (by decide) (by decide) (c_X5_longestWait hG hW) ?_
      refine g_nmI (nI W) (by rw [hY.cn]; exact eW) ?_
      refine g_istore_3 hX (dk DX11_all 26 rfl) (by decide) rfl ?_
      refine g_iload_3 hX (dk DX11_all 27 rfl) ?_
      refine g_if_gt (tgt := 54) hX (dk DX11_all 28 rfl) (by decide) (fun hc2 => ?_) (fun hc2 => ?_)
      · have hWp : 0 < W := by
          rcases Nat.eq_zero_or_pos W with z | z
          · rw [z] at hc2; exact absurd hc2 (by decide)
          · exact z
        refine g_iload_2 hX (dk DX11_all 31 rfl) ?_
        refine g_iload_3 hX (dk DX11_all 32 rfl) ?_
        refine g_iadd hX (dk DX11_all 33 rfl) ?_
        refine g_nmI (nI (on + W)) (nI_add _ _) ?_
        refine g_istore_2 hX (dk DX11_all 34 rfl) (by decide) rfl ?_
        refine g_goto (tgt := 23) hX (dk DX11_all 35 rfl) (by decide) ?_
        refine g_fgt (ih (3601 - (on + W)) (by omega) (on + W) rfl (by omega) ?_) ⟨rfl, rfl, rfl, trivial⟩
        rw [← hv]
        by_cases hle : on + W ≤ 3601
        · rw [← alR_skip W (3601 - (on + W)) on (fun j hj => hWj j (Nat.zero_le _) hj), show 3601 - (on + W) + W = k by omega]
        · rw [show 3601 - (on + W) = 0 by omega, alR_none k on (fun j hj => hWj j (Nat.zero_le _) (by omega))]; rfl
      · have hW00 : W = 0 := by
          rcases Nat.eq_zero_or_pos W with z | z
          · exact z
          · exact absurd (nI_lt (a := 0) z (by omega)) hc2
        obtain ⟨k, rfl⟩ : ∃ z, k = z + 1 := ⟨k - 1, by omega⟩
        refine g_iload_2 hX (dk DX11_all 29 rfl) ?_
        refine g_ireturn hX (dk DX11_all 30 rfl) rfl (rfl) (by decide) (by decide) ?_
        exact qZ_of (by unfold allS; rw [if_neg hss, ← hv, alR_s, if_pos (hW0 hW00)]) hZ
  refine g_iload_1 hX (dk DX11_all 0 rfl) ?_
  refine g_if_eq (tgt := 18) hX (dk DX11_all 1 rfl) (by decide) (fun hc1 => ?_) (fun hc1 => ?_)
  · refine g_bipush (v := -2) hX (dk DX11_all 10 rfl) (by decide) ?_
    refine g_ireturn hX (dk DX11_all 11 rfl) rfl (rfl) (by decide) (by decide) ?_
    first
    | exact qZ_of (by unfold allS; rw [if_pos (fun z => by rw [show s = 0 by assumption] at z; exact absurd z.1 (by decide))]) hZ
    | (have hok : ¬ s &&& (bitI (I 1 2) - 1 ^^^ -1) = 0 := by assumption
       rw [show I 1 2 = nI (cnt E) from hY.2.1.1.1.trans (inv_cnt hE).1] at hok
       exact qZ_of (by unfold allS; rw [if_pos (fun z => hok ((all_ok (inv_cnt hE).2).mpr ⟨Int32.le_trans (by decide) z.1, by rw [(inv_cnt hE).1] at z; exact z.2⟩))]) hZ)
  · refine g_iload_1 hX (dk DX11_all 2 rfl) ?_
    refine g_aload_0 hX (dk DX11_all 3 rfl) ?_
    refine g_getRs (r := 1) hX (dk DX11_all 4 rfl) KX11 fX11_12 (by decide) rfl (CLt hH (q := 0) (by decide)) (CC hH 0 (by decide) rfl) (CR hH 0 0 1 (by decide)) ?_
    refine g_c1I hX sX11_all_9 (by decide) (Nat.le_of_ble_eq_true rfl) (rc0 rfl (CLt hH (by decide)) (CC hH 1 (by decide) rfl)) (by decide) (by decide) (c_X5_everyDoing hG hW) ?_
    refine g_iconst (v := -1) hX (dk DX11_all 6 rfl) (by decide) ?_
    refine g_ixor hX (dk DX11_all 7 rfl) ?_
    refine g_iand hX (dk DX11_all 8 rfl) ?_
    refine g_if_eq (tgt := 21) hX (dk DX11_all 9 rfl) (by decide) (fun hc2 => ?_) (fun hc2 => ?_)
    · have h0 : ¬ s = 0 := by first | assumption | (intro z; exact absurd z hc1)
      have hok := hc2
      have ecn : I 1 2 = nI (cnt E) := hY.2.1.1.1.trans (inv_cnt hE).1
      rw [ecn] at hok
      have hss := (all_ok (inv_cnt hE).2).mp hok
      have hs1 : 1 ≤ s := by
        obtain ⟨j, hj, rfl⟩ := nI_of (Int32.not_lt.mpr hss.1)
        have : j ≠ 0 := fun z => h0 (by rw [z]; rfl)
        exact nI_le (a := 1) (by omega) hj
      refine g_iconst (v := 0) hX (dk DX11_all 12 rfl) (by decide) ?_
      refine g_istore_2 hX (dk DX11_all 13 rfl) (by decide) rfl ?_
      exact g_fgt (loop23 hs1 hss.2 3601 0 rfl (by decide) rfl) ⟨rfl, rfl, rfl, trivial⟩
    · refine g_bipush (v := -2) hX (dk DX11_all 10 rfl) (by decide) ?_
      refine g_ireturn hX (dk DX11_all 11 rfl) rfl (rfl) (by decide) (by decide) ?_
      first
      | exact qZ_of (by unfold allS; rw [if_pos (fun z => by rw [show s = 0 by assumption] at z; exact absurd z.1 (by decide))]) hZ
      | (have hok : ¬ s &&& (bitI (I 1 2) - 1 ^^^ -1) = 0 := by assumption
         rw [show I 1 2 = nI (cnt E) from hY.2.1.1.1.trans (inv_cnt hE).1] at hok
         exact qZ_of (by unfold allS; rw [if_pos (fun z => hok ((all_ok (inv_cnt hE).2).mpr ⟨Int32.le_trans (by decide) z.1, by rw [(inv_cnt hE).1] at z; exact z.2⟩))]) hZ)
end
section
set_option maxRecDepth 8000 in
set_option maxHeartbeats 4000000 in
theorem zx_chance {G : Gt} (hG : Gok G) {I : It} {h : Ht}  {E : It} {L : Nat → Int64} (hE : Inv E) (hZ : RZ E L I h) {n p : Int32} : Con G (5) 0 0 mX11_chance [.ref 0, .int n, .int p] I h (qZL (chanceF E n p) E L (hn h)) := by
  refine con_intro (own := RX11) (lo0 := [some (.ref 0), some (.int n), some (.int p), none, none, none, none, none, none]) hG rfl pl_X11 (Nat.le_of_ble_eq_true rfl) rfl (fun X hX => ?_)
  have hY := hZ.1
  have hW := hY.wx hE
  have hH := hW.1
  have hc10 := hW.2.1.2
  have hcE := (inv_cnt hE).2
  have loop31 : ∀ m, n = nI m → m ≤ 60 → (0 ≤ p ∧ p ≤ 1) → ∀ (k d a b : Nat), d + k = cnt E → a ≤ b → a ≤ 10 ^ d → (1 ≤ b ∧ b ≤ 10 ^ d) → chR E m k d a b = chR E m (cnt E) 0 1 1 → GG G (5) 0 0 X (qZL (chanceF E n p) E L (hn h)) 31 [some (.ref 0), some (.int (nI m)), some (.int p), some (.long (lN a)), none, some (.long (lN b)), none, some (.int (nI d)), none] [] (I) (h) 0 0 := by
    intro m hnm hm60 hp1 k
    subst hnm
    have hin : 0 ≤ nI m ∧ nI m ≤ 60 := ⟨nI_pos' (by omega), (nI_leI (b := 60) (by omega) (by decide)).mpr hm60⟩
    induction k using Nat.strongRecOn with | _ k ih => ?_
    intro d a b hk hab ha hb hv
    refine g_iload_7 hX (dk DX11_chance_0 18 rfl) ?_
    refine g_aload_0 hX (dk DX11_chance_0 19 rfl) ?_
    refine g_getRs (r := 1) hX (dk DX11_chance_0 20 rfl) KX11 fX11_12 (by decide) rfl (CLt hH (q := 0) (by decide)) (CC hH 0 (by decide) rfl) (CR hH 0 0 1 (by decide)) ?_
    refine g_getIv hX (dk DX11_chance_0 21 rfl) KX5 fX11_72 (by decide) rfl (CLt hH (q := 1) (by decide)) (CC hH 1 (by decide) rfl) (hY.2.1.1.1.trans (inv_cnt hE).1) ?_
    refine g_icmp_ge (tgt := 118) hX (dk DX11_chance_0 22 rfl) (by decide) (fun hc1 => ?_) (fun hc1 => ?_)
    · have hg : 0 < Nat.gcd a b := Nat.gcd_pos_of_pos_right _ hb.1
      have hg2 : Nat.gcd a b < 2 ^ 63 := Nat.lt_of_le_of_lt (Nat.gcd_le_right _ hb.1) (ch_63 hb.2 (by have := (inv_cnt hE).2; omega))
      have hk0 := cl_end hk (by have := (inv_cnt hE).2; omega) hc1
      subst hk0
      have hcE := (inv_cnt hE).2
      have hb34 : b < 2 ^ 34 := Nat.lt_of_le_of_lt (Nat.le_trans hb.2 (Nat.pow_le_pow_right (by decide) (show d ≤ 10 by omega))) (by decide)
      refine g_lload_3 hX (dk DX11_chance_0 58 rfl) ?_
      refine g_lload_5 hX (dk DX11_chance_0 59 rfl) ?_
      refine g_c2L hX sX11_chance_121 (by decide) (Nat.le_of_ble_eq_true rfl) rcN (by decide) (by decide) (c_X11_commonDivisor hG hab hb.1 hb34) ?_
      refine g_lstore_7 hX (dk DX11_chance_1 1 rfl) (by decide) rfl ?_
      refine g_iload_2 hX (dk DX11_chance_1 2 rfl) ?_
      refine g_if_ne (tgt := 134) hX (dk DX11_chance_1 3 rfl) (by decide) (fun hc2 => ?_) (fun hc2 => ?_)
      · refine g_lload_5 hX (dk DX11_chance_1 6 rfl) ?_
        refine g_lload_7 hX (dk DX11_chance_1 7 rfl) ?_
        refine g_ldiv hX (dk DX11_chance_1 8 rfl) (lN_ne0 hg hg2) ?_
        refine g_lreturn hX (dk DX11_chance_1 9 rfl) rfl (by decide) (by decide) ?_
        have hch : chanceF E (nI m) p = if p = 0 then lN (a / Nat.gcd a b) else lN (b / Nat.gcd a b) := by
          unfold chanceF
          rw [if_neg (not_not_intro hin), if_neg (not_not_intro hp1), tN_nI (by omega), ← hv]
          rfl
        first
        | exact qZL_of (by rw [hch, if_pos (by assumption)]; exact pk_lDiv (ch_63 ha (by omega)) hg hg2) hZ
        | exact qZL_of (by rw [hch, if_neg (by assumption)]; exact pk_lDiv (ch_63 hb.2 (by omega)) hg hg2) hZ
      · refine g_lload_3 hX (dk DX11_chance_1 4 rfl) ?_
        refine g_goto (tgt := 136) hX (dk DX11_chance_1 5 rfl) (by decide) ?_
        refine g_lload_7 hX (dk DX11_chance_1 7 rfl) ?_
        refine g_ldiv hX (dk DX11_chance_1 8 rfl) (lN_ne0 hg hg2) ?_
        refine g_lreturn hX (dk DX11_chance_1 9 rfl) rfl (by decide) (by decide) ?_
        have hch : chanceF E (nI m) p = if p = 0 then lN (a / Nat.gcd a b) else lN (b / Nat.gcd a b) := by
          unfold chanceF
          rw [if_neg (not_not_intro hin), if_neg (not_not_intro hp1), tN_nI (by omega), ← hv]
          rfl
        first
        | exact qZL_of (by rw [hch, if_pos (by assumption)]; exact pk_lDiv (ch_63 ha (by omega)) hg hg2) hZ
        | exact qZL_of (by rw [hch, if_neg (by assumption)]; exact pk_lDiv (ch_63 hb.2 (by omega)) hg hg2) hZ
    · have hcE := (inv_cnt hE).2
      obtain ⟨k, rfl⟩ := cl_go hk (by omega) hc1
      have hd : d < cnt E := by omega
      have hd10 : d < 10 := by omega
      have hcd : d < cN I := by rw [hY.cn]; exact hd
      obtain ⟨g1, g2, g3, g4, g5, g6, g7, g8, g9, g10⟩ := hY.d hd
      have hw9 := (inv_wk hE).2
      refine g_aload_0 hX (dk DX11_chance_0 23 rfl) ?_
      refine g_getRs (r := 1) hX (dk DX11_chance_0 24 rfl) KX11 fX11_12 (by decide) rfl (CLt hH (q := 0) (by decide)) (CC hH 0 (by decide) rfl) (CR hH 0 0 1 (by decide)) ?_
      refine g_iload_7 hX (dk DX11_chance_0 25 rfl) ?_
      refine g_c2R hX sX11_chance_49 (by decide) (Nat.le_of_ble_eq_true rfl) (rc0 rfl (CLt hH (by decide)) (CC hH 1 (by decide) rfl)) (by decide) (by decide) (c_X5_find hG hW hcd) ?_
      refine g_astore_8 hX (dk DX11_chance_0 27 rfl) (by decide) rfl ?_
      refine g_aload_8 hX (dk DX11_chance_0 28 rfl) ?_
      refine g_ifnullR hX (dk DX11_chance_0 29 rfl) ?_
      refine g_aload_0 hX (dk DX11_chance_0 30 rfl) ?_
      refine g_getRs (r := 1) hX (dk DX11_chance_0 31 rfl) KX11 fX11_12 (by decide) rfl (CLt hH (q := 0) (by decide)) (CC hH 0 (by decide) rfl) (CR hH 0 0 1 (by decide)) ?_
      refine g_getIv hX (dk DX11_chance_0 32 rfl) KX5 fX11_109 (by decide) rfl (CLt hH (q := 1) (by decide)) (CC hH 1 (by decide) rfl) (hY.2.1.1.2.2.1) ?_
      refine g_iload_7 hX (dk DX11_chance_0 33 rfl) ?_
      refine g_c2I hX sX11_chance_68 (by decide) (Nat.le_of_ble_eq_true rfl) rcN (by decide) (by decide) (c_X11_bit hG) ?_
      refine g_if_ne (tgt := 112) hX (dk DX11_chance_0 35 rfl) (by decide) (fun hc3 => ?_) (fun hc3 => ?_)
      · refine g_iinc_7 hX (dk DX11_chance_0 56 rfl) (nI_1 d) (by decide) rfl ?_
        refine g_goto (tgt := 31) hX (dk DX11_chance_0 57 rfl) (by decide) ?_
        first
        | exact g_fgt (ih k (by omega) (d + 1) _ _ (by omega) (Nat.mul_le_mul hab ho) hbd.1 hbd.2 (by rw [← hv, hst])) ⟨rfl, rfl, rfl, rfl, rfl, rfl, trivial⟩
        | exact g_fgt (ih k (by omega) (d + 1) _ _ (by omega) hab (ch_up ha) ⟨hb.1, ch_up hb.2⟩ (by rw [← hv, chR_s, if_neg hst0, if_neg (fun z => (show ¬ nI (wu E d (wk E)) < nI m from Int32.not_lt.mpr (by assumption)) ((comIn_e hE hd m (by omega)).mp z))])) ⟨rfl, rfl, rfl, rfl, rfl, rfl, trivial⟩
        | exact g_fgt (ih k (by omega) (d + 1) _ _ (by omega) hab (ch_up ha) ⟨hb.1, ch_up hb.2⟩ (by rw [← hv, chR_s, if_pos ((has_01 _ _).resolve_left (by assumption))])) ⟨rfl, rfl, rfl, rfl, rfl, rfl, trivial⟩
      · have hst0 : ¬ hasI (E 0 6) (nI d) = 1 := fun z => by rw [show hasI (E 0 6) (nI d) = 0 by first | assumption | exact Decidable.not_not.mp hc3] at z; exact absurd z (by decide)
        refine g_aload_8 hX (dk DX11_chance_0 36 rfl) ?_
        refine g_aload_0 hX (dk DX11_chance_0 37 rfl) ?_
        refine g_getRs (r := 1) hX (dk DX11_chance_0 38 rfl) KX11 fX11_12 (by decide) rfl (CLt hH (q := 0) (by decide)) (CC hH 0 (by decide) rfl) (CR hH 0 0 1 (by decide)) ?_
        refine g_getIv hX (dk DX11_chance_0 39 rfl) KX5 fX11_122 (by decide) rfl (CLt hH (q := 1) (by decide)) (CC hH 1 (by decide) rfl) (hY.2.1.1.2.1.trans (inv_wk hE).1) ?_
        refine g_c2I hX (sD_X11_chance_83 _ (by rw [g4]; exact kcl_dc _)) (by decide) (Nat.le_of_ble_eq_true rfl) (rc0 rfl g3 rfl) (by decide) (by decide) (cD_weeksUntil hG g3 (by rw [g4]; exact kcl_dc _) (by exact (hW.2.2.1 d hcd).2.2.2.2.2)) ?_
        refine g_nmI (nI (wu E d (wk E))) (by rw [g7, g8]; exact (wu_fm hE hd (by omega)).1) ?_
        refine g_iload_1 hX (dk DX11_chance_0 41 rfl) ?_
        refine g_icmp_ge (tgt := 112) hX (dk DX11_chance_0 42 rfl) (by decide) (fun hc4 => ?_) (fun hc4 => ?_)
        · refine g_iinc_7 hX (dk DX11_chance_0 56 rfl) (nI_1 d) (by decide) rfl ?_
          refine g_goto (tgt := 31) hX (dk DX11_chance_0 57 rfl) (by decide) ?_
          first
          | exact g_fgt (ih k (by omega) (d + 1) _ _ (by omega) (Nat.mul_le_mul hab ho) hbd.1 hbd.2 (by rw [← hv, hst])) ⟨rfl, rfl, rfl, rfl, rfl, rfl, trivial⟩
          | exact g_fgt (ih k (by omega) (d + 1) _ _ (by omega) hab (ch_up ha) ⟨hb.1, ch_up hb.2⟩ (by rw [← hv, chR_s, if_neg hst0, if_neg (fun z => (show ¬ nI (wu E d (wk E)) < nI m from Int32.not_lt.mpr (by assumption)) ((comIn_e hE hd m (by omega)).mp z))])) ⟨rfl, rfl, rfl, rfl, rfl, rfl, trivial⟩
          | exact g_fgt (ih k (by omega) (d + 1) _ _ (by omega) hab (ch_up ha) ⟨hb.1, ch_up hb.2⟩ (by rw [← hv, chR_s, if_pos ((has_01 _ _).resolve_left (by assumption))])) ⟨rfl, rfl, rfl, rfl, rfl, rfl, trivial⟩
        · have hst : chR E m (k + 1) d a b = chR E m k (d + 1) (a * tN (E 7 d)) (b * 10) := by rw [chR_s, if_neg hst0, if_pos ((comIn_e hE hd m (by omega)).mpr (Int32.not_le.mp hc4))]
          obtain ⟨-, -, -, -, -, o, ho, eo⟩ := inv_d hE hd
          have ht : tN (E 7 d) = o := by rw [eo, tN_nI (by omega)]
          rw [ht] at hst
          have hbd := ch_bd ha hb ho
          refine g_lload_3 hX (dk DX11_chance_0 43 rfl) ?_
          refine g_aload_0 hX (dk DX11_chance_0 44 rfl) ?_
          refine g_getRs (r := 1) hX (dk DX11_chance_0 45 rfl) KX11 fX11_12 (by decide) rfl (CLt hH (q := 0) (by decide)) (CC hH 0 (by decide) rfl) (CR hH 0 0 1 (by decide)) ?_
          refine g_getRs (r := 3) hX (dk DX11_chance_0 46 rfl) KX5 fX11_129 (by decide) rfl (CLt hH (q := 1) (by decide)) (CC hH 1 (by decide) rfl) (CR hH 1 1 3 (by decide)) ?_
          refine g_iload_7 hX (dk DX11_chance_0 47 rfl) ?_
          refine v_iaload hX (dk DX11_chance_0 48 rfl) (CLt hH (q := 3) (by decide)) (CS hH 3 (by decide) rfl) (⟨rfl, hd10, by decide⟩) (hY.2.1.2.1 d hd10) ?_
          refine g_i2l hX (dk DX11_chance_0 49 rfl) ?_
          refine g_lmul hX (dk DX11_chance_0 50 rfl) ?_
          rw [eo, nI_l (by omega), lN_mul]
          refine g_lstore_3 hX (dk DX11_chance_0 51 rfl) (by decide) rfl ?_
          refine g_lload_5 hX (dk DX11_chance_0 52 rfl) ?_
          refine g_ldc2_w (v := 10) hX (dk DX11_chance_0 53 rfl) (tg_4 80 rfl rfl) ?_
          refine g_lmul hX (dk DX11_chance_0 54 rfl) ?_
          rw [show (10 : Int64) = lN 10 from rfl, lN_mul]
          refine g_lstore_5 hX (dk DX11_chance_0 55 rfl) (by decide) rfl ?_
          refine g_iinc_7 hX (dk DX11_chance_0 56 rfl) (nI_1 d) (by decide) rfl ?_
          refine g_goto (tgt := 31) hX (dk DX11_chance_0 57 rfl) (by decide) ?_
          first
          | exact g_fgt (ih k (by omega) (d + 1) _ _ (by omega) (Nat.mul_le_mul hab ho) hbd.1 hbd.2 (by rw [← hv, hst])) ⟨rfl, rfl, rfl, rfl, rfl, rfl, trivial⟩
          | exact g_fgt (ih k (by omega) (d + 1) _ _ (by omega) hab (ch_up ha) ⟨hb.1, ch_up hb.2⟩ (by rw [← hv, chR_s, if_neg hst0, if_neg (fun z => (show ¬ nI (wu E d (wk E)) < nI m from Int32.not_lt.mpr (by assumption)) ((comIn_e hE hd m (by omega)).mp z))])) ⟨rfl, rfl, rfl, rfl, rfl, rfl, trivial⟩
          | exact g_fgt (ih k (by omega) (d + 1) _ _ (by omega) hab (ch_up ha) ⟨hb.1, ch_up hb.2⟩ (by rw [← hv, chR_s, if_pos ((has_01 _ _).resolve_left (by assumption))])) ⟨rfl, rfl, rfl, rfl, rfl, rfl, trivial⟩
  refine g_iload_1 hX (dk DX11_chance_0 0 rfl) ?_
  refine g_iconst (v := 0) hX (dk DX11_chance_0 1 rfl) (by decide) ?_
  refine g_bipush (v := 60) hX (dk DX11_chance_0 2 rfl) (by decide) ?_
  refine g_c3I hX sX11_chance_4 (by decide) (Nat.le_of_ble_eq_true rfl) rcN (by decide) (by decide) (c_X11_isNot hG ) ?_
  refine g_ifb_ne (tgt := 19) hX (dk DX11_chance_0 4 rfl) (by decide) (fun hc1 => ?_) (fun hc1 => ?_)
  · refine g_ldc2_w (v := -9223372036854775808) hX (dk DX11_chance_0 10 rfl) (tg_4 79 rfl rfl) ?_
    refine g_lreturn hX (dk DX11_chance_0 11 rfl) rfl (by decide) (by decide) ?_
    first
    | exact qZL_of (by unfold chanceF; rw [if_pos (by assumption)]; rfl) hZ
    | exact qZL_of (by unfold chanceF; rw [if_neg (show ¬ ¬ (0 ≤ n ∧ n ≤ 60) by assumption), if_pos (by assumption)]; rfl) hZ
  · refine g_iload_2 hX (dk DX11_chance_0 5 rfl) ?_
    refine g_iconst (v := 0) hX (dk DX11_chance_0 6 rfl) (by decide) ?_
    refine g_iconst (v := 1) hX (dk DX11_chance_0 7 rfl) (by decide) ?_
    refine g_c3I hX sX11_chance_13 (by decide) (Nat.le_of_ble_eq_true rfl) rcN (by decide) (by decide) (c_X11_isNot hG ) ?_
    refine g_ifb_eq (tgt := 23) hX (dk DX11_chance_0 9 rfl) (by decide) (fun hc2 => ?_) (fun hc2 => ?_)
    · have hp1 := Decidable.not_not.mp hc2
      have hn1 := Decidable.not_not.mp hc1
      obtain ⟨m, hm60, rfl⟩ := in_of (b := 60) (by decide) hn1
      refine g_lconst (v := 1) hX (dk DX11_chance_0 12 rfl) (by decide) ?_
      refine g_lstore_3 hX (dk DX11_chance_0 13 rfl) (by decide) rfl ?_
      refine g_lconst (v := 1) hX (dk DX11_chance_0 14 rfl) (by decide) ?_
      refine g_lstore_5 hX (dk DX11_chance_0 15 rfl) (by decide) rfl ?_
      refine g_iconst (v := 0) hX (dk DX11_chance_0 16 rfl) (by decide) ?_
      refine g_istore_7 hX (dk DX11_chance_0 17 rfl) (by decide) rfl ?_
      exact g_fgt (loop31 m rfl hm60 hp1 (cnt E) 0 1 1 (Nat.zero_add _) (by decide) (by decide) (by decide) rfl) ⟨rfl, rfl, rfl, rfl, rfl, rfl, trivial⟩
    · refine g_ldc2_w (v := -9223372036854775808) hX (dk DX11_chance_0 10 rfl) (tg_4 79 rfl rfl) ?_
      refine g_lreturn hX (dk DX11_chance_0 11 rfl) rfl (by decide) (by decide) ?_
      first
      | exact qZL_of (by unfold chanceF; rw [if_pos (by assumption)]; rfl) hZ
      | exact qZL_of (by unfold chanceF; rw [if_neg (show ¬ ¬ (0 ≤ n ∧ n ≤ 60) by assumption), if_pos (by assumption)]; rfl) hZ

set_option maxRecDepth 8000 in
set_option maxHeartbeats 4000000 in
theorem zy_taken {G : Gt} (hG : Gok G) {I : It} {h : Ht}  {E : It} {L : Nat → Int64} (hE : Inv E) (hZ : RZ E L I h) {d : Nat} (hd : d < cnt E) {k : Int32} : Con G (4) 0 0 mX11_taken [.ref 0, .int (nI d), .int k] I h (qZ (takenS E (nI d) k) L (hn h)) := by
  refine con_intro (own := RX11) (lo0 := [some (.ref 0), some (.int (nI d)), some (.int k), none]) hG rfl pl_X11 (Nat.le_of_ble_eq_true rfl) rfl (fun X hX => ?_)
  have hY := hZ.1
  have hW := hY.wx hE
  have hH := hW.1
  have hc10 := hW.2.1.2
  have hcE := (inv_cnt hE).2
  have hd10 : d < 10 := Nat.lt_of_lt_of_le hd (inv_cnt hE).2
  have hcd : d < cN I := by rw [hY.cn]; exact hd
  have hDD := isD_mk hE hd
  obtain ⟨g1, g2, g3, g4, g5, g6, g7, g8, g9, g10⟩ := hY.d hd
  refine g_iload_2 hX (dk DX11_taken 0 rfl) ?_
  refine g_iconst (v := 0) hX (dk DX11_taken 1 rfl) (by decide) ?_
  refine g_bipush (v := 6) hX (dk DX11_taken 2 rfl) (by decide) ?_
  refine g_c3I hX sX11_taken_4 (by decide) (Nat.le_of_ble_eq_true rfl) rcN (by decide) (by decide) (c_X11_isNot hG ) ?_
  refine g_ifb_eq (tgt := 13) hX (dk DX11_taken 4 rfl) (by decide) (fun hc1 => ?_) (fun hc1 => ?_)
  · refine g_aload_0 hX (dk DX11_taken 7 rfl) ?_
    refine g_getRs (r := 1) hX (dk DX11_taken 8 rfl) KX11 fX11_12 (by decide) rfl (CLt hH (q := 0) (by decide)) (CC hH 0 (by decide) rfl) (CR hH 0 0 1 (by decide)) ?_
    refine g_iload_1 hX (dk DX11_taken 9 rfl) ?_
    refine g_c2R hX sX11_taken_18 (by decide) (Nat.le_of_ble_eq_true rfl) (rc0 rfl (CLt hH (by decide)) (CC hH 1 (by decide) rfl)) (by decide) (by decide) (c_X5_find hG hW (by exact hcd)) ?_
    refine g_astore_3 hX (dk DX11_taken 11 rfl) (by decide) rfl ?_
    refine g_aload_3 hX (dk DX11_taken 12 rfl) ?_
    refine g_ifnonnull (tgt := 29) hX (dk DX11_taken 13 rfl) (by decide) ?_
    obtain ⟨q, hq, ek⟩ := in_of (b := 6) (by decide) (Decidable.not_not.mp hc1)
    obtain ⟨⟨x, hx, ex⟩, -⟩ := inv_d hE hd
    have htk := tk_e x (by omega) q (by omega)
    rw [← ek, ← ex] at htk
    have htd : tN (nI d) = d := tN_nI (by omega)
    refine g_aload_3 hX (dk DX11_taken 16 rfl) ?_
    refine g_iload_2 hX (dk DX11_taken 17 rfl) ?_
    refine g_c2I hX sX11_taken_31 (by decide) (Nat.le_of_ble_eq_true rfl) rcN (by decide) (by decide) (c_isOfKind hG g3 (by rw [g4]; exact kcl_dc _)) ?_
    refine g_nmI (ikC (kcl (E 1 d)) k) (by rw [g4]) ?_
    refine g_if_eq (tgt := 44) hX (dk DX11_taken 19 rfl) (by decide) (fun hc2 => ?_) (fun hc2 => ?_)
    · refine g_bipush (v := -12) hX (dk DX11_taken 23 rfl) (by decide) ?_
      refine g_ireturn hX (dk DX11_taken 24 rfl) rfl (rfl) (by decide) (by decide) ?_
      first
      | exact qZ_of (by unfold takenS; rw [if_neg (show ¬ ¬ (0 ≤ k ∧ k ≤ 6) by assumption), if_neg (not_not_intro hDD), htd, if_pos (Decidable.not_not.mp (fun z => (show ¬ ikC (kcl (E 1 d)) k = 0 by assumption) (htk.1.mpr z)))]) hZ
      | exact qZ_of (by unfold takenS; rw [if_neg (show ¬ ¬ (0 ≤ k ∧ k ≤ 6) by assumption), if_neg (not_not_intro hDD), htd, if_neg (htk.1.mp (by assumption))]) hZ
    · refine g_aload_3 hX (dk DX11_taken 20 rfl) ?_
      refine g_c1I hX (sD_X11_taken_38 _ (by rw [g4]; exact kcl_dc _)) (by decide) (Nat.le_of_ble_eq_true rfl) (rc0 rfl g3 rfl) (by decide) (by decide) (cD_kind hG g3 (by rw [g4]; exact kcl_dc _)) ?_
      refine g_nmI (E 1 d) (by rw [g4]; exact htk.2) ?_
      refine g_goto (tgt := 46) hX (dk DX11_taken 22 rfl) (by decide) ?_
      refine g_ireturn hX (dk DX11_taken 24 rfl) rfl (rfl) (by decide) (by decide) ?_
      first
      | exact qZ_of (by unfold takenS; rw [if_neg (show ¬ ¬ (0 ≤ k ∧ k ≤ 6) by assumption), if_neg (not_not_intro hDD), htd, if_pos (Decidable.not_not.mp (fun z => (show ¬ ikC (kcl (E 1 d)) k = 0 by assumption) (htk.1.mpr z)))]) hZ
      | exact qZ_of (by unfold takenS; rw [if_neg (show ¬ ¬ (0 ≤ k ∧ k ≤ 6) by assumption), if_neg (not_not_intro hDD), htd, if_neg (htk.1.mp (by assumption))]) hZ
  · refine g_bipush (v := -2) hX (dk DX11_taken 5 rfl) (by decide) ?_
    refine g_ireturn hX (dk DX11_taken 6 rfl) rfl (rfl) (by decide) (by decide) ?_
    exact qZ_of (by unfold takenS; rw [if_pos (by assumption)]) hZ

set_option maxRecDepth 8000 in
set_option maxHeartbeats 4000000 in
theorem zz_taken {G : Gt} (hG : Gok G) {I : It} {h : Ht}  {E : It} {L : Nat → Int64} (hE : Inv E) (hZ : RZ E L I h) {a : Int32} (hno : ¬ isD E a) {k : Int32} : Con G (4) 0 0 mX11_taken [.ref 0, .int a, .int k] I h (qZ (takenS E a k) L (hn h)) := by
  refine con_intro (own := RX11) (lo0 := [some (.ref 0), some (.int a), some (.int k), none]) hG rfl pl_X11 (Nat.le_of_ble_eq_true rfl) rfl (fun X hX => ?_)
  have hY := hZ.1
  have hW := hY.wx hE
  have hH := hW.1
  have hc10 := hW.2.1.2
  have hcE := (inv_cnt hE).2
  refine g_iload_2 hX (dk DX11_taken 0 rfl) ?_
  refine g_iconst (v := 0) hX (dk DX11_taken 1 rfl) (by decide) ?_
  refine g_bipush (v := 6) hX (dk DX11_taken 2 rfl) (by decide) ?_
  refine g_c3I hX sX11_taken_4 (by decide) (Nat.le_of_ble_eq_true rfl) rcN (by decide) (by decide) (c_X11_isNot hG ) ?_
  refine g_ifb_eq (tgt := 13) hX (dk DX11_taken 4 rfl) (by decide) (fun hc1 => ?_) (fun hc1 => ?_)
  · refine g_aload_0 hX (dk DX11_taken 7 rfl) ?_
    refine g_getRs (r := 1) hX (dk DX11_taken 8 rfl) KX11 fX11_12 (by decide) rfl (CLt hH (q := 0) (by decide)) (CC hH 0 (by decide) rfl) (CR hH 0 0 1 (by decide)) ?_
    refine g_iload_1 hX (dk DX11_taken 9 rfl) ?_
    refine g_c2R hX sX11_taken_18 (by decide) (Nat.le_of_ble_eq_true rfl) (rc0 rfl (CLt hH (by decide)) (CC hH 1 (by decide) rfl)) (by decide) (by decide) (c_X5_find0 hG hW (hY.no hE hno)) ?_
    refine g_astoreN_3 hX (dk DX11_taken 11 rfl) (by decide) rfl ?_
    refine g_aloadN_3 hX (dk DX11_taken 12 rfl) ?_
    refine g_ifnonnullN hX (dk DX11_taken 13 rfl) ?_
    refine g_bipush (v := -11) hX (dk DX11_taken 14 rfl) (by decide) ?_
    refine g_ireturn hX (dk DX11_taken 15 rfl) rfl (rfl) (by decide) (by decide) ?_
    exact qZ_of (by unfold takenS; rw [if_neg (show ¬ ¬ (0 ≤ k ∧ k ≤ 6) by assumption), if_pos hno]) hZ
  · refine g_bipush (v := -2) hX (dk DX11_taken 5 rfl) (by decide) ?_
    refine g_ireturn hX (dk DX11_taken 6 rfl) rfl (rfl) (by decide) (by decide) ?_
    exact qZ_of (by unfold takenS; rw [if_pos (by assumption)]) hZ

theorem zx_taken {G : Gt} (hG : Gok G) {I : It} {h : Ht} {E : It} {L : Nat → Int64} (hE : Inv E) (hZ : RZ E L I h) {a : Int32} {k : Int32} : Con G 4 0 0 mX11_taken [.ref 0, .int a, .int k] I h (qZ (takenS E a k) L (hn h)) := by
  by_cases hh : isD E a
  · obtain ⟨d, hd, rfl⟩ := isD_of hE hh
    exact zy_taken hG hE hZ hd (k := k)
  · exact zz_taken hG hE hZ hh (k := k)
set_option maxRecDepth 8000 in
set_option maxHeartbeats 4000000 in
theorem zx_shift {G : Gt} (hG : Gok G) {I : It} {h : Ht}  {E : It} {L : Nat → Int64} (hE : Inv E) (hZ : RZ E L I h) {a e c f n : Int32} : Con G (3) 0 0 mX11_shift [.ref 0, .int a, .int e, .int c, .int f, .int n] I h (qZ (shiftS E a e c f n, E) (shiftL E L a e c f n) (hn h)) := by
  refine con_intro (own := RX11) (lo0 := [some (.ref 0), some (.int a), some (.int e), some (.int c), some (.int f), some (.int n)]) hG rfl pl_X11 (Nat.le_of_ble_eq_true rfl) rfl (fun X hX => ?_)
  have hY := hZ.1
  have hW := hY.wx hE
  have hH := hW.1
  have hc10 := hW.2.1.2
  have hcE := (inv_cnt hE).2
  refine g_iload_1 hX (dk DX11_shift_0 0 rfl) ?_
  refine g_iconst (v := 0) hX (dk DX11_shift_0 1 rfl) (by decide) ?_
  refine g_iconst (v := 5) hX (dk DX11_shift_0 2 rfl) (by decide) ?_
  refine g_c3I hX sX11_shift_3 (by decide) (Nat.le_of_ble_eq_true rfl) rcN (by decide) (by decide) (c_X11_isNot hG ) ?_
  refine g_ifb_ne (tgt := 18) hX (dk DX11_shift_0 4 rfl) (by decide) (fun hc1 => ?_) (fun hc1 => ?_)
  · refine g_iconst (v := -1) hX (dk DX11_shift_0 10 rfl) (by decide) ?_
    refine g_ireturn hX (dk DX11_shift_0 11 rfl) rfl (rfl) (by decide) (by decide) ?_
    exact itz_of (s := (shiftS E a e c f n, shiftL E L a e c f n)) (L' := L) (by unfold shiftS shiftL; first | (rw [if_pos (show ¬ isT a by assumption), if_pos (show ¬ isT a by assumption)]; done) | (rw [if_neg (show ¬ ¬ isT a by assumption), if_neg (show ¬ ¬ isT a by assumption), if_pos (show ¬ isT c by assumption), if_pos (show ¬ isT c by assumption)]; done)) hZ
  · refine g_iload_3 hX (dk DX11_shift_0 5 rfl) ?_
    refine g_iconst (v := 0) hX (dk DX11_shift_0 6 rfl) (by decide) ?_
    refine g_iconst (v := 5) hX (dk DX11_shift_0 7 rfl) (by decide) ?_
    refine g_c3I hX sX11_shift_12 (by decide) (Nat.le_of_ble_eq_true rfl) rcN (by decide) (by decide) (c_X11_isNot hG ) ?_
    refine g_ifb_eq (tgt := 20) hX (dk DX11_shift_0 9 rfl) (by decide) (fun hc2 => ?_) (fun hc2 => ?_)
    · obtain ⟨t, ht5, rfl⟩ := in_of (b := 5) (by decide) (Decidable.not_not.mp hc1)
      have ht : t < 6 := by omega
      have hTt := hY.2.2.2.2.2.2.1 t ht
      obtain ⟨o, ho5, rfl⟩ := in_of (b := 5) (by decide) (Decidable.not_not.mp hc2)
      have ho : o < 6 := by omega
      have hTo := hY.2.2.2.2.2.2.1 o ho
      have ta : isT (nI t) := Decidable.not_not.mp hc1
      have oa : isT (nI o) := Decidable.not_not.mp hc2
      obtain ⟨lt, hlt, elt, -, ht3⟩ := tp_of hE ht
      obtain ⟨l2, hl2, el2, -, ho3⟩ := tp_of hE ho
      have hsp := sh_sp (E := E) (L := L) (e := e) (f := f) (n := n) ht ho ta oa
      refine g_aload_0 hX (dk DX11_shift_0 12 rfl) ?_
      refine g_getRs (r := 34) hX (dk DX11_shift_0 13 rfl) KX11 fX11_47 (by decide) rfl (CLt hH (q := 0) (by decide)) (CC hH 0 (by decide) rfl) (CR hH 0 9 34 (by decide)) ?_
      refine g_iload_1 hX (dk DX11_shift_0 14 rfl) ?_
      refine v_iaload hX (dk DX11_shift_0 15 rfl) (CLt hH (q := 34) (by decide)) (CS hH 34 (by decide) rfl) (⟨rfl, ht, by decide⟩) (hTt.1) ?_
      refine g_iconst (v := -1) hX (dk DX11_shift_0 16 rfl) (by decide) ?_
      refine g_icmp_eq (tgt := 40) hX (dk DX11_shift_0 17 rfl) (by decide) (fun hc3 => ?_) (fun hc3 => ?_)
      · refine g_bipush (v := -11) hX (dk DX11_shift_0 24 rfl) (by decide) ?_
        refine g_ireturn hX (dk DX11_shift_0 25 rfl) rfl (rfl) (by decide) (by decide) ?_
        exact itz_of (s := (shiftS E (nI t) e (nI o) f n, shiftL E L (nI t) e (nI o) f n)) (L' := L) (by first | exact hsp.1 (Or.inl (by first | assumption | exact Decidable.not_not.mp (by assumption))) | exact hsp.1 (Or.inr (by first | assumption | exact Decidable.not_not.mp (by assumption)))) hZ
      · refine g_aload_0 hX (dk DX11_shift_0 18 rfl) ?_
        refine g_getRs (r := 34) hX (dk DX11_shift_0 19 rfl) KX11 fX11_47 (by decide) rfl (CLt hH (q := 0) (by decide)) (CC hH 0 (by decide) rfl) (CR hH 0 9 34 (by decide)) ?_
        refine g_iload_3 hX (dk DX11_shift_0 20 rfl) ?_
        refine v_iaload hX (dk DX11_shift_0 21 rfl) (CLt hH (q := 34) (by decide)) (CS hH 34 (by decide) rfl) (⟨rfl, ho, by decide⟩) (hTo.1) ?_
        refine g_iconst (v := -1) hX (dk DX11_shift_0 22 rfl) (by decide) ?_
        refine g_icmp_ne (tgt := 43) hX (dk DX11_shift_0 23 rfl) (by decide) (fun hc4 => ?_) (fun hc4 => ?_)
        · refine g_aload_0 hX (dk DX11_shift_0 26 rfl) ?_
          refine g_getRs (r := 34) hX (dk DX11_shift_0 27 rfl) KX11 fX11_47 (by decide) rfl (CLt hH (q := 0) (by decide)) (CC hH 0 (by decide) rfl) (CR hH 0 9 34 (by decide)) ?_
          refine g_iload_1 hX (dk DX11_shift_0 28 rfl) ?_
          refine v_iaload hX (dk DX11_shift_0 29 rfl) (CLt hH (q := 34) (by decide)) (CS hH 34 (by decide) rfl) (⟨rfl, ht, by decide⟩) (hTt.1) ?_
          refine g_aload_0 hX (dk DX11_shift_0 30 rfl) ?_
          refine g_getRs (r := 34) hX (dk DX11_shift_0 31 rfl) KX11 fX11_47 (by decide) rfl (CLt hH (q := 0) (by decide)) (CC hH 0 (by decide) rfl) (CR hH 0 9 34 (by decide)) ?_
          refine g_iload_3 hX (dk DX11_shift_0 32 rfl) ?_
          refine v_iaload hX (dk DX11_shift_0 33 rfl) (CLt hH (q := 34) (by decide)) (CS hH 34 (by decide) rfl) (⟨rfl, ho, by decide⟩) (hTo.1) ?_
          refine g_icmp_eq (tgt := 61) hX (dk DX11_shift_0 34 rfl) (by decide) (fun hc5 => ?_) (fun hc5 => ?_)
          · refine g_iload_5 hX (dk DX11_shift_0 37 rfl) ?_
            refine g_if_lt (tgt := 101) hX (dk DX11_shift_0 38 rfl) (by decide) (fun hc6 => ?_) (fun hc6 => ?_)
            · refine g_bipush (v := -13) hX (dk DX11_shift_0 59 rfl) (by decide) ?_
              refine g_ireturn hX (dk DX11_shift_1 0 rfl) rfl (rfl) (by decide) (by decide) ?_
              exact itz_of (s := (shiftS E (nI t) e (nI o) f n, shiftL E L (nI t) e (nI o) f n)) (L' := L) (hsp.2.2.1 (by assumption) (by assumption) ht3 ho3 (by first | assumption | exact Decidable.not_not.mp (by assumption)) (by first | exact Or.inl (by assumption) | exact Or.inr (Or.inl (by assumption)) | exact Or.inr (Or.inr (by assumption)))) hZ
            · refine g_iload_2 hX (dk DX11_shift_0 39 rfl) ?_
              refine g_iconst (v := 0) hX (dk DX11_shift_0 40 rfl) (by decide) ?_
              refine g_aload_0 hX (dk DX11_shift_0 41 rfl) ?_
              refine g_getRs (r := 35) hX (dk DX11_shift_0 42 rfl) KX11 fX11_51 (by decide) rfl (CLt hH (q := 0) (by decide)) (CC hH 0 (by decide) rfl) (CR hH 0 10 35 (by decide)) ?_
              refine g_iload_1 hX (dk DX11_shift_0 43 rfl) ?_
              refine v_iaload hX (dk DX11_shift_0 44 rfl) (CLt hH (q := 35) (by decide)) (CS hH 35 (by decide) rfl) (⟨rfl, ht, by decide⟩) (hTt.2.1) ?_
              refine g_iload_5 hX (dk DX11_shift_0 45 rfl) ?_
              refine g_isub hX (dk DX11_shift_0 46 rfl) ?_
              refine g_c3I hX sX11_shift_77 (by decide) (Nat.le_of_ble_eq_true rfl) rcN (by decide) (by decide) (c_X11_isNot hG ) ?_
              refine g_ifb_ne (tgt := 101) hX (dk DX11_shift_0 48 rfl) (by decide) (fun hc7 => ?_) (fun hc7 => ?_)
              · refine g_bipush (v := -13) hX (dk DX11_shift_0 59 rfl) (by decide) ?_
                refine g_ireturn hX (dk DX11_shift_1 0 rfl) rfl (rfl) (by decide) (by decide) ?_
                exact itz_of (s := (shiftS E (nI t) e (nI o) f n, shiftL E L (nI t) e (nI o) f n)) (L' := L) (hsp.2.2.1 (by assumption) (by assumption) ht3 ho3 (by first | assumption | exact Decidable.not_not.mp (by assumption)) (by first | exact Or.inl (by assumption) | exact Or.inr (Or.inl (by assumption)) | exact Or.inr (Or.inr (by assumption)))) hZ
              · refine g_iload_4 hX (dk DX11_shift_0 49 rfl) ?_
                refine g_iconst (v := 0) hX (dk DX11_shift_0 50 rfl) (by decide) ?_
                refine g_aload_0 hX (dk DX11_shift_0 51 rfl) ?_
                refine g_getRs (r := 35) hX (dk DX11_shift_0 52 rfl) KX11 fX11_51 (by decide) rfl (CLt hH (q := 0) (by decide)) (CC hH 0 (by decide) rfl) (CR hH 0 10 35 (by decide)) ?_
                refine g_iload_3 hX (dk DX11_shift_0 53 rfl) ?_
                refine v_iaload hX (dk DX11_shift_0 54 rfl) (CLt hH (q := 35) (by decide)) (CS hH 35 (by decide) rfl) (⟨rfl, ho, by decide⟩) (hTo.2.1) ?_
                refine g_iload_5 hX (dk DX11_shift_0 55 rfl) ?_
                refine g_isub hX (dk DX11_shift_0 56 rfl) ?_
                refine g_c3I hX sX11_shift_95 (by decide) (Nat.le_of_ble_eq_true rfl) rcN (by decide) (by decide) (c_X11_isNot hG ) ?_
                refine g_ifb_eq (tgt := 104) hX (dk DX11_shift_0 58 rfl) (by decide) (fun hc8 => ?_) (fun hc8 => ?_)
                · obtain ⟨i0, j0, n0, rfl, rfl, rfl, hi0, hj0⟩ := sh_in hlt hl2 elt el2 (show ¬ n < 0 by assumption) (by assumption) (by assumption)
                  refine g_aload_0 hX (dk DX11_shift_1 1 rfl) ?_
                  refine g_getRs (r := 36) hX (dk DX11_shift_1 2 rfl) KX11 fX11_56 (by decide) rfl (CLt hH (q := 0) (by decide)) (CC hH 0 (by decide) rfl) (CR hH 0 11 36 (by decide)) ?_
                  refine g_iload_1 hX (dk DX11_shift_1 3 rfl) ?_
                  refine i_aaload (i0 := 7) hX (dk DX11_shift_1 4 rfl) (CLt hH (q := 36) (by decide)) (CS hH 36 (by decide) rfl) (by decide) rfl rfl (⟨rfl, ht, by decide⟩) (IT_r hH ht) ?_
                  refine g_iload_2 hX (dk DX11_shift_1 5 rfl) ?_
                  refine g_aload_0 hX (dk DX11_shift_1 6 rfl) ?_
                  refine g_getRs (r := 36) hX (dk DX11_shift_1 7 rfl) KX11 fX11_56 (by decide) rfl (CLt hH (q := 0) (by decide)) (CC hH 0 (by decide) rfl) (CR hH 0 11 36 (by decide)) ?_
                  refine g_iload_3 hX (dk DX11_shift_1 8 rfl) ?_
                  refine i_aaload (i0 := 7) hX (dk DX11_shift_1 9 rfl) (CLt hH (q := 36) (by decide)) (CS hH 36 (by decide) rfl) (by decide) rfl rfl (⟨rfl, ho, by decide⟩) (IT_r hH ho) ?_
                  refine g_iload_4 hX (dk DX11_shift_1 10 rfl) ?_
                  refine g_iload_5 hX (dk DX11_shift_1 11 rfl) ?_
                  refine g_copyL (sp := i0) (dp := j0) (m := n0) hX (dk DX11_shift_1 12 rfl) (tg_4 224 rfl rfl) (tg_4 4 rfl rfl) (tg_4 3 rfl rfl) (tg_1 17 rfl rfl) (IT_lt hH ht) (IT_sh hH ht) (IT_lt hH ho) (IT_sh hH ho) (⟨rfl, rfl, rfl⟩) (⟨by omega, by decide⟩) (⟨by omega, by decide⟩) (by decide) (by decide) ?_
                  refine g_iload_5 hX (dk DX11_shift_1 13 rfl) ?_
                  refine g_ireturn hX (dk DX11_shift_1 14 rfl) rfl (rfl) (by decide) (by decide) ?_
                  exact itz_of (s := (shiftS E (nI t) (nI i0) (nI o) (nI j0) (nI n0), shiftL E L (nI t) (nI i0) (nI o) (nI j0) (nI n0))) (hsp.2.2.2 (by assumption) (by assumption) ht3 ho3 (by first | assumption | exact Decidable.not_not.mp (by assumption)) elt el2 hlt hl2 hi0 hj0) (hZ.shift ht ho (by omega) (by omega))
                · refine g_bipush (v := -13) hX (dk DX11_shift_0 59 rfl) (by decide) ?_
                  refine g_ireturn hX (dk DX11_shift_1 0 rfl) rfl (rfl) (by decide) (by decide) ?_
                  exact itz_of (s := (shiftS E (nI t) e (nI o) f n, shiftL E L (nI t) e (nI o) f n)) (L' := L) (hsp.2.2.1 (by assumption) (by assumption) ht3 ho3 (by first | assumption | exact Decidable.not_not.mp (by assumption)) (by first | exact Or.inl (by assumption) | exact Or.inr (Or.inl (by assumption)) | exact Or.inr (Or.inr (by assumption)))) hZ
          · refine g_bipush (v := -12) hX (dk DX11_shift_0 35 rfl) (by decide) ?_
            refine g_ireturn hX (dk DX11_shift_0 36 rfl) rfl (rfl) (by decide) (by decide) ?_
            exact itz_of (s := (shiftS E (nI t) e (nI o) f n, shiftL E L (nI t) e (nI o) f n)) (L' := L) (hsp.2.1 (by assumption) (by assumption) ht3 ho3 (by assumption)) hZ
        · refine g_bipush (v := -11) hX (dk DX11_shift_0 24 rfl) (by decide) ?_
          refine g_ireturn hX (dk DX11_shift_0 25 rfl) rfl (rfl) (by decide) (by decide) ?_
          exact itz_of (s := (shiftS E (nI t) e (nI o) f n, shiftL E L (nI t) e (nI o) f n)) (L' := L) (by first | exact hsp.1 (Or.inl (by first | assumption | exact Decidable.not_not.mp (by assumption))) | exact hsp.1 (Or.inr (by first | assumption | exact Decidable.not_not.mp (by assumption)))) hZ
    · refine g_iconst (v := -1) hX (dk DX11_shift_0 10 rfl) (by decide) ?_
      refine g_ireturn hX (dk DX11_shift_0 11 rfl) rfl (rfl) (by decide) (by decide) ?_
      exact itz_of (s := (shiftS E a e c f n, shiftL E L a e c f n)) (L' := L) (by unfold shiftS shiftL; first | (rw [if_pos (show ¬ isT a by assumption), if_pos (show ¬ isT a by assumption)]; done) | (rw [if_neg (show ¬ ¬ isT a by assumption), if_neg (show ¬ ¬ isT a by assumption), if_pos (show ¬ isT c by assumption), if_pos (show ¬ isT c by assumption)]; done)) hZ

set_option maxRecDepth 8000 in
set_option maxHeartbeats 4000000 in
theorem zx_doing {G : Gt} (hG : Gok G) {I : It} {h : Ht}  {E : It} {L : Nat → Int64} (hE : Inv E) (hZ : RZ E L I h) {k v r p c e : Int32} (hGn : Gnew G (hn h)) : Con G (7) 1 6 mX11_doing [.ref 0, .int k, .int v, .int r, .int p, .int c, .int e] I h (qZ (doingS E k v r p c e) L (hn h + 1)) := by
  refine con_intro (own := RX11) (lo0 := [some (.ref 0), some (.int k), some (.int v), some (.int r), some (.int p), some (.int c), some (.int e)]) hG rfl pl_X11 (Nat.le_of_ble_eq_true rfl) rfl (fun X hX => ?_)
  have hY := hZ.1
  have hW := hY.wx hE
  have hH := hW.1
  have hc10 := hW.2.1.2
  have hcE := (inv_cnt hE).2
  have hN1 : I 1 2 = nI (cnt E) := hY.2.1.1.1.trans (inv_cnt hE).1
  refine g_iload_1 hX (dk DX11_doing 0 rfl) ?_
  refine g_iconst (v := 0) hX (dk DX11_doing 1 rfl) (by decide) ?_
  refine g_bipush (v := 6) hX (dk DX11_doing 2 rfl) (by decide) ?_
  refine g_c3I hX sX11_doing_4 (by decide) (Nat.le_of_ble_eq_true rfl) rcN (by decide) (by decide) (c_X11_isNot hG ) ?_
  refine g_ifb_eq (tgt := 12) hX (dk DX11_doing 4 rfl) (by decide) (fun hc1 => ?_) (fun hc1 => ?_)
  · refine g_iload_2 hX (dk DX11_doing 7 rfl) ?_
    refine g_iconst (v := 0) hX (dk DX11_doing 8 rfl) (by decide) ?_
    refine g_bipush (v := 9) hX (dk DX11_doing 9 rfl) (by decide) ?_
    refine g_c3I hX sX11_doing_16 (by decide) (Nat.le_of_ble_eq_true rfl) rcN (by decide) (by decide) (c_X11_isNot hG ) ?_
    refine g_ifb_ne (tgt := 66) hX (dk DX11_doing 11 rfl) (by decide) (fun hc2 => ?_) (fun hc2 => ?_)
    · refine g_bipush (v := -2) hX (dk DX11_doing 34 rfl) (by decide) ?_
      refine g_ireturn hX (dk DX11_doing 35 rfl) rfl (rfl) (by decide) (by decide) ?_
      first
      | exact qZ_ofN (by unfold doingS; rw [if_neg (show ¬ ¬ (0 ≤ k ∧ k ≤ 6) by assumption), if_pos (show ¬ (0 ≤ v ∧ v ≤ 9) by assumption)]) hZ (Nat.le_succ _)
      | exact qZ_ofN (by unfold doingS; rw [if_neg (show ¬ ¬ (0 ≤ k ∧ k ≤ 6) by assumption), if_neg (show ¬ ¬ (0 ≤ v ∧ v ≤ 9) by assumption), if_pos (show ¬ (1 ≤ r ∧ r ≤ 60) by assumption)]) hZ (Nat.le_succ _)
      | exact qZ_ofN (by unfold doingS; rw [if_neg (show ¬ ¬ (0 ≤ k ∧ k ≤ 6) by assumption), if_neg (show ¬ ¬ (0 ≤ v ∧ v ≤ 9) by assumption), if_neg (show ¬ ¬ (1 ≤ r ∧ r ≤ 60) by assumption), if_pos (show ¬ (0 ≤ p ∧ p ≤ r - 1) by assumption)]) hZ (Nat.le_succ _)
      | exact qZ_ofN (by unfold doingS; rw [if_neg (show ¬ ¬ (0 ≤ k ∧ k ≤ 6) by assumption), if_neg (show ¬ ¬ (0 ≤ v ∧ v ≤ 9) by assumption), if_neg (show ¬ ¬ (1 ≤ r ∧ r ≤ 60) by assumption), if_neg (show ¬ ¬ (0 ≤ p ∧ p ≤ r - 1) by assumption), if_pos (show ¬ (0 ≤ c ∧ c ≤ 99) by assumption)]) hZ (Nat.le_succ _)
      | exact qZ_ofN (by unfold doingS; rw [if_neg (show ¬ ¬ (0 ≤ k ∧ k ≤ 6) by assumption), if_neg (show ¬ ¬ (0 ≤ v ∧ v ≤ 9) by assumption), if_neg (show ¬ ¬ (1 ≤ r ∧ r ≤ 60) by assumption), if_neg (show ¬ ¬ (0 ≤ p ∧ p ≤ r - 1) by assumption), if_neg (show ¬ ¬ (0 ≤ c ∧ c ≤ 99) by assumption), if_pos (show ¬ (0 ≤ e ∧ e ≤ 99) by assumption)]) hZ (Nat.le_succ _)
    · refine g_iload_3 hX (dk DX11_doing 12 rfl) ?_
      refine g_iconst (v := 1) hX (dk DX11_doing 13 rfl) (by decide) ?_
      refine g_bipush (v := 60) hX (dk DX11_doing 14 rfl) (by decide) ?_
      refine g_c3I hX sX11_doing_26 (by decide) (Nat.le_of_ble_eq_true rfl) rcN (by decide) (by decide) (c_X11_isNot hG ) ?_
      refine g_ifb_ne (tgt := 66) hX (dk DX11_doing 16 rfl) (by decide) (fun hc3 => ?_) (fun hc3 => ?_)
      · refine g_bipush (v := -2) hX (dk DX11_doing 34 rfl) (by decide) ?_
        refine g_ireturn hX (dk DX11_doing 35 rfl) rfl (rfl) (by decide) (by decide) ?_
        first
        | exact qZ_ofN (by unfold doingS; rw [if_neg (show ¬ ¬ (0 ≤ k ∧ k ≤ 6) by assumption), if_pos (show ¬ (0 ≤ v ∧ v ≤ 9) by assumption)]) hZ (Nat.le_succ _)
        | exact qZ_ofN (by unfold doingS; rw [if_neg (show ¬ ¬ (0 ≤ k ∧ k ≤ 6) by assumption), if_neg (show ¬ ¬ (0 ≤ v ∧ v ≤ 9) by assumption), if_pos (show ¬ (1 ≤ r ∧ r ≤ 60) by assumption)]) hZ (Nat.le_succ _)
        | exact qZ_ofN (by unfold doingS; rw [if_neg (show ¬ ¬ (0 ≤ k ∧ k ≤ 6) by assumption), if_neg (show ¬ ¬ (0 ≤ v ∧ v ≤ 9) by assumption), if_neg (show ¬ ¬ (1 ≤ r ∧ r ≤ 60) by assumption), if_pos (show ¬ (0 ≤ p ∧ p ≤ r - 1) by assumption)]) hZ (Nat.le_succ _)
        | exact qZ_ofN (by unfold doingS; rw [if_neg (show ¬ ¬ (0 ≤ k ∧ k ≤ 6) by assumption), if_neg (show ¬ ¬ (0 ≤ v ∧ v ≤ 9) by assumption), if_neg (show ¬ ¬ (1 ≤ r ∧ r ≤ 60) by assumption), if_neg (show ¬ ¬ (0 ≤ p ∧ p ≤ r - 1) by assumption), if_pos (show ¬ (0 ≤ c ∧ c ≤ 99) by assumption)]) hZ (Nat.le_succ _)
        | exact qZ_ofN (by unfold doingS; rw [if_neg (show ¬ ¬ (0 ≤ k ∧ k ≤ 6) by assumption), if_neg (show ¬ ¬ (0 ≤ v ∧ v ≤ 9) by assumption), if_neg (show ¬ ¬ (1 ≤ r ∧ r ≤ 60) by assumption), if_neg (show ¬ ¬ (0 ≤ p ∧ p ≤ r - 1) by assumption), if_neg (show ¬ ¬ (0 ≤ c ∧ c ≤ 99) by assumption), if_pos (show ¬ (0 ≤ e ∧ e ≤ 99) by assumption)]) hZ (Nat.le_succ _)
      · refine g_iload_4 hX (dk DX11_doing 17 rfl) ?_
        refine g_iconst (v := 0) hX (dk DX11_doing 18 rfl) (by decide) ?_
        refine g_iload_3 hX (dk DX11_doing 19 rfl) ?_
        refine g_iconst (v := 1) hX (dk DX11_doing 20 rfl) (by decide) ?_
        refine g_isub hX (dk DX11_doing 21 rfl) ?_
        refine g_c3I hX sX11_doing_38 (by decide) (Nat.le_of_ble_eq_true rfl) rcN (by decide) (by decide) (c_X11_isNot hG ) ?_
        refine g_ifb_ne (tgt := 66) hX (dk DX11_doing 23 rfl) (by decide) (fun hc4 => ?_) (fun hc4 => ?_)
        · refine g_bipush (v := -2) hX (dk DX11_doing 34 rfl) (by decide) ?_
          refine g_ireturn hX (dk DX11_doing 35 rfl) rfl (rfl) (by decide) (by decide) ?_
          first
          | exact qZ_ofN (by unfold doingS; rw [if_neg (show ¬ ¬ (0 ≤ k ∧ k ≤ 6) by assumption), if_pos (show ¬ (0 ≤ v ∧ v ≤ 9) by assumption)]) hZ (Nat.le_succ _)
          | exact qZ_ofN (by unfold doingS; rw [if_neg (show ¬ ¬ (0 ≤ k ∧ k ≤ 6) by assumption), if_neg (show ¬ ¬ (0 ≤ v ∧ v ≤ 9) by assumption), if_pos (show ¬ (1 ≤ r ∧ r ≤ 60) by assumption)]) hZ (Nat.le_succ _)
          | exact qZ_ofN (by unfold doingS; rw [if_neg (show ¬ ¬ (0 ≤ k ∧ k ≤ 6) by assumption), if_neg (show ¬ ¬ (0 ≤ v ∧ v ≤ 9) by assumption), if_neg (show ¬ ¬ (1 ≤ r ∧ r ≤ 60) by assumption), if_pos (show ¬ (0 ≤ p ∧ p ≤ r - 1) by assumption)]) hZ (Nat.le_succ _)
          | exact qZ_ofN (by unfold doingS; rw [if_neg (show ¬ ¬ (0 ≤ k ∧ k ≤ 6) by assumption), if_neg (show ¬ ¬ (0 ≤ v ∧ v ≤ 9) by assumption), if_neg (show ¬ ¬ (1 ≤ r ∧ r ≤ 60) by assumption), if_neg (show ¬ ¬ (0 ≤ p ∧ p ≤ r - 1) by assumption), if_pos (show ¬ (0 ≤ c ∧ c ≤ 99) by assumption)]) hZ (Nat.le_succ _)
          | exact qZ_ofN (by unfold doingS; rw [if_neg (show ¬ ¬ (0 ≤ k ∧ k ≤ 6) by assumption), if_neg (show ¬ ¬ (0 ≤ v ∧ v ≤ 9) by assumption), if_neg (show ¬ ¬ (1 ≤ r ∧ r ≤ 60) by assumption), if_neg (show ¬ ¬ (0 ≤ p ∧ p ≤ r - 1) by assumption), if_neg (show ¬ ¬ (0 ≤ c ∧ c ≤ 99) by assumption), if_pos (show ¬ (0 ≤ e ∧ e ≤ 99) by assumption)]) hZ (Nat.le_succ _)
        · refine g_iload_5 hX (dk DX11_doing 24 rfl) ?_
          refine g_iconst (v := 0) hX (dk DX11_doing 25 rfl) (by decide) ?_
          refine g_bipush (v := 99) hX (dk DX11_doing 26 rfl) (by decide) ?_
          refine g_c3I hX sX11_doing_49 (by decide) (Nat.le_of_ble_eq_true rfl) rcN (by decide) (by decide) (c_X11_isNot hG ) ?_
          refine g_ifb_ne (tgt := 66) hX (dk DX11_doing 28 rfl) (by decide) (fun hc5 => ?_) (fun hc5 => ?_)
          · refine g_bipush (v := -2) hX (dk DX11_doing 34 rfl) (by decide) ?_
            refine g_ireturn hX (dk DX11_doing 35 rfl) rfl (rfl) (by decide) (by decide) ?_
            first
            | exact qZ_ofN (by unfold doingS; rw [if_neg (show ¬ ¬ (0 ≤ k ∧ k ≤ 6) by assumption), if_pos (show ¬ (0 ≤ v ∧ v ≤ 9) by assumption)]) hZ (Nat.le_succ _)
            | exact qZ_ofN (by unfold doingS; rw [if_neg (show ¬ ¬ (0 ≤ k ∧ k ≤ 6) by assumption), if_neg (show ¬ ¬ (0 ≤ v ∧ v ≤ 9) by assumption), if_pos (show ¬ (1 ≤ r ∧ r ≤ 60) by assumption)]) hZ (Nat.le_succ _)
            | exact qZ_ofN (by unfold doingS; rw [if_neg (show ¬ ¬ (0 ≤ k ∧ k ≤ 6) by assumption), if_neg (show ¬ ¬ (0 ≤ v ∧ v ≤ 9) by assumption), if_neg (show ¬ ¬ (1 ≤ r ∧ r ≤ 60) by assumption), if_pos (show ¬ (0 ≤ p ∧ p ≤ r - 1) by assumption)]) hZ (Nat.le_succ _)
            | exact qZ_ofN (by unfold doingS; rw [if_neg (show ¬ ¬ (0 ≤ k ∧ k ≤ 6) by assumption), if_neg (show ¬ ¬ (0 ≤ v ∧ v ≤ 9) by assumption), if_neg (show ¬ ¬ (1 ≤ r ∧ r ≤ 60) by assumption), if_neg (show ¬ ¬ (0 ≤ p ∧ p ≤ r - 1) by assumption), if_pos (show ¬ (0 ≤ c ∧ c ≤ 99) by assumption)]) hZ (Nat.le_succ _)
            | exact qZ_ofN (by unfold doingS; rw [if_neg (show ¬ ¬ (0 ≤ k ∧ k ≤ 6) by assumption), if_neg (show ¬ ¬ (0 ≤ v ∧ v ≤ 9) by assumption), if_neg (show ¬ ¬ (1 ≤ r ∧ r ≤ 60) by assumption), if_neg (show ¬ ¬ (0 ≤ p ∧ p ≤ r - 1) by assumption), if_neg (show ¬ ¬ (0 ≤ c ∧ c ≤ 99) by assumption), if_pos (show ¬ (0 ≤ e ∧ e ≤ 99) by assumption)]) hZ (Nat.le_succ _)
          · refine g_iload_6 hX (dk DX11_doing 29 rfl) ?_
            refine g_iconst (v := 0) hX (dk DX11_doing 30 rfl) (by decide) ?_
            refine g_bipush (v := 99) hX (dk DX11_doing 31 rfl) (by decide) ?_
            refine g_c3I hX sX11_doing_60 (by decide) (Nat.le_of_ble_eq_true rfl) rcN (by decide) (by decide) (c_X11_isNot hG ) ?_
            refine g_ifb_eq (tgt := 69) hX (dk DX11_doing 33 rfl) (by decide) (fun hc6 => ?_) (fun hc6 => ?_)
            · refine g_aload_0 hX (dk DX11_doing 36 rfl) ?_
              refine g_getRs (r := 1) hX (dk DX11_doing 37 rfl) KX11 fX11_12 (by decide) rfl (CLt hH (q := 0) (by decide)) (CC hH 0 (by decide) rfl) (CR hH 0 0 1 (by decide)) ?_
              refine g_getIv hX (dk DX11_doing 38 rfl) KX5 fX11_72 (by decide) rfl (CLt hH (q := 1) (by decide)) (CC hH 1 (by decide) rfl) (hN1) ?_
              refine g_bipush (v := 10) hX (dk DX11_doing 39 rfl) (by decide) ?_
              refine g_icmp_lt (tgt := 84) hX (dk DX11_doing 40 rfl) (by decide) (fun hc7 => ?_) (fun hc7 => ?_)
              · have hlt10 := lt_nI (b := 10) (by have := (inv_cnt hE).2; omega) (by decide) hc7
                have hr1 : 1 ≤ r := (Decidable.not_not.mp (show ¬ ¬ (1 ≤ r ∧ r ≤ 60) by assumption)).1
                refine g_aload_0 hX (dk DX11_doing 43 rfl) ?_
                refine g_getRs (r := 1) hX (dk DX11_doing 44 rfl) KX11 fX11_12 (by decide) rfl (CLt hH (q := 0) (by decide)) (CC hH 0 (by decide) rfl) (CR hH 0 0 1 (by decide)) ?_
                refine g_iload_1 hX (dk DX11_doing 45 rfl) ?_
                refine g_aload_0 hX (dk DX11_doing 46 rfl) ?_
                refine g_getRs (r := 1) hX (dk DX11_doing 47 rfl) KX11 fX11_12 (by decide) rfl (CLt hH (q := 0) (by decide)) (CC hH 0 (by decide) rfl) (CR hH 0 0 1 (by decide)) ?_
                refine g_getIv hX (dk DX11_doing 48 rfl) KX5 fX11_72 (by decide) rfl (CLt hH (q := 1) (by decide)) (CC hH 1 (by decide) rfl) (hN1) ?_
                refine g_iload_2 hX (dk DX11_doing 49 rfl) ?_
                refine g_iload_3 hX (dk DX11_doing 50 rfl) ?_
                refine g_iload_4 hX (dk DX11_doing 51 rfl) ?_
                refine g_iload_5 hX (dk DX11_doing 52 rfl) ?_
                refine g_iload_6 hX (dk DX11_doing 53 rfl) ?_
                refine g_c7 hX sX11_doing_104 (by decide) (Nat.le_of_ble_eq_true rfl) rcN (by decide) (by decide) (c_X11_made hG hGn) (fun r I2 h2 hq => ?_)
                obtain ⟨rfl, rfl, rfl⟩ := hq
                have hHx := hH
                have hH := HX.zA (c := kcl k) (a1 := 0) hH
                refine g_c2q hX sX11_doing_107 (by decide) (Nat.le_of_ble_eq_true rfl) (rc0 rfl (CLt hH (by decide)) (CC hH 1 (by decide) rfl)) (by decide) (by decide) (c_X5_add hG hH (n := cnt E) ((congrFun (dI_1 hHx.1) 2).trans hN1) hlt10 (Nat.lt_succ_self _) (by show isDC (if hn h = hn h then (kcl k, 0) else hs h (hn h)).1; rw [if_pos rfl]; exact kcl_dc k)) ?_
                rintro x I2 h2 ⟨rfl, rfl, rfl⟩
                refine g_ireturn hX (dk DX11_doing 56 rfl) rfl (rfl) (by decide) (by decide) ?_
                exact qZ_ofN (E' := doE E k v r p c e) (by unfold doingS; rw [if_neg (show ¬ ¬ (0 ≤ k ∧ k ≤ 6) by assumption), if_neg (show ¬ ¬ (0 ≤ v ∧ v ≤ 9) by assumption), if_neg (show ¬ ¬ (1 ≤ r ∧ r ≤ 60) by assumption), if_neg (show ¬ ¬ (0 ≤ p ∧ p ≤ r - 1) by assumption), if_neg (show ¬ ¬ (0 ≤ c ∧ c ≤ 99) by assumption), if_neg (show ¬ ¬ (0 ≤ e ∧ e ≤ 99) by assumption), if_neg (by rw [(inv_cnt hE).1]; exact fun z => absurd ((nI_eq (b := 10) (by omega) (by decide)).mp z) (by omega))]; exact congrArg (fun z => (z, _)) (inv_cnt hE).1) (RZ_doing hE hZ hlt10 hr1) (Nat.le_refl _)
              · refine g_bipush (v := -4) hX (dk DX11_doing 41 rfl) (by decide) ?_
                refine g_ireturn hX (dk DX11_doing 42 rfl) rfl (rfl) (by decide) (by decide) ?_
                exact qZ_ofN (by unfold doingS; rw [if_neg (show ¬ ¬ (0 ≤ k ∧ k ≤ 6) by assumption), if_neg (show ¬ ¬ (0 ≤ v ∧ v ≤ 9) by assumption), if_neg (show ¬ ¬ (1 ≤ r ∧ r ≤ 60) by assumption), if_neg (show ¬ ¬ (0 ≤ p ∧ p ≤ r - 1) by assumption), if_neg (show ¬ ¬ (0 ≤ c ∧ c ≤ 99) by assumption), if_neg (show ¬ ¬ (0 ≤ e ∧ e ≤ 99) by assumption), if_pos (by rw [(inv_cnt hE).1]; exact c10_n (inv_cnt hE).2 (by assumption))]) hZ (Nat.le_succ _)
            · refine g_bipush (v := -2) hX (dk DX11_doing 34 rfl) (by decide) ?_
              refine g_ireturn hX (dk DX11_doing 35 rfl) rfl (rfl) (by decide) (by decide) ?_
              first
              | exact qZ_ofN (by unfold doingS; rw [if_neg (show ¬ ¬ (0 ≤ k ∧ k ≤ 6) by assumption), if_pos (show ¬ (0 ≤ v ∧ v ≤ 9) by assumption)]) hZ (Nat.le_succ _)
              | exact qZ_ofN (by unfold doingS; rw [if_neg (show ¬ ¬ (0 ≤ k ∧ k ≤ 6) by assumption), if_neg (show ¬ ¬ (0 ≤ v ∧ v ≤ 9) by assumption), if_pos (show ¬ (1 ≤ r ∧ r ≤ 60) by assumption)]) hZ (Nat.le_succ _)
              | exact qZ_ofN (by unfold doingS; rw [if_neg (show ¬ ¬ (0 ≤ k ∧ k ≤ 6) by assumption), if_neg (show ¬ ¬ (0 ≤ v ∧ v ≤ 9) by assumption), if_neg (show ¬ ¬ (1 ≤ r ∧ r ≤ 60) by assumption), if_pos (show ¬ (0 ≤ p ∧ p ≤ r - 1) by assumption)]) hZ (Nat.le_succ _)
              | exact qZ_ofN (by unfold doingS; rw [if_neg (show ¬ ¬ (0 ≤ k ∧ k ≤ 6) by assumption), if_neg (show ¬ ¬ (0 ≤ v ∧ v ≤ 9) by assumption), if_neg (show ¬ ¬ (1 ≤ r ∧ r ≤ 60) by assumption), if_neg (show ¬ ¬ (0 ≤ p ∧ p ≤ r - 1) by assumption), if_pos (show ¬ (0 ≤ c ∧ c ≤ 99) by assumption)]) hZ (Nat.le_succ _)
              | exact qZ_ofN (by unfold doingS; rw [if_neg (show ¬ ¬ (0 ≤ k ∧ k ≤ 6) by assumption), if_neg (show ¬ ¬ (0 ≤ v ∧ v ≤ 9) by assumption), if_neg (show ¬ ¬ (1 ≤ r ∧ r ≤ 60) by assumption), if_neg (show ¬ ¬ (0 ≤ p ∧ p ≤ r - 1) by assumption), if_neg (show ¬ ¬ (0 ≤ c ∧ c ≤ 99) by assumption), if_pos (show ¬ (0 ≤ e ∧ e ≤ 99) by assumption)]) hZ (Nat.le_succ _)
  · refine g_iconst (v := -1) hX (dk DX11_doing 5 rfl) (by decide) ?_
    refine g_ireturn hX (dk DX11_doing 6 rfl) rfl (rfl) (by decide) (by decide) ?_
    exact qZ_ofN (by unfold doingS; rw [if_pos (by assumption)]) hZ (Nat.le_succ _)
end
section
set_option maxRecDepth 8000 in
set_option maxHeartbeats 4000000 in
theorem zy_learn {G : Gt} (hG : Gok G) {I : It} {h : Ht}  {E : It} {L : Nat → Int64} (hE : Inv E) (hZ : RZ E L I h) {d : Nat} (hd : d < cnt E) {z : Int32} : Con G (3) 0 0 mX11_learn [.ref 0, .int (nI d), .int z] I h (qZ (learnS E (nI d) z) L (hn h)) := by
  refine con_intro (own := RX11) (lo0 := [some (.ref 0), some (.int (nI d)), some (.int z), none]) hG rfl pl_X11 (Nat.le_of_ble_eq_true rfl) rfl (fun X hX => ?_)
  have hY := hZ.1
  have hW := hY.wx hE
  have hH := hW.1
  have hc10 := hW.2.1.2
  have hcE := (inv_cnt hE).2
  have hd10 : d < 10 := Nat.lt_of_lt_of_le hd (inv_cnt hE).2
  have hcd : d < cN I := by rw [hY.cn]; exact hd
  have hDD := isD_mk hE hd
  obtain ⟨g1, g2, g3, g4, g5, g6, g7, g8, g9, g10⟩ := hY.d hd
  refine g_aload_0 hX (dk DX11_learn 0 rfl) ?_
  refine g_getRs (r := 1) hX (dk DX11_learn 1 rfl) KX11 fX11_12 (by decide) rfl (CLt hH (q := 0) (by decide)) (CC hH 0 (by decide) rfl) (CR hH 0 0 1 (by decide)) ?_
  refine g_iload_1 hX (dk DX11_learn 2 rfl) ?_
  refine g_c2R hX sX11_learn_5 (by decide) (Nat.le_of_ble_eq_true rfl) (rc0 rfl (CLt hH (by decide)) (CC hH 1 (by decide) rfl)) (by decide) (by decide) (c_X5_find hG hW (by exact hcd)) ?_
  refine g_ifnonnull (tgt := 13) hX (dk DX11_learn 4 rfl) (by decide) ?_
  refine g_aload_0 hX (dk DX11_learn 7 rfl) ?_
  refine g_getRs (r := 1) hX (dk DX11_learn 8 rfl) KX11 fX11_12 (by decide) rfl (CLt hH (q := 0) (by decide)) (CC hH 0 (by decide) rfl) (CR hH 0 0 1 (by decide)) ?_
  refine g_getIv hX (dk DX11_learn 9 rfl) KX5 fX11_116 (by decide) rfl (CLt hH (q := 1) (by decide)) (CC hH 1 (by decide) rfl) (hZ.2.1.1) ?_
  refine g_iload_1 hX (dk DX11_learn 10 rfl) ?_
  refine g_c2I hX sX11_learn_21 (by decide) (Nat.le_of_ble_eq_true rfl) rcN (by decide) (by decide) (c_X11_bit hG ) ?_
  refine g_istore_3 hX (dk DX11_learn 12 rfl) (by decide) rfl ?_
  refine g_aload_0 hX (dk DX11_learn 13 rfl) ?_
  refine g_getRs (r := 1) hX (dk DX11_learn 14 rfl) KX11 fX11_12 (by decide) rfl (CLt hH (q := 0) (by decide)) (CC hH 0 (by decide) rfl) (CR hH 0 0 1 (by decide)) ?_
  refine g_aload_0 hX (dk DX11_learn 15 rfl) ?_
  refine g_getRs (r := 1) hX (dk DX11_learn 16 rfl) KX11 fX11_12 (by decide) rfl (CLt hH (q := 0) (by decide)) (CC hH 0 (by decide) rfl) (CR hH 0 0 1 (by decide)) ?_
  refine g_getIv hX (dk DX11_learn 17 rfl) KX5 fX11_116 (by decide) rfl (CLt hH (q := 1) (by decide)) (CC hH 1 (by decide) rfl) (hZ.2.1.1) ?_
  refine g_iload_1 hX (dk DX11_learn 18 rfl) ?_
  refine g_iload_2 hX (dk DX11_learn 19 rfl) ?_
  refine g_c3I hX sX11_learn_38 (by decide) (Nat.le_of_ble_eq_true rfl) rcN (by decide) (by decide) (c_X11_withBit hG ) ?_
  refine g_putI hX (dk DX11_learn 21 rfl) KX5 fX11_116 (by decide) rfl (CLt hH (q := 1) (by decide)) (CC hH 1 (by decide) rfl) (Or.inl rfl) (rfl) (rfl) ?_
  refine g_iload_3 hX (dk DX11_learn 22 rfl) ?_
  refine g_ireturn hX (dk DX11_learn 23 rfl) rfl (rfl) (by decide) (by decide) ?_
  exact qZ_of (learn_z hDD) (by exact hZ.wK)

set_option maxRecDepth 8000 in
set_option maxHeartbeats 4000000 in
theorem zz_learn {G : Gt} (hG : Gok G) {I : It} {h : Ht}  {E : It} {L : Nat → Int64} (hE : Inv E) (hZ : RZ E L I h) {a : Int32} (hno : ¬ isD E a) {z : Int32} : Con G (3) 0 0 mX11_learn [.ref 0, .int a, .int z] I h (qZ (learnS E a z) L (hn h)) := by
  refine con_intro (own := RX11) (lo0 := [some (.ref 0), some (.int a), some (.int z), none]) hG rfl pl_X11 (Nat.le_of_ble_eq_true rfl) rfl (fun X hX => ?_)
  have hY := hZ.1
  have hW := hY.wx hE
  have hH := hW.1
  have hc10 := hW.2.1.2
  have hcE := (inv_cnt hE).2
  refine g_aload_0 hX (dk DX11_learn 0 rfl) ?_
  refine g_getRs (r := 1) hX (dk DX11_learn 1 rfl) KX11 fX11_12 (by decide) rfl (CLt hH (q := 0) (by decide)) (CC hH 0 (by decide) rfl) (CR hH 0 0 1 (by decide)) ?_
  refine g_iload_1 hX (dk DX11_learn 2 rfl) ?_
  refine g_c2R hX sX11_learn_5 (by decide) (Nat.le_of_ble_eq_true rfl) (rc0 rfl (CLt hH (by decide)) (CC hH 1 (by decide) rfl)) (by decide) (by decide) (c_X5_find0 hG hW (hY.no hE hno)) ?_
  refine g_ifnonnullN hX (dk DX11_learn 4 rfl) ?_
  refine g_iconst (v := -1) hX (dk DX11_learn 5 rfl) (by decide) ?_
  refine g_ireturn hX (dk DX11_learn 6 rfl) rfl (rfl) (by decide) (by decide) ?_
  exact qZ_of (by unfold learnS; rw [if_pos hno]) hZ

theorem zx_learn {G : Gt} (hG : Gok G) {I : It} {h : Ht} {E : It} {L : Nat → Int64} (hE : Inv E) (hZ : RZ E L I h) {a : Int32} {z : Int32} : Con G 3 0 0 mX11_learn [.ref 0, .int a, .int z] I h (qZ (learnS E a z) L (hn h)) := by
  by_cases hh : isD E a
  · obtain ⟨d, hd, rfl⟩ := isD_of hE hh
    exact zy_learn hG hE hZ hd (z := z)
  · exact zz_learn hG hE hZ hh (z := z)
set_option maxRecDepth 8000 in
set_option maxHeartbeats 4000000 in
theorem zx_told {G : Gt} (hG : Gok G) {I : It} {h : Ht}  {E : It} {L : Nat → Int64} (hE : Inv E) (hZ : RZ E L I h) {w : Int32} : Con G (3) 0 0 mX11_told [.ref 0, .int w] I h (qZ (toldS E w) L (hn h)) := by
  refine con_intro (own := RX11) (lo0 := [some (.ref 0), some (.int w)]) hG rfl pl_X11 (Nat.le_of_ble_eq_true rfl) rfl (fun X hX => ?_)
  have hY := hZ.1
  have hW := hY.wx hE
  have hH := hW.1
  have hc10 := hW.2.1.2
  have hcE := (inv_cnt hE).2
  refine g_iload_1 hX (dk DX11_told 0 rfl) ?_
  refine g_tswitch (dt := 88) hX [(0, 40), (1, 48), (2, 56), (3, 64), (4, 72), (5, 80)] (dk DX11_told 1 rfl) (by decide +kernel) ?_
  refine ⟨fun hc1 => ?_, fun hc1n => ?_⟩
  · show GG _ _ _ _ _ _ _ _ _ _ _ _ _
    refine g_aload_0 hX (dk DX11_told 2 rfl) ?_
    refine g_getRs (r := 1) hX (dk DX11_told 3 rfl) KX11 fX11_12 (by decide) rfl (CLt hH (q := 0) (by decide)) (CC hH 0 (by decide) rfl) (CR hH 0 0 1 (by decide)) ?_
    refine g_c1I hX sX11_told_44 (by decide) (Nat.le_of_ble_eq_true rfl) (rc0 rfl (CLt hH (by decide)) (CC hH 1 (by decide) rfl)) (by decide) (by decide) (c_X5_callsAtFirst hG hW) ?_
    refine g_nmI (callF E) (ca_e hE hZ).1 ?_
    refine g_ireturn hX (dk DX11_told 5 rfl) rfl (rfl) (by decide) (by decide) ?_
    exact qZ_of (by unfold toldS; rw [if_neg (fun z => absurd z.1 (by rw [show w = 0 by assumption]; decide))]; (try first | rw [if_pos hc1] | rw [if_neg hc1] | rw [if_neg (not_not_intro hc1)]); first | done | rfl) hZ
  refine ⟨fun hc2 => ?_, fun hc2n => ?_⟩
  · show GG _ _ _ _ _ _ _ _ _ _ _ _ _
    refine g_aload_0 hX (dk DX11_told 6 rfl) ?_
    refine g_getRs (r := 1) hX (dk DX11_told 7 rfl) KX11 fX11_12 (by decide) rfl (CLt hH (q := 0) (by decide)) (CC hH 0 (by decide) rfl) (CR hH 0 0 1 (by decide)) ?_
    refine g_c1I hX sX11_told_52 (by decide) (Nat.le_of_ble_eq_true rfl) (rc0 rfl (CLt hH (by decide)) (CC hH 1 (by decide) rfl)) (by decide) (by decide) (c_X5_callsFading hG hW) ?_
    refine g_nmI (fadeF E) (ca_e hE hZ).2 ?_
    refine g_ireturn hX (dk DX11_told 9 rfl) rfl (rfl) (by decide) (by decide) ?_
    exact qZ_of (by unfold toldS; rw [if_neg (fun z => absurd z.1 (by rw [show w = 1 by assumption]; decide))]; (try first | rw [if_pos hc1n] | rw [if_neg hc1n] | rw [if_neg (not_not_intro hc1n)]); (try first | rw [if_pos hc2] | rw [if_neg hc2] | rw [if_neg (not_not_intro hc2)]); first | done | rfl) hZ
  refine ⟨fun hc3 => ?_, fun hc3n => ?_⟩
  · show GG _ _ _ _ _ _ _ _ _ _ _ _ _
    refine g_aload_0 hX (dk DX11_told 10 rfl) ?_
    refine g_getRs (r := 1) hX (dk DX11_told 11 rfl) KX11 fX11_12 (by decide) rfl (CLt hH (q := 0) (by decide)) (CC hH 0 (by decide) rfl) (CR hH 0 0 1 (by decide)) ?_
    refine g_getIv hX (dk DX11_told 12 rfl) KX5 fX11_122 (by decide) rfl (CLt hH (q := 1) (by decide)) (CC hH 1 (by decide) rfl) (hY.2.1.1.2.1) ?_
    refine g_ireturn hX (dk DX11_told 13 rfl) rfl (rfl) (by decide) (by decide) ?_
    exact qZ_of (by unfold toldS; rw [if_neg (fun z => absurd z.1 (by rw [show w = 2 by assumption]; decide))]; (try first | rw [if_pos hc1n] | rw [if_neg hc1n] | rw [if_neg (not_not_intro hc1n)]); (try first | rw [if_pos hc2n] | rw [if_neg hc2n] | rw [if_neg (not_not_intro hc2n)]); (try first | rw [if_pos hc3] | rw [if_neg hc3] | rw [if_neg (not_not_intro hc3)]); first | done | rfl) hZ
  refine ⟨fun hc4 => ?_, fun hc4n => ?_⟩
  · show GG _ _ _ _ _ _ _ _ _ _ _ _ _
    refine g_aload_0 hX (dk DX11_told 14 rfl) ?_
    refine g_getRs (r := 1) hX (dk DX11_told 15 rfl) KX11 fX11_12 (by decide) rfl (CLt hH (q := 0) (by decide)) (CC hH 0 (by decide) rfl) (CR hH 0 0 1 (by decide)) ?_
    refine g_getIv hX (dk DX11_told 16 rfl) KX5 fX11_162 (by decide) rfl (CLt hH (q := 1) (by decide)) (CC hH 1 (by decide) rfl) (hZ.2.1.2.1) ?_
    refine g_ireturn hX (dk DX11_told 17 rfl) rfl (rfl) (by decide) (by decide) ?_
    exact qZ_of (by unfold toldS; rw [if_neg (fun z => absurd z.1 (by rw [show w = 3 by assumption]; decide))]; (try first | rw [if_pos hc1n] | rw [if_neg hc1n] | rw [if_neg (not_not_intro hc1n)]); (try first | rw [if_pos hc2n] | rw [if_neg hc2n] | rw [if_neg (not_not_intro hc2n)]); (try first | rw [if_pos hc3n] | rw [if_neg hc3n] | rw [if_neg (not_not_intro hc3n)]); (try first | rw [if_pos hc4] | rw [if_neg hc4] | rw [if_neg (not_not_intro hc4)]); first | done | rfl) hZ
  refine ⟨fun hc5 => ?_, fun hc5n => ?_⟩
  · show GG _ _ _ _ _ _ _ _ _ _ _ _ _
    refine g_aload_0 hX (dk DX11_told 18 rfl) ?_
    refine g_getRs (r := 1) hX (dk DX11_told 19 rfl) KX11 fX11_12 (by decide) rfl (CLt hH (q := 0) (by decide)) (CC hH 0 (by decide) rfl) (CR hH 0 0 1 (by decide)) ?_
    refine g_getIv hX (dk DX11_told 20 rfl) KX5 fX11_165 (by decide) rfl (CLt hH (q := 1) (by decide)) (CC hH 1 (by decide) rfl) (hZ.2.1.2.2.1) ?_
    refine g_ireturn hX (dk DX11_told 21 rfl) rfl (rfl) (by decide) (by decide) ?_
    exact qZ_of (by unfold toldS; rw [if_neg (fun z => absurd z.1 (by rw [show w = 4 by assumption]; decide))]; (try first | rw [if_pos hc1n] | rw [if_neg hc1n] | rw [if_neg (not_not_intro hc1n)]); (try first | rw [if_pos hc2n] | rw [if_neg hc2n] | rw [if_neg (not_not_intro hc2n)]); (try first | rw [if_pos hc3n] | rw [if_neg hc3n] | rw [if_neg (not_not_intro hc3n)]); (try first | rw [if_pos hc4n] | rw [if_neg hc4n] | rw [if_neg (not_not_intro hc4n)]); (try first | rw [if_pos hc5] | rw [if_neg hc5] | rw [if_neg (not_not_intro hc5)]); first | done | rfl) hZ
  refine ⟨fun hc6 => ?_, fun hc6n => ?_⟩
  · show GG _ _ _ _ _ _ _ _ _ _ _ _ _
    refine g_aload_0 hX (dk DX11_told 22 rfl) ?_
    refine g_getRs (r := 1) hX (dk DX11_told 23 rfl) KX11 fX11_12 (by decide) rfl (CLt hH (q := 0) (by decide)) (CC hH 0 (by decide) rfl) (CR hH 0 0 1 (by decide)) ?_
    refine g_getIv hX (dk DX11_told 24 rfl) KX5 fX11_168 (by decide) rfl (CLt hH (q := 1) (by decide)) (CC hH 1 (by decide) rfl) (hZ.2.1.2.2.2) ?_
    refine g_ireturn hX (dk DX11_told 25 rfl) rfl (rfl) (by decide) (by decide) ?_
    exact qZ_of (by unfold toldS; rw [if_neg (fun z => absurd z.1 (by rw [show w = 5 by assumption]; decide))]; (try first | rw [if_pos hc1n] | rw [if_neg hc1n] | rw [if_neg (not_not_intro hc1n)]); (try first | rw [if_pos hc2n] | rw [if_neg hc2n] | rw [if_neg (not_not_intro hc2n)]); (try first | rw [if_pos hc3n] | rw [if_neg hc3n] | rw [if_neg (not_not_intro hc3n)]); (try first | rw [if_pos hc4n] | rw [if_neg hc4n] | rw [if_neg (not_not_intro hc4n)]); (try first | rw [if_pos hc5n] | rw [if_neg hc5n] | rw [if_neg (not_not_intro hc5n)]); (try first | rw [if_pos hc6] | rw [if_neg hc6] | rw [if_neg (not_not_intro hc6)]); first | done | rfl) hZ
  show GG _ _ _ _ _ _ _ _ _ _ _ _ _
  refine g_iload_1 hX (dk DX11_told 26 rfl) ?_
  refine g_bipush (v := 10) hX (dk DX11_told 27 rfl) (by decide) ?_
  refine g_bipush (v := 13) hX (dk DX11_told 28 rfl) (by decide) ?_
  refine g_c3I hX sX11_told_93 (by decide) (Nat.le_of_ble_eq_true rfl) rcN (by decide) (by decide) (c_X11_isNot hG ) ?_
  refine g_ifb_eq (tgt := 103) hX (dk DX11_told 30 rfl) (by decide) (fun hc8 => ?_) (fun hc8 => ?_)
  · have hw := Decidable.not_not.mp hc8
    obtain ⟨y, hy1, hy2, rfl⟩ := in1_of (c := 10) (b := 13) (by decide) (by decide) hw
    refine g_aload_0 hX (dk DX11_told 33 rfl) ?_
    refine g_getRs (r := 1) hX (dk DX11_told 34 rfl) KX11 fX11_12 (by decide) rfl (CLt hH (q := 0) (by decide)) (CC hH 0 (by decide) rfl) (CR hH 0 0 1 (by decide)) ?_
    refine g_getRs (r := 4) hX (dk DX11_told 35 rfl) KX5 fX11_139 (by decide) rfl (CLt hH (q := 1) (by decide)) (CC hH 1 (by decide) rfl) (CR hH 1 5 4 (by decide)) ?_
    refine g_iload_1 hX (dk DX11_told 36 rfl) ?_
    refine g_bipush (v := 10) hX (dk DX11_told 37 rfl) (by decide) ?_
    refine g_isub hX (dk DX11_told 38 rfl) ?_
    refine g_nmI (nI (y - 10)) (pk_sub (a := y) (b := 10) hy1) ?_
    refine v_iaload hX (dk DX11_told 39 rfl) (CLt hH (q := 4) (by decide)) (CS hH 4 (by decide) rfl) (⟨rfl, by omega, by decide⟩) (hY.2.1.2.2.1 (y - 10) (by omega)) ?_
    refine g_ireturn hX (dk DX11_told 40 rfl) rfl (rfl) (by decide) (by decide) ?_
    first
    | exact qZ_of (by unfold toldS; rw [if_pos hw, show nI y - 10 = nI (y - 10) from pk_sub (a := y) (b := 10) hy1, tN_nI (by omega)]) hZ
    | exact qZ_of (by unfold toldS; (try first | rw [if_pos hc1n] | rw [if_neg hc1n] | rw [if_neg (not_not_intro hc1n)]); (try first | rw [if_pos hc2n] | rw [if_neg hc2n] | rw [if_neg (not_not_intro hc2n)]); (try first | rw [if_pos hc3n] | rw [if_neg hc3n] | rw [if_neg (not_not_intro hc3n)]); (try first | rw [if_pos hc4n] | rw [if_neg hc4n] | rw [if_neg (not_not_intro hc4n)]); (try first | rw [if_pos hc5n] | rw [if_neg hc5n] | rw [if_neg (not_not_intro hc5n)]); (try first | rw [if_pos hc6n] | rw [if_neg hc6n] | rw [if_neg (not_not_intro hc6n)]); (try first | rw [if_pos hc8] | rw [if_neg hc8] | rw [if_neg (not_not_intro hc8)]); first | done | rfl) hZ
  · refine g_iconst (v := -1) hX (dk DX11_told 31 rfl) (by decide) ?_
    refine g_goto (tgt := 115) hX (dk DX11_told 32 rfl) (by decide) ?_
    refine g_ireturn hX (dk DX11_told 40 rfl) rfl (rfl) (by decide) (by decide) ?_
    first
    | exact qZ_of (by unfold toldS; rw [if_pos hw, show nI y - 10 = nI (y - 10) from pk_sub (a := y) (b := 10) hy1, tN_nI (by omega)]) hZ
    | exact qZ_of (by unfold toldS; (try first | rw [if_pos hc1n] | rw [if_neg hc1n] | rw [if_neg (not_not_intro hc1n)]); (try first | rw [if_pos hc2n] | rw [if_neg hc2n] | rw [if_neg (not_not_intro hc2n)]); (try first | rw [if_pos hc3n] | rw [if_neg hc3n] | rw [if_neg (not_not_intro hc3n)]); (try first | rw [if_pos hc4n] | rw [if_neg hc4n] | rw [if_neg (not_not_intro hc4n)]); (try first | rw [if_pos hc5n] | rw [if_neg hc5n] | rw [if_neg (not_not_intro hc5n)]); (try first | rw [if_pos hc6n] | rw [if_neg hc6n] | rw [if_neg (not_not_intro hc6n)]); (try first | rw [if_pos hc8] | rw [if_neg hc8] | rw [if_neg (not_not_intro hc8)]); first | done | rfl) hZ

set_option maxRecDepth 8000 in
set_option maxHeartbeats 4000000 in
theorem zy_said {G : Gt} (hG : Gok G) {I : It} {h : Ht}  {E : It} {L : Nat → Int64} (hE : Inv E) (hZ : RZ E L I h) {d : Nat} (hd : d < cnt E) {y : Int32} : Con G (6) 0 0 mX11_said [.ref 0, .int (nI d), .int y] I h (qZ (saidS E (nI d) y) L (hn h)) := by
  refine con_intro (own := RX11) (lo0 := [some (.ref 0), some (.int (nI d)), some (.int y), none]) hG rfl pl_X11 (Nat.le_of_ble_eq_true rfl) rfl (fun X hX => ?_)
  have hY := hZ.1
  have hW := hY.wx hE
  have hH := hW.1
  have hc10 := hW.2.1.2
  have hcE := (inv_cnt hE).2
  have hd10 : d < 10 := Nat.lt_of_lt_of_le hd (inv_cnt hE).2
  have hcd : d < cN I := by rw [hY.cn]; exact hd
  have hDD := isD_mk hE hd
  obtain ⟨g1, g2, g3, g4, g5, g6, g7, g8, g9, g10⟩ := hY.d hd
  refine g_aload_0 hX (dk DX11_said 0 rfl) ?_
  refine g_getRs (r := 1) hX (dk DX11_said 1 rfl) KX11 fX11_12 (by decide) rfl (CLt hH (q := 0) (by decide)) (CC hH 0 (by decide) rfl) (CR hH 0 0 1 (by decide)) ?_
  refine g_iload_1 hX (dk DX11_said 2 rfl) ?_
  refine g_c2R hX sX11_said_5 (by decide) (Nat.le_of_ble_eq_true rfl) (rc0 rfl (CLt hH (by decide)) (CC hH 1 (by decide) rfl)) (by decide) (by decide) (c_X5_find hG hW (by exact hcd)) ?_
  refine g_astore_3 hX (dk DX11_said 4 rfl) (by decide) rfl ?_
  refine g_aload_3 hX (dk DX11_said 5 rfl) ?_
  refine g_ifnullR hX (dk DX11_said 6 rfl) ?_
  refine g_iload_2 hX (dk DX11_said 7 rfl) ?_
  refine g_iconst (v := 0) hX (dk DX11_said 8 rfl) (by decide) ?_
  refine g_iconst (v := 3) hX (dk DX11_said 9 rfl) (by decide) ?_
  refine g_c3I hX sX11_said_16 (by decide) (Nat.le_of_ble_eq_true rfl) rcN (by decide) (by decide) (c_X11_isNot hG ) ?_
  refine g_ifb_eq (tgt := 24) hX (dk DX11_said 11 rfl) (by decide) (fun hc1 => ?_) (fun hc1 => ?_)
  · refine g_aload_0 hX (dk DX11_said 14 rfl) ?_
    refine g_getRs (r := 1) hX (dk DX11_said 15 rfl) KX11 fX11_12 (by decide) rfl (CLt hH (q := 0) (by decide)) (CC hH 0 (by decide) rfl) (CR hH 0 0 1 (by decide)) ?_
    refine g_aload_3 hX (dk DX11_said 16 rfl) ?_
    refine g_iload_2 hX (dk DX11_said 17 rfl) ?_
    refine g_c3I hX sX11_said_30 (by decide) (Nat.le_of_ble_eq_true rfl) (rc0 rfl (CLt hH (by decide)) (CC hH 1 (by decide) rfl)) (by decide) (by decide) (c_X5_saidBy hG hW g3 (by rw [g4]; exact kcl_dc _)) ?_
    refine g_nmI (sayF E d y) (say_e hE hZ hd) ?_
    refine g_ireturn hX (dk DX11_said 19 rfl) rfl (rfl) (by decide) (by decide) ?_
    exact qZ_of (by unfold saidS; rw [if_neg (not_not_intro hDD)]; (try rw [tN_nI (by omega)]); (try first | rw [if_pos hc1] | rw [if_neg hc1] | rw [if_neg (not_not_intro hc1)]); first | done | rfl) hZ
  · refine g_iconst (v := -1) hX (dk DX11_said 12 rfl) (by decide) ?_
    refine g_ireturn hX (dk DX11_said 13 rfl) rfl (rfl) (by decide) (by decide) ?_
    exact qZ_of (by unfold saidS; rw [if_neg (not_not_intro hDD)]; (try rw [tN_nI (by omega)]); (try first | rw [if_pos hc1] | rw [if_neg hc1] | rw [if_neg (not_not_intro hc1)]); first | done | rfl) hZ

set_option maxRecDepth 8000 in
set_option maxHeartbeats 4000000 in
theorem zz_said {G : Gt} (hG : Gok G) {I : It} {h : Ht}  {E : It} {L : Nat → Int64} (hE : Inv E) (hZ : RZ E L I h) {a : Int32} (hno : ¬ isD E a) {y : Int32} : Con G (6) 0 0 mX11_said [.ref 0, .int a, .int y] I h (qZ (saidS E a y) L (hn h)) := by
  refine con_intro (own := RX11) (lo0 := [some (.ref 0), some (.int a), some (.int y), none]) hG rfl pl_X11 (Nat.le_of_ble_eq_true rfl) rfl (fun X hX => ?_)
  have hY := hZ.1
  have hW := hY.wx hE
  have hH := hW.1
  have hc10 := hW.2.1.2
  have hcE := (inv_cnt hE).2
  refine g_aload_0 hX (dk DX11_said 0 rfl) ?_
  refine g_getRs (r := 1) hX (dk DX11_said 1 rfl) KX11 fX11_12 (by decide) rfl (CLt hH (q := 0) (by decide)) (CC hH 0 (by decide) rfl) (CR hH 0 0 1 (by decide)) ?_
  refine g_iload_1 hX (dk DX11_said 2 rfl) ?_
  refine g_c2R hX sX11_said_5 (by decide) (Nat.le_of_ble_eq_true rfl) (rc0 rfl (CLt hH (by decide)) (CC hH 1 (by decide) rfl)) (by decide) (by decide) (c_X5_find0 hG hW (hY.no hE hno)) ?_
  refine g_astoreN_3 hX (dk DX11_said 4 rfl) (by decide) rfl ?_
  refine g_aloadN_3 hX (dk DX11_said 5 rfl) ?_
  refine g_ifnull (tgt := 22) hX (dk DX11_said 6 rfl) (by decide) ?_
  refine g_iconst (v := -1) hX (dk DX11_said 12 rfl) (by decide) ?_
  refine g_ireturn hX (dk DX11_said 13 rfl) rfl (rfl) (by decide) (by decide) ?_
  exact qZ_of (by unfold saidS; rw [if_pos hno]) hZ

theorem zx_said {G : Gt} (hG : Gok G) {I : It} {h : Ht} {E : It} {L : Nat → Int64} (hE : Inv E) (hZ : RZ E L I h) {a : Int32} {y : Int32} : Con G 6 0 0 mX11_said [.ref 0, .int a, .int y] I h (qZ (saidS E a y) L (hn h)) := by
  by_cases hh : isD E a
  · obtain ⟨d, hd, rfl⟩ := isD_of hE hh
    exact zy_said hG hE hZ hd (y := y)
  · exact zz_said hG hE hZ hh (y := y)
set_option maxRecDepth 8000 in
set_option maxHeartbeats 4000000 in
theorem zx_feed {G : Gt} (hG : Gok G) {I : It} {h : Ht}  {E : It} {L : Nat → Int64} (hE : Inv E) (hZ : RZ E L I h) {s : Int32} : Con G (2) 0 0 mX11_feed [.ref 0, .int s] I h (qZ (feedS E s) L (hn h)) := by
  refine con_intro (own := RX11) (lo0 := [some (.ref 0), some (.int s)]) hG rfl pl_X11 (Nat.le_of_ble_eq_true rfl) rfl (fun X hX => ?_)
  have hY := hZ.1
  have hW := hY.wx hE
  have hH := hW.1
  have hc10 := hW.2.1.2
  have hcE := (inv_cnt hE).2
  refine g_iload_1 hX (dk DX11_feed 0 rfl) ?_
  refine g_iconst (v := 0) hX (dk DX11_feed 1 rfl) (by decide) ?_
  refine g_bipush (v := 127) hX (dk DX11_feed 2 rfl) (by decide) ?_
  refine g_c3I hX sX11_feed_4 (by decide) (Nat.le_of_ble_eq_true rfl) rcN (by decide) (by decide) (c_X11_isNot hG ) ?_
  refine g_ifb_eq (tgt := 13) hX (dk DX11_feed 4 rfl) (by decide) (fun hc1 => ?_) (fun hc1 => ?_)
  · obtain ⟨q, hq, rfl⟩ := in_of (b := 127) (by decide) (Decidable.not_not.mp hc1)
    refine g_aload_0 hX (dk DX11_feed 7 rfl) ?_
    refine g_getI hX (dk DX11_feed 8 rfl) KX11 fX11_142 (by decide) rfl (CLt hH (q := 0) (by decide)) (CC hH 0 (by decide) rfl) ?_
    refine g_aload_0 hX (dk DX11_feed 9 rfl) ?_
    refine g_getRs (r := 31) hX (dk DX11_feed 10 rfl) KX11 fX11_36 (by decide) rfl (CLt hH (q := 0) (by decide)) (CC hH 0 (by decide) rfl) (CR hH 0 6 31 (by decide)) ?_
    refine g_alen (v := 100) hX (dk DX11_feed 11 rfl) (CLt hH (q := 31) (by decide)) (CS hH 31 (by decide) rfl) (by decide) (i0 := 2) rfl (by decide) ?_
    refine g_icmp_lt (tgt := 28) hX (dk DX11_feed 12 rfl) (by decide) (fun hc2 => ?_) (fun hc2 => ?_)
    · obtain ⟨sg, hsg, esg⟩ := hY.2.2.2.2.2.2.2.2
      obtain ⟨eE, ef⟩ := fed_s hZ esg hsg
      have hlt := hc2
      rw [esg] at hlt
      have hs1 := lt_nI (b := 100) (by omega) (by decide) hlt
      refine g_aload_0 hX (dk DX11_feed 15 rfl) ?_
      refine g_getRs (r := 31) hX (dk DX11_feed 16 rfl) KX11 fX11_36 (by decide) rfl (CLt hH (q := 0) (by decide)) (CC hH 0 (by decide) rfl) (CR hH 0 6 31 (by decide)) ?_
      refine g_aload_0 hX (dk DX11_feed 17 rfl) ?_
      refine g_getIv hX (dk DX11_feed 18 rfl) KX11 fX11_142 (by decide) rfl (CLt hH (q := 0) (by decide)) (CC hH 0 (by decide) rfl) (esg) ?_
      refine g_iload_1 hX (dk DX11_feed 19 rfl) ?_
      refine g_i2b hX (dk DX11_feed 20 rfl) ?_
      refine i_bastore hX (dk DX11_feed 21 rfl) (CLt hH (q := 31) (by decide)) (CS hH 31 (by decide) rfl) (⟨rfl, hs1, by decide⟩) ?_
      refine g_aload_0 hX (dk DX11_feed 22 rfl) ?_
      refine g_dup hX (dk DX11_feed 23 rfl) rfl ?_
      refine g_getIv hX (dk DX11_feed 24 rfl) KX11 fX11_142 (by decide) rfl (CLt hH (q := 0) (by decide)) (CC hH 0 (by decide) rfl) ((show I 0 7 = nI sg from esg)) ?_
      refine g_iconst (v := 1) hX (dk DX11_feed 25 rfl) (by decide) ?_
      refine g_iadd hX (dk DX11_feed 26 rfl) ?_
      refine g_nmI (nI (sg + 1)) (nI_1 sg) ?_
      refine g_putI hX (dk DX11_feed 27 rfl) KX11 fX11_142 (by decide) rfl (CLt hH (q := 0) (by decide)) (CC hH 0 (by decide) rfl) (Or.inl rfl) (rfl) (rfl) ?_
      refine g_aload_0 hX (dk DX11_feed 28 rfl) ?_
      refine g_getIv hX (dk DX11_feed 29 rfl) KX11 fX11_142 (by decide) rfl (CLt hH (q := 0) (by decide)) (CC hH 0 (by decide) rfl) (up0 _ _ _ _) ?_
      refine g_ireturn hX (dk DX11_feed 30 rfl) rfl (rfl) (by decide) (by decide) ?_
      exact qZ_of (E' := upI (upI E 9 (tN (E 0 17)) (nI q)) 0 17 (E 0 17 + 1)) (by unfold feedS; (try first | rw [if_pos hc1] | rw [if_neg hc1] | rw [if_neg (not_not_intro hc1)]); (try first | rw [if_pos hc2] | rw [if_neg hc2] | rw [if_neg (not_not_intro hc2)]); rw [if_neg (by rw [eE]; intro z; exact absurd ((nI_eq (b := 100) (by omega) (by decide)).mp z) (by omega)), eE, nI_1]) (by rw [nb_127 q hq]; exact hZ.feed hs1 esg)
    · obtain ⟨sg, hsg, esg⟩ := hY.2.2.2.2.2.2.2.2
      obtain ⟨eE, ef⟩ := fed_s hZ esg hsg
      have hge := hc2
      refine g_bipush (v := -4) hX (dk DX11_feed 13 rfl) (by decide) ?_
      refine g_ireturn hX (dk DX11_feed 14 rfl) rfl (rfl) (by decide) (by decide) ?_
      exact qZ_of (by unfold feedS; (try first | rw [if_pos hc1] | rw [if_neg hc1] | rw [if_neg (not_not_intro hc1)]); (try first | rw [if_pos hc2] | rw [if_neg hc2] | rw [if_neg (not_not_intro hc2)]); rw [if_pos (by rw [eE]; rw [esg] at hge; have := (nI_leI (a := 100) (b := sg) (by decide) (by omega)).mp (Int32.not_lt.mp hge); rw [show sg = 100 by omega]; rfl)]) hZ
  · refine g_bipush (v := -2) hX (dk DX11_feed 5 rfl) (by decide) ?_
    refine g_ireturn hX (dk DX11_feed 6 rfl) rfl (rfl) (by decide) (by decide) ?_
    exact qZ_of (by unfold feedS; (try first | rw [if_pos hc1] | rw [if_neg hc1] | rw [if_neg (not_not_intro hc1)]); first | done | rfl) hZ

set_option maxRecDepth 8000 in
set_option maxHeartbeats 4000000 in
theorem zx_count {G : Gt} (hG : Gok G) {I : It} {h : Ht}  {E : It} {L : Nat → Int64} (hE : Inv E) (hZ : RZ E L I h) {w : Int32} : Con G (2) 0 0 mX11_count [.ref 0, .int w] I h (qZ (countS E w) L (hn h)) := by
  refine con_intro (own := RX11) (lo0 := [some (.ref 0), some (.int w)]) hG rfl pl_X11 (Nat.le_of_ble_eq_true rfl) rfl (fun X hX => ?_)
  have hY := hZ.1
  have hW := hY.wx hE
  have hH := hW.1
  have hc10 := hW.2.1.2
  have hcE := (inv_cnt hE).2
  refine g_iload_1 hX (dk DX11_count 0 rfl) ?_
  refine g_tswitch (dt := 85) hX [(0, 40), (1, 48), (2, 53), (3, 61), (4, 66), (5, 74)] (dk DX11_count 1 rfl) (by decide +kernel) ?_
  refine ⟨fun hc1 => ?_, fun hc1n => ?_⟩
  · show GG _ _ _ _ _ _ _ _ _ _ _ _ _
    refine g_aload_0 hX (dk DX11_count 2 rfl) ?_
    refine g_getRs (r := 1) hX (dk DX11_count 3 rfl) KX11 fX11_12 (by decide) rfl (CLt hH (q := 0) (by decide)) (CC hH 0 (by decide) rfl) (CR hH 0 0 1 (by decide)) ?_
    refine g_getIv hX (dk DX11_count 4 rfl) KX5 fX11_72 (by decide) rfl (CLt hH (q := 1) (by decide)) (CC hH 1 (by decide) rfl) (hY.2.1.1.1) ?_
    refine g_ireturn hX (dk DX11_count 5 rfl) rfl (rfl) (by decide) (by decide) ?_
    exact qZ_of (by unfold countS; (try first | rw [if_pos hc1] | rw [if_neg hc1] | rw [if_neg (not_not_intro hc1)]); first | done | rfl) hZ
  refine ⟨fun hc2 => ?_, fun hc2n => ?_⟩
  · show GG _ _ _ _ _ _ _ _ _ _ _ _ _
    refine g_aload_0 hX (dk DX11_count 6 rfl) ?_
    refine g_getIv hX (dk DX11_count 7 rfl) KX11 fX11_145 (by decide) rfl (CLt hH (q := 0) (by decide)) (CC hH 0 (by decide) rfl) (hZ.2.2.2.2.1.1) ?_
    refine g_ireturn hX (dk DX11_count 8 rfl) rfl (rfl) (by decide) (by decide) ?_
    exact qZ_of (by unfold countS; (try first | rw [if_pos hc1n] | rw [if_neg hc1n] | rw [if_neg (not_not_intro hc1n)]); (try first | rw [if_pos hc2] | rw [if_neg hc2] | rw [if_neg (not_not_intro hc2)]); first | done | rfl) hZ
  refine ⟨fun hc3 => ?_, fun hc3n => ?_⟩
  · show GG _ _ _ _ _ _ _ _ _ _ _ _ _
    refine g_aload_0 hX (dk DX11_count 9 rfl) ?_
    refine g_getRs (r := 1) hX (dk DX11_count 10 rfl) KX11 fX11_12 (by decide) rfl (CLt hH (q := 0) (by decide)) (CC hH 0 (by decide) rfl) (CR hH 0 0 1 (by decide)) ?_
    refine g_getIv hX (dk DX11_count 11 rfl) KX5 fX11_231 (by decide) rfl (CLt hH (q := 1) (by decide)) (CC hH 1 (by decide) rfl) (hY.2.1.1.2.2.2) ?_
    refine g_ireturn hX (dk DX11_count 12 rfl) rfl (rfl) (by decide) (by decide) ?_
    exact qZ_of (by unfold countS; (try first | rw [if_pos hc1n] | rw [if_neg hc1n] | rw [if_neg (not_not_intro hc1n)]); (try first | rw [if_pos hc2n] | rw [if_neg hc2n] | rw [if_neg (not_not_intro hc2n)]); (try first | rw [if_pos hc3] | rw [if_neg hc3] | rw [if_neg (not_not_intro hc3)]); first | done | rfl) hZ
  refine ⟨fun hc4 => ?_, fun hc4n => ?_⟩
  · show GG _ _ _ _ _ _ _ _ _ _ _ _ _
    refine g_aload_0 hX (dk DX11_count 13 rfl) ?_
    refine g_getIv hX (dk DX11_count 14 rfl) KX11 fX11_142 (by decide) rfl (CLt hH (q := 0) (by decide)) (CC hH 0 (by decide) rfl) (hZ.2.2.2.2.2.1) ?_
    refine g_ireturn hX (dk DX11_count 15 rfl) rfl (rfl) (by decide) (by decide) ?_
    exact qZ_of (by unfold countS; (try first | rw [if_pos hc1n] | rw [if_neg hc1n] | rw [if_neg (not_not_intro hc1n)]); (try first | rw [if_pos hc2n] | rw [if_neg hc2n] | rw [if_neg (not_not_intro hc2n)]); (try first | rw [if_pos hc3n] | rw [if_neg hc3n] | rw [if_neg (not_not_intro hc3n)]); (try first | rw [if_pos hc4] | rw [if_neg hc4] | rw [if_neg (not_not_intro hc4)]); first | done | rfl) hZ
  refine ⟨fun hc5 => ?_, fun hc5n => ?_⟩
  · show GG _ _ _ _ _ _ _ _ _ _ _ _ _
    refine g_aload_0 hX (dk DX11_count 16 rfl) ?_
    refine g_getRs (r := 32) hX (dk DX11_count 17 rfl) KX11 fX11_43 (by decide) rfl (CLt hH (q := 0) (by decide)) (CC hH 0 (by decide) rfl) (CR hH 0 8 32 (by decide)) ?_
    refine g_getIv hX (dk DX11_count 18 rfl) KX7 fX11_258 (by decide) rfl (CLt hH (q := 32) (by decide)) (CC hH 32 (by decide) rfl) (hY.2.2.2.2.2.1.1) ?_
    refine g_ireturn hX (dk DX11_count 19 rfl) rfl (rfl) (by decide) (by decide) ?_
    exact qZ_of (by unfold countS; (try first | rw [if_pos hc1n] | rw [if_neg hc1n] | rw [if_neg (not_not_intro hc1n)]); (try first | rw [if_pos hc2n] | rw [if_neg hc2n] | rw [if_neg (not_not_intro hc2n)]); (try first | rw [if_pos hc3n] | rw [if_neg hc3n] | rw [if_neg (not_not_intro hc3n)]); (try first | rw [if_pos hc4n] | rw [if_neg hc4n] | rw [if_neg (not_not_intro hc4n)]); (try first | rw [if_pos hc5] | rw [if_neg hc5] | rw [if_neg (not_not_intro hc5)]); first | done | rfl) hZ
  refine ⟨fun hc6 => ?_, fun hc6n => ?_⟩
  · show GG _ _ _ _ _ _ _ _ _ _ _ _ _
    refine g_aload_0 hX (dk DX11_count 20 rfl) ?_
    refine g_getRs (r := 1) hX (dk DX11_count 21 rfl) KX11 fX11_12 (by decide) rfl (CLt hH (q := 0) (by decide)) (CC hH 0 (by decide) rfl) (CR hH 0 0 1 (by decide)) ?_
    refine g_getIv hX (dk DX11_count 22 rfl) KX5 fX11_116 (by decide) rfl (CLt hH (q := 1) (by decide)) (CC hH 1 (by decide) rfl) (hZ.2.1.1) ?_
    refine g_c1q hX sX11_count_81 (by decide) (Nat.le_of_ble_eq_true rfl) rcN (by decide) (by decide) (c_J6_bitCount_0f7a4 hG) ?_
    rintro y9 I9 h9 ⟨hy, rfl, rfl⟩
    obtain ⟨m9, hm9, em9⟩ := kb_lt (inv_kn hE) hcE
    refine g_nmI (onesI (E 0 5)) (by rw [hy m9 hm9 em9]; unfold onesI; rw [em9, tN_nI (by omega)]) ?_
    refine g_ireturn hX (dk DX11_count 24 rfl) rfl (rfl) (by decide) (by decide) ?_
    exact qZ_of (by unfold countS; (try first | rw [if_pos hc1n] | rw [if_neg hc1n] | rw [if_neg (not_not_intro hc1n)]); (try first | rw [if_pos hc2n] | rw [if_neg hc2n] | rw [if_neg (not_not_intro hc2n)]); (try first | rw [if_pos hc3n] | rw [if_neg hc3n] | rw [if_neg (not_not_intro hc3n)]); (try first | rw [if_pos hc4n] | rw [if_neg hc4n] | rw [if_neg (not_not_intro hc4n)]); (try first | rw [if_pos hc5n] | rw [if_neg hc5n] | rw [if_neg (not_not_intro hc5n)]); (try first | rw [if_pos hc6] | rw [if_neg hc6] | rw [if_neg (not_not_intro hc6)]); first | done | rfl) hZ
  show GG _ _ _ _ _ _ _ _ _ _ _ _ _
  refine g_bipush (v := -2) hX (dk DX11_count 25 rfl) (by decide) ?_
  refine g_ireturn hX (dk DX11_count 26 rfl) rfl (rfl) (by decide) (by decide) ?_
  exact qZ_of (by unfold countS; (try first | rw [if_pos hc1n] | rw [if_neg hc1n] | rw [if_neg (not_not_intro hc1n)]); (try first | rw [if_pos hc2n] | rw [if_neg hc2n] | rw [if_neg (not_not_intro hc2n)]); (try first | rw [if_pos hc3n] | rw [if_neg hc3n] | rw [if_neg (not_not_intro hc3n)]); (try first | rw [if_pos hc4n] | rw [if_neg hc4n] | rw [if_neg (not_not_intro hc4n)]); (try first | rw [if_pos hc5n] | rw [if_neg hc5n] | rw [if_neg (not_not_intro hc5n)]); (try first | rw [if_pos hc6n] | rw [if_neg hc6n] | rw [if_neg (not_not_intro hc6n)]); first | done | rfl) hZ
end
