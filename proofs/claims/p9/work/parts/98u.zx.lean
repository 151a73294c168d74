set_option maxRecDepth 8000 in
set_option maxHeartbeats 4000000 in
theorem zy_needless {G : Gt} (hG : Gok G) {I : It} {h : Ht}  {E : It} {L : Nat → Int64} (hE : Inv E) (hZ : RZ E L I h) {d : Nat} (hd : d < cnt E) {z : Int32} : Con G (3) 0 0 mX11_needless [.ref 0, .int (nI d), .int z] I h (qZ (needlessS E (nI d) z) L (hn h)) := by
  refine con_intro (own := RX11) (lo0 := [some (.ref 0), some (.int (nI d)), some (.int z), none]) hG rfl pl_X11 (Nat.le_of_ble_eq_true rfl) rfl (fun X hX => ?_)
  have hY := hZ.1
  have hW := hY.wx hE
  have hH := hW.1
  have hc10 := hW.2.1.2
  have hcE := (inv_cnt hE).2
  have hd10 : d < 10 := Nat.lt_of_lt_of_le hd (inv_cnt hE).2
  have hcd : d < cN I := by rw [hY.cn]; exact hd
  have hDD := isD_mk hE hd
  obtain ⟨g1, g2, g3, g4, g5, g6, g7, g8, g9, g10⟩ := hY.d hd
  refine g_aload_0 hX (dk DX11_needless 0 rfl) ?_
  refine g_getRs (r := 1) hX (dk DX11_needless 1 rfl) KX11 fX11_12 (by decide) rfl (CLt hH (q := 0) (by decide)) (CC hH 0 (by decide) rfl) (CR hH 0 0 1 (by decide)) ?_
  refine g_iload_1 hX (dk DX11_needless 2 rfl) ?_
  refine g_c2R hX sX11_needless_5 (by decide) (Nat.le_of_ble_eq_true rfl) (rc0 rfl (CLt hH (by decide)) (CC hH 1 (by decide) rfl)) (by decide) (by decide) (c_X5_find hG hW (by exact hcd)) ?_
  refine g_ifnonnull (tgt := 13) hX (dk DX11_needless 4 rfl) (by decide) ?_
  refine g_aload_0 hX (dk DX11_needless 7 rfl) ?_
  refine g_getRs (r := 1) hX (dk DX11_needless 8 rfl) KX11 fX11_12 (by decide) rfl (CLt hH (q := 0) (by decide)) (CC hH 0 (by decide) rfl) (CR hH 0 0 1 (by decide)) ?_
  refine g_getIv hX (dk DX11_needless 9 rfl) KX5 fX11_109 (by decide) rfl (CLt hH (q := 1) (by decide)) (CC hH 1 (by decide) rfl) (hY.2.1.1.2.2.1) ?_
  refine g_iload_1 hX (dk DX11_needless 10 rfl) ?_
  refine g_c2I hX sX11_needless_21 (by decide) (Nat.le_of_ble_eq_true rfl) rcN (by decide) (by decide) (c_X11_bit hG ) ?_
  refine g_istore_3 hX (dk DX11_needless 12 rfl) (by decide) rfl ?_
  refine g_aload_0 hX (dk DX11_needless 13 rfl) ?_
  refine g_getRs (r := 1) hX (dk DX11_needless 14 rfl) KX11 fX11_12 (by decide) rfl (CLt hH (q := 0) (by decide)) (CC hH 0 (by decide) rfl) (CR hH 0 0 1 (by decide)) ?_
  refine g_aload_0 hX (dk DX11_needless 15 rfl) ?_
  refine g_getRs (r := 1) hX (dk DX11_needless 16 rfl) KX11 fX11_12 (by decide) rfl (CLt hH (q := 0) (by decide)) (CC hH 0 (by decide) rfl) (CR hH 0 0 1 (by decide)) ?_
  refine g_getIv hX (dk DX11_needless 17 rfl) KX5 fX11_109 (by decide) rfl (CLt hH (q := 1) (by decide)) (CC hH 1 (by decide) rfl) (hY.2.1.1.2.2.1) ?_
  refine g_iload_1 hX (dk DX11_needless 18 rfl) ?_
  refine g_iload_2 hX (dk DX11_needless 19 rfl) ?_
  refine g_c3I hX sX11_needless_38 (by decide) (Nat.le_of_ble_eq_true rfl) rcN (by decide) (by decide) (c_X11_withBit hG ) ?_
  refine g_putI hX (dk DX11_needless 21 rfl) KX5 fX11_109 (by decide) rfl (CLt hH (q := 1) (by decide)) (CC hH 1 (by decide) rfl) (Or.inl rfl) (rfl) (rfl) ?_
  refine g_iload_3 hX (dk DX11_needless 22 rfl) ?_
  refine g_ireturn hX (dk DX11_needless 23 rfl) rfl (rfl) (by decide) (by decide) ?_
  exact qZ_of (needless_e hDD) (by exact hZ.wN)

set_option maxRecDepth 8000 in
set_option maxHeartbeats 4000000 in
theorem zz_needless {G : Gt} (hG : Gok G) {I : It} {h : Ht}  {E : It} {L : Nat → Int64} (hE : Inv E) (hZ : RZ E L I h) {a : Int32} (hno : ¬ isD E a) {z : Int32} : Con G (3) 0 0 mX11_needless [.ref 0, .int a, .int z] I h (qZ (needlessS E a z) L (hn h)) := by
  refine con_intro (own := RX11) (lo0 := [some (.ref 0), some (.int a), some (.int z), none]) hG rfl pl_X11 (Nat.le_of_ble_eq_true rfl) rfl (fun X hX => ?_)
  have hY := hZ.1
  have hW := hY.wx hE
  have hH := hW.1
  have hc10 := hW.2.1.2
  have hcE := (inv_cnt hE).2
  refine g_aload_0 hX (dk DX11_needless 0 rfl) ?_
  refine g_getRs (r := 1) hX (dk DX11_needless 1 rfl) KX11 fX11_12 (by decide) rfl (CLt hH (q := 0) (by decide)) (CC hH 0 (by decide) rfl) (CR hH 0 0 1 (by decide)) ?_
  refine g_iload_1 hX (dk DX11_needless 2 rfl) ?_
  refine g_c2R hX sX11_needless_5 (by decide) (Nat.le_of_ble_eq_true rfl) (rc0 rfl (CLt hH (by decide)) (CC hH 1 (by decide) rfl)) (by decide) (by decide) (c_X5_find0 hG hW (hY.no hE hno)) ?_
  refine g_ifnonnullN hX (dk DX11_needless 4 rfl) ?_
  refine g_iconst (v := -1) hX (dk DX11_needless 5 rfl) (by decide) ?_
  refine g_ireturn hX (dk DX11_needless 6 rfl) rfl (rfl) (by decide) (by decide) ?_
  exact qZ_of (by unfold needlessS; rw [if_pos hno]) hZ

theorem zx_needless {G : Gt} (hG : Gok G) {I : It} {h : Ht} {E : It} {L : Nat → Int64} (hE : Inv E) (hZ : RZ E L I h) {a : Int32} {z : Int32} : Con G 3 0 0 mX11_needless [.ref 0, .int a, .int z] I h (qZ (needlessS E a z) L (hn h)) := by
  by_cases hh : isD E a
  · obtain ⟨d, hd, rfl⟩ := isD_of hE hh
    exact zy_needless hG hE hZ hd (z := z)
  · exact zz_needless hG hE hZ hh (z := z)
set_option maxRecDepth 8000 in
set_option maxHeartbeats 4000000 in
theorem zy_odds {G : Gt} (hG : Gok G) {I : It} {h : Ht}  {E : It} {L : Nat → Int64} (hE : Inv E) (hZ : RZ E L I h) {d : Nat} (hd : d < cnt E) {n : Int32} : Con G (3) 0 0 mX11_odds [.ref 0, .int (nI d), .int n] I h (qZ (oddsS E (nI d) n) L (hn h)) := by
  refine con_intro (own := RX11) (lo0 := [some (.ref 0), some (.int (nI d)), some (.int n), none, none]) hG rfl pl_X11 (Nat.le_of_ble_eq_true rfl) rfl (fun X hX => ?_)
  have hY := hZ.1
  have hW := hY.wx hE
  have hH := hW.1
  have hc10 := hW.2.1.2
  have hcE := (inv_cnt hE).2
  have hd10 : d < 10 := Nat.lt_of_lt_of_le hd (inv_cnt hE).2
  have hcd : d < cN I := by rw [hY.cn]; exact hd
  have hDD := isD_mk hE hd
  obtain ⟨g1, g2, g3, g4, g5, g6, g7, g8, g9, g10⟩ := hY.d hd
  refine g_aload_0 hX (dk DX11_odds 0 rfl) ?_
  refine g_getRs (r := 1) hX (dk DX11_odds 1 rfl) KX11 fX11_12 (by decide) rfl (CLt hH (q := 0) (by decide)) (CC hH 0 (by decide) rfl) (CR hH 0 0 1 (by decide)) ?_
  refine g_iload_1 hX (dk DX11_odds 2 rfl) ?_
  refine g_c2R hX sX11_odds_5 (by decide) (Nat.le_of_ble_eq_true rfl) (rc0 rfl (CLt hH (by decide)) (CC hH 1 (by decide) rfl)) (by decide) (by decide) (c_X5_find hG hW (by exact hcd)) ?_
  refine g_astore_3 hX (dk DX11_odds 4 rfl) (by decide) rfl ?_
  refine g_aload_3 hX (dk DX11_odds 5 rfl) ?_
  refine g_ifnonnull (tgt := 15) hX (dk DX11_odds 6 rfl) (by decide) ?_
  refine g_iload_2 hX (dk DX11_odds 9 rfl) ?_
  refine g_iconst (v := 0) hX (dk DX11_odds 10 rfl) (by decide) ?_
  refine g_bipush (v := 10) hX (dk DX11_odds 11 rfl) (by decide) ?_
  refine g_c3I hX sX11_odds_19 (by decide) (Nat.le_of_ble_eq_true rfl) rcN (by decide) (by decide) (c_X11_isNot hG ) ?_
  refine g_ifb_eq (tgt := 28) hX (dk DX11_odds 13 rfl) (by decide) (fun hc1 => ?_) (fun hc1 => ?_)
  · refine g_aload_0 hX (dk DX11_odds 16 rfl) ?_
    refine g_getRs (r := 1) hX (dk DX11_odds 17 rfl) KX11 fX11_12 (by decide) rfl (CLt hH (q := 0) (by decide)) (CC hH 0 (by decide) rfl) (CR hH 0 0 1 (by decide)) ?_
    refine g_getRs (r := 3) hX (dk DX11_odds 18 rfl) KX5 fX11_129 (by decide) rfl (CLt hH (q := 1) (by decide)) (CC hH 1 (by decide) rfl) (CR hH 1 1 3 (by decide)) ?_
    refine g_aload_3 hX (dk DX11_odds 19 rfl) ?_
    refine g_getD (v := (nI d)) hX (dk DX11_odds 20 rfl) fX11_132 (by decide) g3 (by rw [g4]; exact kcl_dc _) (g5) ?_
    refine v_iaload hX (dk DX11_odds 21 rfl) (CLt hH (q := 3) (by decide)) (CS hH 3 (by decide) rfl) (⟨rfl, hd10, by decide⟩) (hY.2.1.2.1 d hd10) ?_
    refine g_istore_4 hX (dk DX11_odds 22 rfl) (by decide) rfl ?_
    refine g_aload_0 hX (dk DX11_odds 23 rfl) ?_
    refine g_getRs (r := 1) hX (dk DX11_odds 24 rfl) KX11 fX11_12 (by decide) rfl (CLt hH (q := 0) (by decide)) (CC hH 0 (by decide) rfl) (CR hH 0 0 1 (by decide)) ?_
    refine g_getRs (r := 3) hX (dk DX11_odds 25 rfl) KX5 fX11_129 (by decide) rfl (CLt hH (q := 1) (by decide)) (CC hH 1 (by decide) rfl) (CR hH 1 1 3 (by decide)) ?_
    refine g_aload_3 hX (dk DX11_odds 26 rfl) ?_
    refine g_getD (v := (nI d)) hX (dk DX11_odds 27 rfl) fX11_132 (by decide) g3 (by rw [g4]; exact kcl_dc _) (g5) ?_
    refine g_iload_2 hX (dk DX11_odds 28 rfl) ?_
    refine i_iastore hX (dk DX11_odds 29 rfl) (CLt hH (q := 3) (by decide)) (CS hH 3 (by decide) rfl) (⟨rfl, hd10, by decide⟩) ?_
    refine g_iload_4 hX (dk DX11_odds 30 rfl) ?_
    refine g_ireturn hX (dk DX11_odds 31 rfl) rfl (rfl) (by decide) (by decide) ?_
    exact qZ_of (by unfold oddsS; rw [if_neg (not_not_intro hDD)]; (try first | rw [if_pos hc1] | rw [if_neg hc1] | rw [if_neg (not_not_intro hc1)]); first | done | rfl | (first | rw [tN_nI (by omega)] | (rw [tN_nI (by omega)]; rfl))) hZ.wO
  · refine g_bipush (v := -2) hX (dk DX11_odds 14 rfl) (by decide) ?_
    refine g_ireturn hX (dk DX11_odds 15 rfl) rfl (rfl) (by decide) (by decide) ?_
    exact qZ_of (by unfold oddsS; rw [if_neg (not_not_intro hDD)]; (try first | rw [if_pos hc1] | rw [if_neg hc1] | rw [if_neg (not_not_intro hc1)]); first | done | rfl | (first | rw [tN_nI (by omega)] | (rw [tN_nI (by omega)]; rfl))) hZ

set_option maxRecDepth 8000 in
set_option maxHeartbeats 4000000 in
theorem zz_odds {G : Gt} (hG : Gok G) {I : It} {h : Ht}  {E : It} {L : Nat → Int64} (hE : Inv E) (hZ : RZ E L I h) {a : Int32} (hno : ¬ isD E a) {n : Int32} : Con G (3) 0 0 mX11_odds [.ref 0, .int a, .int n] I h (qZ (oddsS E a n) L (hn h)) := by
  refine con_intro (own := RX11) (lo0 := [some (.ref 0), some (.int a), some (.int n), none, none]) hG rfl pl_X11 (Nat.le_of_ble_eq_true rfl) rfl (fun X hX => ?_)
  have hY := hZ.1
  have hW := hY.wx hE
  have hH := hW.1
  have hc10 := hW.2.1.2
  have hcE := (inv_cnt hE).2
  refine g_aload_0 hX (dk DX11_odds 0 rfl) ?_
  refine g_getRs (r := 1) hX (dk DX11_odds 1 rfl) KX11 fX11_12 (by decide) rfl (CLt hH (q := 0) (by decide)) (CC hH 0 (by decide) rfl) (CR hH 0 0 1 (by decide)) ?_
  refine g_iload_1 hX (dk DX11_odds 2 rfl) ?_
  refine g_c2R hX sX11_odds_5 (by decide) (Nat.le_of_ble_eq_true rfl) (rc0 rfl (CLt hH (by decide)) (CC hH 1 (by decide) rfl)) (by decide) (by decide) (c_X5_find0 hG hW (hY.no hE hno)) ?_
  refine g_astoreN_3 hX (dk DX11_odds 4 rfl) (by decide) rfl ?_
  refine g_aloadN_3 hX (dk DX11_odds 5 rfl) ?_
  refine g_ifnonnullN hX (dk DX11_odds 6 rfl) ?_
  refine g_iconst (v := -1) hX (dk DX11_odds 7 rfl) (by decide) ?_
  refine g_ireturn hX (dk DX11_odds 8 rfl) rfl (rfl) (by decide) (by decide) ?_
  exact qZ_of (by unfold oddsS; rw [if_pos hno]) hZ

theorem zx_odds {G : Gt} (hG : Gok G) {I : It} {h : Ht} {E : It} {L : Nat → Int64} (hE : Inv E) (hZ : RZ E L I h) {a : Int32} {n : Int32} : Con G 3 0 0 mX11_odds [.ref 0, .int a, .int n] I h (qZ (oddsS E a n) L (hn h)) := by
  by_cases hh : isD E a
  · obtain ⟨d, hd, rfl⟩ := isD_of hE hh
    exact zy_odds hG hE hZ hd (n := n)
  · exact zz_odds hG hE hZ hh (n := n)
set_option maxRecDepth 8000 in
set_option maxHeartbeats 4000000 in
theorem zx_hours {G : Gt} (hG : Gok G) {I : It} {h : Ht}  {E : It} {L : Nat → Int64} (hE : Inv E) (hZ : RZ E L I h) {a n : Int32} : Con G (3) 0 0 mX11_hours [.ref 0, .int a, .int n] I h (qZ (hoursS E a n) L (hn h)) := by
  refine con_intro (own := RX11) (lo0 := [some (.ref 0), some (.int a), some (.int n), none]) hG rfl pl_X11 (Nat.le_of_ble_eq_true rfl) rfl (fun X hX => ?_)
  have hY := hZ.1
  have hW := hY.wx hE
  have hH := hW.1
  have hc10 := hW.2.1.2
  have hcE := (inv_cnt hE).2
  refine g_iload_1 hX (dk DX11_hours 0 rfl) ?_
  refine g_iconst (v := 0) hX (dk DX11_hours 1 rfl) (by decide) ?_
  refine g_iconst (v := 3) hX (dk DX11_hours 2 rfl) (by decide) ?_
  refine g_c3I hX sX11_hours_3 (by decide) (Nat.le_of_ble_eq_true rfl) rcN (by decide) (by decide) (c_X11_isNot hG ) ?_
  refine g_ifb_eq (tgt := 11) hX (dk DX11_hours 4 rfl) (by decide) (fun hc1 => ?_) (fun hc1 => ?_)
  · refine g_iload_2 hX (dk DX11_hours 7 rfl) ?_
    refine g_iconst (v := 0) hX (dk DX11_hours 8 rfl) (by decide) ?_
    refine g_bipush (v := 9) hX (dk DX11_hours 9 rfl) (by decide) ?_
    refine g_c3I hX sX11_hours_15 (by decide) (Nat.le_of_ble_eq_true rfl) rcN (by decide) (by decide) (c_X11_isNot hG ) ?_
    refine g_ifb_eq (tgt := 24) hX (dk DX11_hours 11 rfl) (by decide) (fun hc2 => ?_) (fun hc2 => ?_)
    · obtain ⟨y, hy, rfl⟩ := in_of (b := 3) (by decide) (Decidable.not_not.mp hc1)
      refine g_aload_0 hX (dk DX11_hours 14 rfl) ?_
      refine g_getRs (r := 1) hX (dk DX11_hours 15 rfl) KX11 fX11_12 (by decide) rfl (CLt hH (q := 0) (by decide)) (CC hH 0 (by decide) rfl) (CR hH 0 0 1 (by decide)) ?_
      refine g_getRs (r := 4) hX (dk DX11_hours 16 rfl) KX5 fX11_139 (by decide) rfl (CLt hH (q := 1) (by decide)) (CC hH 1 (by decide) rfl) (CR hH 1 5 4 (by decide)) ?_
      refine g_iload_1 hX (dk DX11_hours 17 rfl) ?_
      refine v_iaload hX (dk DX11_hours 18 rfl) (CLt hH (q := 4) (by decide)) (CS hH 4 (by decide) rfl) (⟨rfl, by omega, by decide⟩) (hY.2.1.2.2.1 y (by omega)) ?_
      refine g_istore_3 hX (dk DX11_hours 19 rfl) (by decide) rfl ?_
      refine g_aload_0 hX (dk DX11_hours 20 rfl) ?_
      refine g_getRs (r := 1) hX (dk DX11_hours 21 rfl) KX11 fX11_12 (by decide) rfl (CLt hH (q := 0) (by decide)) (CC hH 0 (by decide) rfl) (CR hH 0 0 1 (by decide)) ?_
      refine g_getRs (r := 4) hX (dk DX11_hours 22 rfl) KX5 fX11_139 (by decide) rfl (CLt hH (q := 1) (by decide)) (CC hH 1 (by decide) rfl) (CR hH 1 5 4 (by decide)) ?_
      refine g_iload_1 hX (dk DX11_hours 23 rfl) ?_
      refine g_iload_2 hX (dk DX11_hours 24 rfl) ?_
      refine i_iastore hX (dk DX11_hours 25 rfl) (CLt hH (q := 4) (by decide)) (CS hH 4 (by decide) rfl) (⟨rfl, by omega, by decide⟩) ?_
      refine g_iload_3 hX (dk DX11_hours 26 rfl) ?_
      refine g_ireturn hX (dk DX11_hours 27 rfl) rfl (rfl) (by decide) (by decide) ?_
      exact qZ_of (by unfold hoursS; (try first | rw [if_pos hc1] | rw [if_neg hc1] | rw [if_neg (not_not_intro hc1)]); (try first | rw [if_pos hc2] | rw [if_neg hc2] | rw [if_neg (not_not_intro hc2)]); rw [tN_nI (by omega)]) (by exact hZ.wH)
    · refine g_bipush (v := -2) hX (dk DX11_hours 12 rfl) (by decide) ?_
      refine g_ireturn hX (dk DX11_hours 13 rfl) rfl (rfl) (by decide) (by decide) ?_
      exact qZ_of (by unfold hoursS; (try first | rw [if_pos hc1] | rw [if_neg hc1] | rw [if_neg (not_not_intro hc1)]); (try first | rw [if_pos hc2] | rw [if_neg hc2] | rw [if_neg (not_not_intro hc2)]); first | done | rfl) hZ
  · refine g_iconst (v := -1) hX (dk DX11_hours 5 rfl) (by decide) ?_
    refine g_ireturn hX (dk DX11_hours 6 rfl) rfl (rfl) (by decide) (by decide) ?_
    exact qZ_of (by unfold hoursS; (try first | rw [if_pos hc1] | rw [if_neg hc1] | rw [if_neg (not_not_intro hc1)]); first | done | rfl) hZ

set_option maxRecDepth 8000 in
set_option maxHeartbeats 4000000 in
theorem zx_trace {G : Gt} (hG : Gok G) {I : It} {h : Ht}  {E : It} {L : Nat → Int64} (hE : Inv E) (hZ : RZ E L I h) {a : Int32} : Con G (1) 0 0 mX11_trace [.ref 0, .int a] I h (qZ (traceS E a) L (hn h)) := by
  refine con_intro (own := RX11) (lo0 := [some (.ref 0), some (.int a)]) hG rfl pl_X11 (Nat.le_of_ble_eq_true rfl) rfl (fun X hX => ?_)
  have hY := hZ.1
  have hW := hY.wx hE
  have hH := hW.1
  have hc10 := hW.2.1.2
  have hcE := (inv_cnt hE).2
  refine g_iload_1 hX (dk DX11_trace 0 rfl) ?_
  refine g_if_lt (tgt := 27) hX (dk DX11_trace 1 rfl) (by decide) (fun hc1 => ?_) (fun hc1 => ?_)
  · refine g_iconst (v := -1) hX (dk DX11_trace 13 rfl) (by decide) ?_
    refine g_ireturn hX (dk DX11_trace 14 rfl) rfl (rfl) (by decide) (by decide) ?_
    first
    | exact qZ_of (by unfold traceS; rw [if_pos (fun z => Int32.not_lt.mpr z.1 (show a < 0 by assumption))]) hZ
    | exact qZ_of (by unfold traceS; rw [if_pos (fun z => absurd (Int32.le_trans (Int32.not_lt.mp (show ¬ a < 20 by assumption)) z.2) (by decide))]) hZ
    | exact qZ_of (by unfold traceS; split <;> first | rfl | rw [if_pos (show E 0 67 ≤ a by assumption)]) hZ
  · refine g_iload_1 hX (dk DX11_trace 2 rfl) ?_
    refine g_aload_0 hX (dk DX11_trace 3 rfl) ?_
    refine g_getRs (r := 32) hX (dk DX11_trace 4 rfl) KX11 fX11_43 (by decide) rfl (CLt hH (q := 0) (by decide)) (CC hH 0 (by decide) rfl) (CR hH 0 8 32 (by decide)) ?_
    refine g_getIv hX (dk DX11_trace 5 rfl) KX7 fX11_258 (by decide) rfl (CLt hH (q := 32) (by decide)) (CC hH 32 (by decide) rfl) (hY.2.2.2.2.2.1.1) ?_
    refine g_icmp_ge (tgt := 27) hX (dk DX11_trace 6 rfl) (by decide) (fun hc2 => ?_) (fun hc2 => ?_)
    · refine g_iconst (v := -1) hX (dk DX11_trace 13 rfl) (by decide) ?_
      refine g_ireturn hX (dk DX11_trace 14 rfl) rfl (rfl) (by decide) (by decide) ?_
      first
      | exact qZ_of (by unfold traceS; rw [if_pos (fun z => Int32.not_lt.mpr z.1 (show a < 0 by assumption))]) hZ
      | exact qZ_of (by unfold traceS; rw [if_pos (fun z => absurd (Int32.le_trans (Int32.not_lt.mp (show ¬ a < 20 by assumption)) z.2) (by decide))]) hZ
      | exact qZ_of (by unfold traceS; split <;> first | rfl | rw [if_pos (show E 0 67 ≤ a by assumption)]) hZ
    · refine g_iload_1 hX (dk DX11_trace 7 rfl) ?_
      refine g_aload_0 hX (dk DX11_trace 8 rfl) ?_
      refine g_getRs (r := 32) hX (dk DX11_trace 9 rfl) KX11 fX11_43 (by decide) rfl (CLt hH (q := 0) (by decide)) (CC hH 0 (by decide) rfl) (CR hH 0 8 32 (by decide)) ?_
      refine g_getRs (r := 33) hX (dk DX11_trace 10 rfl) KX7 fX11_271 (by decide) rfl (CLt hH (q := 32) (by decide)) (CC hH 32 (by decide) rfl) (CR hH 32 0 33 (by decide)) ?_
      refine g_alen (v := 20) hX (dk DX11_trace 11 rfl) (CLt hH (q := 33) (by decide)) (CS hH 33 (by decide) rfl) (by decide) (i0 := 0) rfl (by decide) ?_
      refine g_icmp_lt (tgt := 29) hX (dk DX11_trace 12 rfl) (by decide) (fun hc3 => ?_) (fun hc3 => ?_)
      · have hix : idx a (tN a) 20 := here_ix20 (by assumption) hc3
        refine g_aload_0 hX (dk DX11_trace 15 rfl) ?_
        refine g_getRs (r := 32) hX (dk DX11_trace 16 rfl) KX11 fX11_43 (by decide) rfl (CLt hH (q := 0) (by decide)) (CC hH 0 (by decide) rfl) (CR hH 0 8 32 (by decide)) ?_
        refine g_getRs (r := 33) hX (dk DX11_trace 17 rfl) KX7 fX11_271 (by decide) rfl (CLt hH (q := 32) (by decide)) (CC hH 32 (by decide) rfl) (CR hH 32 0 33 (by decide)) ?_
        refine g_iload_1 hX (dk DX11_trace 18 rfl) ?_
        refine v_iaload hX (dk DX11_trace 19 rfl) (CLt hH (q := 33) (by decide)) (CS hH 33 (by decide) rfl) (hix) (hY.2.2.2.2.2.1.2 (tN a) hix.2.1) ?_
        refine g_ireturn hX (dk DX11_trace 20 rfl) rfl (rfl) (by decide) (by decide) ?_
        exact qZ_of (by unfold traceS; rw [if_neg (not_not_intro ⟨Int32.not_lt.mp (by assumption), lt20_le hix⟩), if_neg (by assumption)]) hZ
      · refine g_iconst (v := -1) hX (dk DX11_trace 13 rfl) (by decide) ?_
        refine g_ireturn hX (dk DX11_trace 14 rfl) rfl (rfl) (by decide) (by decide) ?_
        first
        | exact qZ_of (by unfold traceS; rw [if_pos (fun z => Int32.not_lt.mpr z.1 (show a < 0 by assumption))]) hZ
        | exact qZ_of (by unfold traceS; rw [if_pos (fun z => absurd (Int32.le_trans (Int32.not_lt.mp (show ¬ a < 20 by assumption)) z.2) (by decide))]) hZ
        | exact qZ_of (by unfold traceS; split <;> first | rfl | rw [if_pos (show E 0 67 ≤ a by assumption)]) hZ

set_option maxRecDepth 8000 in
set_option maxHeartbeats 4000000 in
theorem zy_when {G : Gt} (hG : Gok G) {I : It} {h : Ht}  {E : It} {L : Nat → Int64} (hE : Inv E) (hZ : RZ E L I h) {d : Nat} (hd : d < cnt E)  : Con G (3) 0 0 mX11_when [.ref 0, .int (nI d)] I h (qZ (whenS E (nI d)) L (hn h)) := by
  refine con_intro (own := RX11) (lo0 := [some (.ref 0), some (.int (nI d)), none]) hG rfl pl_X11 (Nat.le_of_ble_eq_true rfl) rfl (fun X hX => ?_)
  have hY := hZ.1
  have hW := hY.wx hE
  have hH := hW.1
  have hc10 := hW.2.1.2
  have hcE := (inv_cnt hE).2
  have hd10 : d < 10 := Nat.lt_of_lt_of_le hd (inv_cnt hE).2
  have hcd : d < cN I := by rw [hY.cn]; exact hd
  have hDD := isD_mk hE hd
  obtain ⟨g1, g2, g3, g4, g5, g6, g7, g8, g9, g10⟩ := hY.d hd
  refine g_aload_0 hX (dk DX11_when 0 rfl) ?_
  refine g_getRs (r := 1) hX (dk DX11_when 1 rfl) KX11 fX11_12 (by decide) rfl (CLt hH (q := 0) (by decide)) (CC hH 0 (by decide) rfl) (CR hH 0 0 1 (by decide)) ?_
  refine g_iload_1 hX (dk DX11_when 2 rfl) ?_
  refine g_c2R hX sX11_when_5 (by decide) (Nat.le_of_ble_eq_true rfl) (rc0 rfl (CLt hH (by decide)) (CC hH 1 (by decide) rfl)) (by decide) (by decide) (c_X5_find hG hW (by exact hcd)) ?_
  refine g_astore_2 hX (dk DX11_when 4 rfl) (by decide) rfl ?_
  refine g_aload_2 hX (dk DX11_when 5 rfl) ?_
  refine g_ifnonnull (tgt := 17) hX (dk DX11_when 6 rfl) (by decide) ?_
  refine g_aload_0 hX (dk DX11_when 9 rfl) ?_
  refine g_getRs (r := 1) hX (dk DX11_when 10 rfl) KX11 fX11_12 (by decide) rfl (CLt hH (q := 0) (by decide)) (CC hH 0 (by decide) rfl) (CR hH 0 0 1 (by decide)) ?_
  refine g_getIv hX (dk DX11_when 11 rfl) KX5 fX11_122 (by decide) rfl (CLt hH (q := 1) (by decide)) (CC hH 1 (by decide) rfl) (hY.2.1.1.2.1) ?_
  refine g_aload_2 hX (dk DX11_when 12 rfl) ?_
  refine g_aload_0 hX (dk DX11_when 13 rfl) ?_
  refine g_getRs (r := 1) hX (dk DX11_when 14 rfl) KX11 fX11_12 (by decide) rfl (CLt hH (q := 0) (by decide)) (CC hH 0 (by decide) rfl) (CR hH 0 0 1 (by decide)) ?_
  refine g_getIv hX (dk DX11_when 15 rfl) KX5 fX11_122 (by decide) rfl (CLt hH (q := 1) (by decide)) (CC hH 1 (by decide) rfl) (hY.2.1.1.2.1) ?_
  refine g_c2I hX (sD_X11_when_32 _ (by rw [g4]; exact kcl_dc _)) (by decide) (Nat.le_of_ble_eq_true rfl) (rc0 rfl g3 rfl) (by decide) (by decide) (cD_weeksUntil hG g3 (by rw [g4]; exact kcl_dc _) (by exact (hW.2.2.1 d hcd).2.2.2.2.2)) ?_
  refine g_iadd hX (dk DX11_when 17 rfl) ?_
  refine g_ireturn hX (dk DX11_when 18 rfl) rfl (rfl) (by decide) (by decide) ?_
  exact qZ_of (by unfold whenS; rw [if_neg (not_not_intro hDD), tN_nI (by omega), g7, g8, when_e hE hd]) hZ

set_option maxRecDepth 8000 in
set_option maxHeartbeats 4000000 in
theorem zz_when {G : Gt} (hG : Gok G) {I : It} {h : Ht}  {E : It} {L : Nat → Int64} (hE : Inv E) (hZ : RZ E L I h) {a : Int32} (hno : ¬ isD E a)  : Con G (3) 0 0 mX11_when [.ref 0, .int a] I h (qZ (whenS E a) L (hn h)) := by
  refine con_intro (own := RX11) (lo0 := [some (.ref 0), some (.int a), none]) hG rfl pl_X11 (Nat.le_of_ble_eq_true rfl) rfl (fun X hX => ?_)
  have hY := hZ.1
  have hW := hY.wx hE
  have hH := hW.1
  have hc10 := hW.2.1.2
  have hcE := (inv_cnt hE).2
  refine g_aload_0 hX (dk DX11_when 0 rfl) ?_
  refine g_getRs (r := 1) hX (dk DX11_when 1 rfl) KX11 fX11_12 (by decide) rfl (CLt hH (q := 0) (by decide)) (CC hH 0 (by decide) rfl) (CR hH 0 0 1 (by decide)) ?_
  refine g_iload_1 hX (dk DX11_when 2 rfl) ?_
  refine g_c2R hX sX11_when_5 (by decide) (Nat.le_of_ble_eq_true rfl) (rc0 rfl (CLt hH (by decide)) (CC hH 1 (by decide) rfl)) (by decide) (by decide) (c_X5_find0 hG hW (hY.no hE hno)) ?_
  refine g_astoreN_2 hX (dk DX11_when 4 rfl) (by decide) rfl ?_
  refine g_aloadN_2 hX (dk DX11_when 5 rfl) ?_
  refine g_ifnonnullN hX (dk DX11_when 6 rfl) ?_
  refine g_iconst (v := -1) hX (dk DX11_when 7 rfl) (by decide) ?_
  refine g_goto (tgt := 36) hX (dk DX11_when 8 rfl) (by decide) ?_
  refine g_ireturn hX (dk DX11_when 18 rfl) rfl (rfl) (by decide) (by decide) ?_
  exact qZ_of (by unfold whenS; rw [if_pos hno]) hZ

theorem zx_when {G : Gt} (hG : Gok G) {I : It} {h : Ht} {E : It} {L : Nat → Int64} (hE : Inv E) (hZ : RZ E L I h) {a : Int32}  : Con G 3 0 0 mX11_when [.ref 0, .int a] I h (qZ (whenS E a) L (hn h)) := by
  by_cases hh : isD E a
  · obtain ⟨d, hd, rfl⟩ := isD_of hE hh
    exact zy_when hG hE hZ hd
  · exact zz_when hG hE hZ hh
