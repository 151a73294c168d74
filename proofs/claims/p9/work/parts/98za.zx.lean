section
set_option maxRecDepth 8000 in
set_option maxHeartbeats 4000000 in
theorem zy_of {G : Gt} (hG : Gok G) {I : It} {h : Ht}  {E : It} {L : Nat → Int64} (hE : Inv E) (hZ : RZ E L I h) {d : Nat} (hd : d < cnt E) {w : Int32} : Con G (8) 0 0 mX11_of [.ref 0, .int (nI d), .int w] I h (qZ (ofS E (nI d) w) L (hn h)) := by
  refine con_intro (own := RX11) (lo0 := [some (.ref 0), some (.int (nI d)), some (.int w), none]) hG rfl pl_X11 (Nat.le_of_ble_eq_true rfl) rfl (fun X hX => ?_)
  have hY := hZ.1
  have hW := hY.wx hE
  have hH := hW.1
  have hc10 := hW.2.1.2
  have hcE := (inv_cnt hE).2
  have hd10 : d < 10 := Nat.lt_of_lt_of_le hd (inv_cnt hE).2
  have hcd : d < cN I := by rw [hY.cn]; exact hd
  have hDD := isD_mk hE hd
  obtain ⟨g1, g2, g3, g4, g5, g6, g7, g8, g9, g10⟩ := hY.d hd
  refine g_aload_0 hX (dk DX11_of_0 0 rfl) ?_
  refine g_getRs (r := 1) hX (dk DX11_of_0 1 rfl) KX11 fX11_12 (by decide) rfl (CLt hH (q := 0) (by decide)) (CC hH 0 (by decide) rfl) (CR hH 0 0 1 (by decide)) ?_
  refine g_iload_1 hX (dk DX11_of_0 2 rfl) ?_
  refine g_c2R hX sX11_of_5 (by decide) (Nat.le_of_ble_eq_true rfl) (rc0 rfl (CLt hH (by decide)) (CC hH 1 (by decide) rfl)) (by decide) (by decide) (c_X5_find hG hW (by exact hcd)) ?_
  refine g_astore_3 hX (dk DX11_of_0 4 rfl) (by decide) rfl ?_
  refine g_aload_3 hX (dk DX11_of_0 5 rfl) ?_
  refine g_ifnonnull (tgt := 17) hX (dk DX11_of_0 6 rfl) (by decide) ?_
  refine g_iload_2 hX (dk DX11_of_0 9 rfl) ?_
  refine g_tswitch (dt := 193) hX [(0, 80), (1, 85), (2, 90), (3, 95), (4, 100), (5, 105), (6, 110), (7, 122), (8, 134), (9, 143), (10, 164), (11, 180)] (dk DX11_of_0 10 rfl) (by decide +kernel) ?_
  refine ⟨fun hc1 => ?_, fun hc1n => ?_⟩
  · show GG _ _ _ _ _ _ _ _ _ _ _ _ _
    refine g_aload_3 hX (dk DX11_of_0 11 rfl) ?_
    refine g_c1I hX (sD_X11_of_81 _ (by rw [g4]; exact kcl_dc _)) (by decide) (Nat.le_of_ble_eq_true rfl) (rc0 rfl g3 rfl) (by decide) (by decide) (cD_kind hG g3 (by rw [g4]; exact kcl_dc _)) ?_
    refine g_nmI (E 1 d) (by rw [g4]; obtain ⟨⟨x, hx, ex⟩, -⟩ := inv_d hE hd; rw [ex]; exact knd_e x (by omega)) ?_
    refine g_ireturn hX (dk DX11_of_0 13 rfl) rfl (rfl) (by decide) (by decide) ?_
    first
    | exact qZ_of (by unfold ofS; rw [if_neg (not_not_intro hDD)]; (try rw [tN_nI (by omega)]); (try first | rw [if_pos hc1] | rw [if_neg hc1] | rw [if_neg (not_not_intro hc1)]); first | done | rfl | exact ofb _ _ _) hZ
    | exact qZ_of (by unfold ofS; rw [if_neg (not_not_intro hDD)]; (try rw [tN_nI (by omega)]); (try first | rw [if_pos hc1] | rw [if_neg hc1] | rw [if_neg (not_not_intro hc1)]); first | done | rfl) (hZ.sc hE hS)
  refine ⟨fun hc2 => ?_, fun hc2n => ?_⟩
  · show GG _ _ _ _ _ _ _ _ _ _ _ _ _
    refine g_aload_3 hX (dk DX11_of_0 14 rfl) ?_
    refine g_getD (v := _) hX (dk DX11_of_0 15 rfl) fX11_94 (by decide) g3 (by rw [g4]; exact kcl_dc _) (g6) ?_
    refine g_ireturn hX (dk DX11_of_0 16 rfl) rfl (rfl) (by decide) (by decide) ?_
    first
    | exact qZ_of (by unfold ofS; rw [if_neg (not_not_intro hDD)]; (try rw [tN_nI (by omega)]); (try first | rw [if_pos hc1n] | rw [if_neg hc1n] | rw [if_neg (not_not_intro hc1n)]); (try first | rw [if_pos hc2] | rw [if_neg hc2] | rw [if_neg (not_not_intro hc2)]); first | done | rfl | exact ofb _ _ _) hZ
    | exact qZ_of (by unfold ofS; rw [if_neg (not_not_intro hDD)]; (try rw [tN_nI (by omega)]); (try first | rw [if_pos hc1n] | rw [if_neg hc1n] | rw [if_neg (not_not_intro hc1n)]); (try first | rw [if_pos hc2] | rw [if_neg hc2] | rw [if_neg (not_not_intro hc2)]); first | done | rfl) (hZ.sc hE hS)
  refine ⟨fun hc3 => ?_, fun hc3n => ?_⟩
  · show GG _ _ _ _ _ _ _ _ _ _ _ _ _
    refine g_aload_3 hX (dk DX11_of_0 17 rfl) ?_
    refine g_getD (v := _) hX (dk DX11_of_0 18 rfl) fX11_97 (by decide) g3 (by rw [g4]; exact kcl_dc _) (g7) ?_
    refine g_ireturn hX (dk DX11_of_0 19 rfl) rfl (rfl) (by decide) (by decide) ?_
    first
    | exact qZ_of (by unfold ofS; rw [if_neg (not_not_intro hDD)]; (try rw [tN_nI (by omega)]); (try first | rw [if_pos hc1n] | rw [if_neg hc1n] | rw [if_neg (not_not_intro hc1n)]); (try first | rw [if_pos hc2n] | rw [if_neg hc2n] | rw [if_neg (not_not_intro hc2n)]); (try first | rw [if_pos hc3] | rw [if_neg hc3] | rw [if_neg (not_not_intro hc3)]); first | done | rfl | exact ofb _ _ _) hZ
    | exact qZ_of (by unfold ofS; rw [if_neg (not_not_intro hDD)]; (try rw [tN_nI (by omega)]); (try first | rw [if_pos hc1n] | rw [if_neg hc1n] | rw [if_neg (not_not_intro hc1n)]); (try first | rw [if_pos hc2n] | rw [if_neg hc2n] | rw [if_neg (not_not_intro hc2n)]); (try first | rw [if_pos hc3] | rw [if_neg hc3] | rw [if_neg (not_not_intro hc3)]); first | done | rfl) (hZ.sc hE hS)
  refine ⟨fun hc4 => ?_, fun hc4n => ?_⟩
  · show GG _ _ _ _ _ _ _ _ _ _ _ _ _
    refine g_aload_3 hX (dk DX11_of_0 20 rfl) ?_
    refine g_getD (v := _) hX (dk DX11_of_0 21 rfl) fX11_100 (by decide) g3 (by rw [g4]; exact kcl_dc _) (g8) ?_
    refine g_ireturn hX (dk DX11_of_0 22 rfl) rfl (rfl) (by decide) (by decide) ?_
    first
    | exact qZ_of (by unfold ofS; rw [if_neg (not_not_intro hDD)]; (try rw [tN_nI (by omega)]); (try first | rw [if_pos hc1n] | rw [if_neg hc1n] | rw [if_neg (not_not_intro hc1n)]); (try first | rw [if_pos hc2n] | rw [if_neg hc2n] | rw [if_neg (not_not_intro hc2n)]); (try first | rw [if_pos hc3n] | rw [if_neg hc3n] | rw [if_neg (not_not_intro hc3n)]); (try first | rw [if_pos hc4] | rw [if_neg hc4] | rw [if_neg (not_not_intro hc4)]); first | done | rfl | exact ofb _ _ _) hZ
    | exact qZ_of (by unfold ofS; rw [if_neg (not_not_intro hDD)]; (try rw [tN_nI (by omega)]); (try first | rw [if_pos hc1n] | rw [if_neg hc1n] | rw [if_neg (not_not_intro hc1n)]); (try first | rw [if_pos hc2n] | rw [if_neg hc2n] | rw [if_neg (not_not_intro hc2n)]); (try first | rw [if_pos hc3n] | rw [if_neg hc3n] | rw [if_neg (not_not_intro hc3n)]); (try first | rw [if_pos hc4] | rw [if_neg hc4] | rw [if_neg (not_not_intro hc4)]); first | done | rfl) (hZ.sc hE hS)
  refine ⟨fun hc5 => ?_, fun hc5n => ?_⟩
  · show GG _ _ _ _ _ _ _ _ _ _ _ _ _
    refine g_aload_3 hX (dk DX11_of_0 23 rfl) ?_
    refine g_getD (v := _) hX (dk DX11_of_0 24 rfl) fX11_103 (by decide) g3 (by rw [g4]; exact kcl_dc _) (g9) ?_
    refine g_ireturn hX (dk DX11_of_0 25 rfl) rfl (rfl) (by decide) (by decide) ?_
    first
    | exact qZ_of (by unfold ofS; rw [if_neg (not_not_intro hDD)]; (try rw [tN_nI (by omega)]); (try first | rw [if_pos hc1n] | rw [if_neg hc1n] | rw [if_neg (not_not_intro hc1n)]); (try first | rw [if_pos hc2n] | rw [if_neg hc2n] | rw [if_neg (not_not_intro hc2n)]); (try first | rw [if_pos hc3n] | rw [if_neg hc3n] | rw [if_neg (not_not_intro hc3n)]); (try first | rw [if_pos hc4n] | rw [if_neg hc4n] | rw [if_neg (not_not_intro hc4n)]); (try first | rw [if_pos hc5] | rw [if_neg hc5] | rw [if_neg (not_not_intro hc5)]); first | done | rfl | exact ofb _ _ _) hZ
    | exact qZ_of (by unfold ofS; rw [if_neg (not_not_intro hDD)]; (try rw [tN_nI (by omega)]); (try first | rw [if_pos hc1n] | rw [if_neg hc1n] | rw [if_neg (not_not_intro hc1n)]); (try first | rw [if_pos hc2n] | rw [if_neg hc2n] | rw [if_neg (not_not_intro hc2n)]); (try first | rw [if_pos hc3n] | rw [if_neg hc3n] | rw [if_neg (not_not_intro hc3n)]); (try first | rw [if_pos hc4n] | rw [if_neg hc4n] | rw [if_neg (not_not_intro hc4n)]); (try first | rw [if_pos hc5] | rw [if_neg hc5] | rw [if_neg (not_not_intro hc5)]); first | done | rfl) (hZ.sc hE hS)
  refine ⟨fun hc6 => ?_, fun hc6n => ?_⟩
  · show GG _ _ _ _ _ _ _ _ _ _ _ _ _
    refine g_aload_3 hX (dk DX11_of_0 26 rfl) ?_
    refine g_getD (v := _) hX (dk DX11_of_0 27 rfl) fX11_106 (by decide) g3 (by rw [g4]; exact kcl_dc _) (g10) ?_
    refine g_ireturn hX (dk DX11_of_0 28 rfl) rfl (rfl) (by decide) (by decide) ?_
    first
    | exact qZ_of (by unfold ofS; rw [if_neg (not_not_intro hDD)]; (try rw [tN_nI (by omega)]); (try first | rw [if_pos hc1n] | rw [if_neg hc1n] | rw [if_neg (not_not_intro hc1n)]); (try first | rw [if_pos hc2n] | rw [if_neg hc2n] | rw [if_neg (not_not_intro hc2n)]); (try first | rw [if_pos hc3n] | rw [if_neg hc3n] | rw [if_neg (not_not_intro hc3n)]); (try first | rw [if_pos hc4n] | rw [if_neg hc4n] | rw [if_neg (not_not_intro hc4n)]); (try first | rw [if_pos hc5n] | rw [if_neg hc5n] | rw [if_neg (not_not_intro hc5n)]); (try first | rw [if_pos hc6] | rw [if_neg hc6] | rw [if_neg (not_not_intro hc6)]); first | done | rfl | exact ofb _ _ _) hZ
    | exact qZ_of (by unfold ofS; rw [if_neg (not_not_intro hDD)]; (try rw [tN_nI (by omega)]); (try first | rw [if_pos hc1n] | rw [if_neg hc1n] | rw [if_neg (not_not_intro hc1n)]); (try first | rw [if_pos hc2n] | rw [if_neg hc2n] | rw [if_neg (not_not_intro hc2n)]); (try first | rw [if_pos hc3n] | rw [if_neg hc3n] | rw [if_neg (not_not_intro hc3n)]); (try first | rw [if_pos hc4n] | rw [if_neg hc4n] | rw [if_neg (not_not_intro hc4n)]); (try first | rw [if_pos hc5n] | rw [if_neg hc5n] | rw [if_neg (not_not_intro hc5n)]); (try first | rw [if_pos hc6] | rw [if_neg hc6] | rw [if_neg (not_not_intro hc6)]); first | done | rfl) (hZ.sc hE hS)
  refine ⟨fun hc7 => ?_, fun hc7n => ?_⟩
  · show GG _ _ _ _ _ _ _ _ _ _ _ _ _
    refine g_aload_0 hX (dk DX11_of_0 29 rfl) ?_
    refine g_getRs (r := 1) hX (dk DX11_of_0 30 rfl) KX11 fX11_12 (by decide) rfl (CLt hH (q := 0) (by decide)) (CC hH 0 (by decide) rfl) (CR hH 0 0 1 (by decide)) ?_
    refine g_getIv hX (dk DX11_of_0 31 rfl) KX5 fX11_109 (by decide) rfl (CLt hH (q := 1) (by decide)) (CC hH 1 (by decide) rfl) (hZ.1.2.1.1.2.2.1) ?_
    refine g_iload_1 hX (dk DX11_of_0 32 rfl) ?_
    refine g_c2I hX sX11_of_118 (by decide) (Nat.le_of_ble_eq_true rfl) rcN (by decide) (by decide) (c_X11_bit hG ) ?_
    refine g_ireturn hX (dk DX11_of_0 34 rfl) rfl (rfl) (by decide) (by decide) ?_
    first
    | exact qZ_of (by unfold ofS; rw [if_neg (not_not_intro hDD)]; (try rw [tN_nI (by omega)]); (try first | rw [if_pos hc1n] | rw [if_neg hc1n] | rw [if_neg (not_not_intro hc1n)]); (try first | rw [if_pos hc2n] | rw [if_neg hc2n] | rw [if_neg (not_not_intro hc2n)]); (try first | rw [if_pos hc3n] | rw [if_neg hc3n] | rw [if_neg (not_not_intro hc3n)]); (try first | rw [if_pos hc4n] | rw [if_neg hc4n] | rw [if_neg (not_not_intro hc4n)]); (try first | rw [if_pos hc5n] | rw [if_neg hc5n] | rw [if_neg (not_not_intro hc5n)]); (try first | rw [if_pos hc6n] | rw [if_neg hc6n] | rw [if_neg (not_not_intro hc6n)]); (try first | rw [if_pos hc7] | rw [if_neg hc7] | rw [if_neg (not_not_intro hc7)]); first | done | rfl | exact ofb _ _ _) hZ
    | exact qZ_of (by unfold ofS; rw [if_neg (not_not_intro hDD)]; (try rw [tN_nI (by omega)]); (try first | rw [if_pos hc1n] | rw [if_neg hc1n] | rw [if_neg (not_not_intro hc1n)]); (try first | rw [if_pos hc2n] | rw [if_neg hc2n] | rw [if_neg (not_not_intro hc2n)]); (try first | rw [if_pos hc3n] | rw [if_neg hc3n] | rw [if_neg (not_not_intro hc3n)]); (try first | rw [if_pos hc4n] | rw [if_neg hc4n] | rw [if_neg (not_not_intro hc4n)]); (try first | rw [if_pos hc5n] | rw [if_neg hc5n] | rw [if_neg (not_not_intro hc5n)]); (try first | rw [if_pos hc6n] | rw [if_neg hc6n] | rw [if_neg (not_not_intro hc6n)]); (try first | rw [if_pos hc7] | rw [if_neg hc7] | rw [if_neg (not_not_intro hc7)]); first | done | rfl) (hZ.sc hE hS)
  refine ⟨fun hc8 => ?_, fun hc8n => ?_⟩
  · show GG _ _ _ _ _ _ _ _ _ _ _ _ _
    refine g_aload_0 hX (dk DX11_of_0 35 rfl) ?_
    refine g_getRs (r := 1) hX (dk DX11_of_0 36 rfl) KX11 fX11_12 (by decide) rfl (CLt hH (q := 0) (by decide)) (CC hH 0 (by decide) rfl) (CR hH 0 0 1 (by decide)) ?_
    refine g_getIv hX (dk DX11_of_0 37 rfl) KX5 fX11_116 (by decide) rfl (CLt hH (q := 1) (by decide)) (CC hH 1 (by decide) rfl) (hZ.2.1.1) ?_
    refine g_iload_1 hX (dk DX11_of_0 38 rfl) ?_
    refine g_c2I hX sX11_of_130 (by decide) (Nat.le_of_ble_eq_true rfl) rcN (by decide) (by decide) (c_X11_bit hG ) ?_
    refine g_ireturn hX (dk DX11_of_0 40 rfl) rfl (rfl) (by decide) (by decide) ?_
    first
    | exact qZ_of (by unfold ofS; rw [if_neg (not_not_intro hDD)]; (try rw [tN_nI (by omega)]); (try first | rw [if_pos hc1n] | rw [if_neg hc1n] | rw [if_neg (not_not_intro hc1n)]); (try first | rw [if_pos hc2n] | rw [if_neg hc2n] | rw [if_neg (not_not_intro hc2n)]); (try first | rw [if_pos hc3n] | rw [if_neg hc3n] | rw [if_neg (not_not_intro hc3n)]); (try first | rw [if_pos hc4n] | rw [if_neg hc4n] | rw [if_neg (not_not_intro hc4n)]); (try first | rw [if_pos hc5n] | rw [if_neg hc5n] | rw [if_neg (not_not_intro hc5n)]); (try first | rw [if_pos hc6n] | rw [if_neg hc6n] | rw [if_neg (not_not_intro hc6n)]); (try first | rw [if_pos hc7n] | rw [if_neg hc7n] | rw [if_neg (not_not_intro hc7n)]); (try first | rw [if_pos hc8] | rw [if_neg hc8] | rw [if_neg (not_not_intro hc8)]); first | done | rfl | exact ofb _ _ _) hZ
    | exact qZ_of (by unfold ofS; rw [if_neg (not_not_intro hDD)]; (try rw [tN_nI (by omega)]); (try first | rw [if_pos hc1n] | rw [if_neg hc1n] | rw [if_neg (not_not_intro hc1n)]); (try first | rw [if_pos hc2n] | rw [if_neg hc2n] | rw [if_neg (not_not_intro hc2n)]); (try first | rw [if_pos hc3n] | rw [if_neg hc3n] | rw [if_neg (not_not_intro hc3n)]); (try first | rw [if_pos hc4n] | rw [if_neg hc4n] | rw [if_neg (not_not_intro hc4n)]); (try first | rw [if_pos hc5n] | rw [if_neg hc5n] | rw [if_neg (not_not_intro hc5n)]); (try first | rw [if_pos hc6n] | rw [if_neg hc6n] | rw [if_neg (not_not_intro hc6n)]); (try first | rw [if_pos hc7n] | rw [if_neg hc7n] | rw [if_neg (not_not_intro hc7n)]); (try first | rw [if_pos hc8] | rw [if_neg hc8] | rw [if_neg (not_not_intro hc8)]); first | done | rfl) (hZ.sc hE hS)
  refine ⟨fun hc9 => ?_, fun hc9n => ?_⟩
  · show GG _ _ _ _ _ _ _ _ _ _ _ _ _
    refine g_aload_0 hX (dk DX11_of_0 41 rfl) ?_
    refine g_getRs (r := 13) hX (dk DX11_of_0 42 rfl) KX11 fX11_26 (by decide) rfl (CLt hH (q := 0) (by decide)) (CC hH 0 (by decide) rfl) (CR hH 0 3 13 (by decide)) ?_
    refine g_aload_3 hX (dk DX11_of_0 43 rfl) ?_
    refine g_c2q hX sX11_of_139 (by decide) (Nat.le_of_ble_eq_true rfl) (rc0 rfl (CLt hH (by decide)) (CC hH 13 (by decide) rfl)) (by decide) (by decide) (e_saidOf hG hE hZ hd) ?_
    rintro _ J _ ⟨rfl, hS, rfl⟩
    obtain ⟨-, -, -, -, -, -, -, -, -, k10⟩ := (hZ.sc hE hS).1.d hd
    refine g_ireturn hX (dk DX11_of_0 45 rfl) rfl (rfl) (by decide) (by decide) ?_
    first
    | exact qZ_of (by unfold ofS; rw [if_neg (not_not_intro hDD)]; (try rw [tN_nI (by omega)]); (try first | rw [if_pos hc1n] | rw [if_neg hc1n] | rw [if_neg (not_not_intro hc1n)]); (try first | rw [if_pos hc2n] | rw [if_neg hc2n] | rw [if_neg (not_not_intro hc2n)]); (try first | rw [if_pos hc3n] | rw [if_neg hc3n] | rw [if_neg (not_not_intro hc3n)]); (try first | rw [if_pos hc4n] | rw [if_neg hc4n] | rw [if_neg (not_not_intro hc4n)]); (try first | rw [if_pos hc5n] | rw [if_neg hc5n] | rw [if_neg (not_not_intro hc5n)]); (try first | rw [if_pos hc6n] | rw [if_neg hc6n] | rw [if_neg (not_not_intro hc6n)]); (try first | rw [if_pos hc7n] | rw [if_neg hc7n] | rw [if_neg (not_not_intro hc7n)]); (try first | rw [if_pos hc8n] | rw [if_neg hc8n] | rw [if_neg (not_not_intro hc8n)]); (try first | rw [if_pos hc9] | rw [if_neg hc9] | rw [if_neg (not_not_intro hc9)]); first | done | rfl | exact ofb _ _ _) hZ
    | exact qZ_of (by unfold ofS; rw [if_neg (not_not_intro hDD)]; (try rw [tN_nI (by omega)]); (try first | rw [if_pos hc1n] | rw [if_neg hc1n] | rw [if_neg (not_not_intro hc1n)]); (try first | rw [if_pos hc2n] | rw [if_neg hc2n] | rw [if_neg (not_not_intro hc2n)]); (try first | rw [if_pos hc3n] | rw [if_neg hc3n] | rw [if_neg (not_not_intro hc3n)]); (try first | rw [if_pos hc4n] | rw [if_neg hc4n] | rw [if_neg (not_not_intro hc4n)]); (try first | rw [if_pos hc5n] | rw [if_neg hc5n] | rw [if_neg (not_not_intro hc5n)]); (try first | rw [if_pos hc6n] | rw [if_neg hc6n] | rw [if_neg (not_not_intro hc6n)]); (try first | rw [if_pos hc7n] | rw [if_neg hc7n] | rw [if_neg (not_not_intro hc7n)]); (try first | rw [if_pos hc8n] | rw [if_neg hc8n] | rw [if_neg (not_not_intro hc8n)]); (try first | rw [if_pos hc9] | rw [if_neg hc9] | rw [if_neg (not_not_intro hc9)]); first | done | rfl) (hZ.sc hE hS)
  refine ⟨fun hc10 => ?_, fun hc10n => ?_⟩
  · show GG _ _ _ _ _ _ _ _ _ _ _ _ _
    refine g_aload_0 hX (dk DX11_of_0 46 rfl) ?_
    refine g_getRs (r := 13) hX (dk DX11_of_0 47 rfl) KX11 fX11_26 (by decide) rfl (CLt hH (q := 0) (by decide)) (CC hH 0 (by decide) rfl) (CR hH 0 3 13 (by decide)) ?_
    refine g_aload_3 hX (dk DX11_of_0 48 rfl) ?_
    refine g_c2q hX sX11_of_148 (by decide) (Nat.le_of_ble_eq_true rfl) (rc0 rfl (CLt hH (by decide)) (CC hH 13 (by decide) rfl)) (by decide) (by decide) (e_saidOf hG hE hZ hd) ?_
    rintro _ J _ ⟨rfl, hS, rfl⟩
    obtain ⟨-, -, -, -, -, -, -, -, -, k10⟩ := (hZ.sc hE hS).1.d hd
    refine g_aload_3 hX (dk DX11_of_0 50 rfl) ?_
    refine g_getD (v := _) hX (dk DX11_of_0 51 rfl) fX11_106 (by decide) g3 (by rw [g4]; exact kcl_dc _) (k10) ?_
    refine g_icmp_lt (tgt := 162) hX (dk DX11_of_0 52 rfl) (by decide) (fun hc11 => ?_) (fun hc11 => ?_)
    · refine g_iconst (v := 0) hX (dk DX11_of_0 55 rfl) (by decide) ?_
      refine g_ireturn hX (dk DX11_of_0 56 rfl) rfl (rfl) (by decide) (by decide) ?_
      first
      | exact qZ_of (by unfold ofS; rw [if_neg (not_not_intro hDD)]; (try rw [tN_nI (by omega)]); (try first | rw [if_pos hc1n] | rw [if_neg hc1n] | rw [if_neg (not_not_intro hc1n)]); (try first | rw [if_pos hc2n] | rw [if_neg hc2n] | rw [if_neg (not_not_intro hc2n)]); (try first | rw [if_pos hc3n] | rw [if_neg hc3n] | rw [if_neg (not_not_intro hc3n)]); (try first | rw [if_pos hc4n] | rw [if_neg hc4n] | rw [if_neg (not_not_intro hc4n)]); (try first | rw [if_pos hc5n] | rw [if_neg hc5n] | rw [if_neg (not_not_intro hc5n)]); (try first | rw [if_pos hc6n] | rw [if_neg hc6n] | rw [if_neg (not_not_intro hc6n)]); (try first | rw [if_pos hc7n] | rw [if_neg hc7n] | rw [if_neg (not_not_intro hc7n)]); (try first | rw [if_pos hc8n] | rw [if_neg hc8n] | rw [if_neg (not_not_intro hc8n)]); (try first | rw [if_pos hc9n] | rw [if_neg hc9n] | rw [if_neg (not_not_intro hc9n)]); (try first | rw [if_pos hc10] | rw [if_neg hc10] | rw [if_neg (not_not_intro hc10)]); (try first | rw [if_pos hc11] | rw [if_neg hc11] | rw [if_neg (not_not_intro hc11)]); first | done | rfl | exact ofb _ _ _) hZ
      | exact qZ_of (by unfold ofS; rw [if_neg (not_not_intro hDD)]; (try rw [tN_nI (by omega)]); (try first | rw [if_pos hc1n] | rw [if_neg hc1n] | rw [if_neg (not_not_intro hc1n)]); (try first | rw [if_pos hc2n] | rw [if_neg hc2n] | rw [if_neg (not_not_intro hc2n)]); (try first | rw [if_pos hc3n] | rw [if_neg hc3n] | rw [if_neg (not_not_intro hc3n)]); (try first | rw [if_pos hc4n] | rw [if_neg hc4n] | rw [if_neg (not_not_intro hc4n)]); (try first | rw [if_pos hc5n] | rw [if_neg hc5n] | rw [if_neg (not_not_intro hc5n)]); (try first | rw [if_pos hc6n] | rw [if_neg hc6n] | rw [if_neg (not_not_intro hc6n)]); (try first | rw [if_pos hc7n] | rw [if_neg hc7n] | rw [if_neg (not_not_intro hc7n)]); (try first | rw [if_pos hc8n] | rw [if_neg hc8n] | rw [if_neg (not_not_intro hc8n)]); (try first | rw [if_pos hc9n] | rw [if_neg hc9n] | rw [if_neg (not_not_intro hc9n)]); (try first | rw [if_pos hc10] | rw [if_neg hc10] | rw [if_neg (not_not_intro hc10)]); (try first | rw [if_pos hc11] | rw [if_neg hc11] | rw [if_neg (not_not_intro hc11)]); first | done | rfl) (hZ.sc hE hS)
    · refine g_iconst (v := 1) hX (dk DX11_of_0 53 rfl) (by decide) ?_
      refine g_goto (tgt := 163) hX (dk DX11_of_0 54 rfl) (by decide) ?_
      refine g_ireturn hX (dk DX11_of_0 56 rfl) rfl (rfl) (by decide) (by decide) ?_
      first
      | exact qZ_of (by unfold ofS; rw [if_neg (not_not_intro hDD)]; (try rw [tN_nI (by omega)]); (try first | rw [if_pos hc1n] | rw [if_neg hc1n] | rw [if_neg (not_not_intro hc1n)]); (try first | rw [if_pos hc2n] | rw [if_neg hc2n] | rw [if_neg (not_not_intro hc2n)]); (try first | rw [if_pos hc3n] | rw [if_neg hc3n] | rw [if_neg (not_not_intro hc3n)]); (try first | rw [if_pos hc4n] | rw [if_neg hc4n] | rw [if_neg (not_not_intro hc4n)]); (try first | rw [if_pos hc5n] | rw [if_neg hc5n] | rw [if_neg (not_not_intro hc5n)]); (try first | rw [if_pos hc6n] | rw [if_neg hc6n] | rw [if_neg (not_not_intro hc6n)]); (try first | rw [if_pos hc7n] | rw [if_neg hc7n] | rw [if_neg (not_not_intro hc7n)]); (try first | rw [if_pos hc8n] | rw [if_neg hc8n] | rw [if_neg (not_not_intro hc8n)]); (try first | rw [if_pos hc9n] | rw [if_neg hc9n] | rw [if_neg (not_not_intro hc9n)]); (try first | rw [if_pos hc10] | rw [if_neg hc10] | rw [if_neg (not_not_intro hc10)]); (try first | rw [if_pos hc11] | rw [if_neg hc11] | rw [if_neg (not_not_intro hc11)]); first | done | rfl | exact ofb _ _ _) hZ
      | exact qZ_of (by unfold ofS; rw [if_neg (not_not_intro hDD)]; (try rw [tN_nI (by omega)]); (try first | rw [if_pos hc1n] | rw [if_neg hc1n] | rw [if_neg (not_not_intro hc1n)]); (try first | rw [if_pos hc2n] | rw [if_neg hc2n] | rw [if_neg (not_not_intro hc2n)]); (try first | rw [if_pos hc3n] | rw [if_neg hc3n] | rw [if_neg (not_not_intro hc3n)]); (try first | rw [if_pos hc4n] | rw [if_neg hc4n] | rw [if_neg (not_not_intro hc4n)]); (try first | rw [if_pos hc5n] | rw [if_neg hc5n] | rw [if_neg (not_not_intro hc5n)]); (try first | rw [if_pos hc6n] | rw [if_neg hc6n] | rw [if_neg (not_not_intro hc6n)]); (try first | rw [if_pos hc7n] | rw [if_neg hc7n] | rw [if_neg (not_not_intro hc7n)]); (try first | rw [if_pos hc8n] | rw [if_neg hc8n] | rw [if_neg (not_not_intro hc8n)]); (try first | rw [if_pos hc9n] | rw [if_neg hc9n] | rw [if_neg (not_not_intro hc9n)]); (try first | rw [if_pos hc10] | rw [if_neg hc10] | rw [if_neg (not_not_intro hc10)]); (try first | rw [if_pos hc11] | rw [if_neg hc11] | rw [if_neg (not_not_intro hc11)]); first | done | rfl) (hZ.sc hE hS)
  refine ⟨fun hc12 => ?_, fun hc12n => ?_⟩
  · show GG _ _ _ _ _ _ _ _ _ _ _ _ _
    refine g_aload_0 hX (dk DX11_of_0 57 rfl) ?_
    refine g_getRs (r := 1) hX (dk DX11_of_0 58 rfl) KX11 fX11_12 (by decide) rfl (CLt hH (q := 0) (by decide)) (CC hH 0 (by decide) rfl) (CR hH 0 0 1 (by decide)) ?_
    refine g_aload_3 hX (dk DX11_of_0 59 rfl) ?_
    refine g_aload_0 hX (dk DX11_of_1 0 rfl) ?_
    refine g_getRs (r := 1) hX (dk DX11_of_1 1 rfl) KX11 fX11_12 (by decide) rfl (CLt hH (q := 0) (by decide)) (CC hH 0 (by decide) rfl) (CR hH 0 0 1 (by decide)) ?_
    refine g_getIv hX (dk DX11_of_1 2 rfl) KX5 fX11_122 (by decide) rfl (CLt hH (q := 1) (by decide)) (CC hH 1 (by decide) rfl) (hY.2.1.1.2.1) ?_
    refine g_c3I hX sX11_of_176 (by decide) (Nat.le_of_ble_eq_true rfl) (rc0 rfl (CLt hH (by decide)) (CC hH 1 (by decide) rfl)) (by decide) (by decide) (c_X5_dearIn hG hW g3 (by rw [g4]; exact kcl_dc _)) ?_
    refine g_nmI (dearF E d (E 0 1)) (dear_e hE hZ hd) ?_
    refine g_ireturn hX (dk DX11_of_1 4 rfl) rfl (rfl) (by decide) (by decide) ?_
    first
    | exact qZ_of (by unfold ofS; rw [if_neg (not_not_intro hDD)]; (try rw [tN_nI (by omega)]); (try first | rw [if_pos hc1n] | rw [if_neg hc1n] | rw [if_neg (not_not_intro hc1n)]); (try first | rw [if_pos hc2n] | rw [if_neg hc2n] | rw [if_neg (not_not_intro hc2n)]); (try first | rw [if_pos hc3n] | rw [if_neg hc3n] | rw [if_neg (not_not_intro hc3n)]); (try first | rw [if_pos hc4n] | rw [if_neg hc4n] | rw [if_neg (not_not_intro hc4n)]); (try first | rw [if_pos hc5n] | rw [if_neg hc5n] | rw [if_neg (not_not_intro hc5n)]); (try first | rw [if_pos hc6n] | rw [if_neg hc6n] | rw [if_neg (not_not_intro hc6n)]); (try first | rw [if_pos hc7n] | rw [if_neg hc7n] | rw [if_neg (not_not_intro hc7n)]); (try first | rw [if_pos hc8n] | rw [if_neg hc8n] | rw [if_neg (not_not_intro hc8n)]); (try first | rw [if_pos hc9n] | rw [if_neg hc9n] | rw [if_neg (not_not_intro hc9n)]); (try first | rw [if_pos hc10n] | rw [if_neg hc10n] | rw [if_neg (not_not_intro hc10n)]); (try first | rw [if_pos hc12] | rw [if_neg hc12] | rw [if_neg (not_not_intro hc12)]); first | done | rfl | exact ofb _ _ _) hZ
    | exact qZ_of (by unfold ofS; rw [if_neg (not_not_intro hDD)]; (try rw [tN_nI (by omega)]); (try first | rw [if_pos hc1n] | rw [if_neg hc1n] | rw [if_neg (not_not_intro hc1n)]); (try first | rw [if_pos hc2n] | rw [if_neg hc2n] | rw [if_neg (not_not_intro hc2n)]); (try first | rw [if_pos hc3n] | rw [if_neg hc3n] | rw [if_neg (not_not_intro hc3n)]); (try first | rw [if_pos hc4n] | rw [if_neg hc4n] | rw [if_neg (not_not_intro hc4n)]); (try first | rw [if_pos hc5n] | rw [if_neg hc5n] | rw [if_neg (not_not_intro hc5n)]); (try first | rw [if_pos hc6n] | rw [if_neg hc6n] | rw [if_neg (not_not_intro hc6n)]); (try first | rw [if_pos hc7n] | rw [if_neg hc7n] | rw [if_neg (not_not_intro hc7n)]); (try first | rw [if_pos hc8n] | rw [if_neg hc8n] | rw [if_neg (not_not_intro hc8n)]); (try first | rw [if_pos hc9n] | rw [if_neg hc9n] | rw [if_neg (not_not_intro hc9n)]); (try first | rw [if_pos hc10n] | rw [if_neg hc10n] | rw [if_neg (not_not_intro hc10n)]); (try first | rw [if_pos hc12] | rw [if_neg hc12] | rw [if_neg (not_not_intro hc12)]); first | done | rfl) (hZ.sc hE hS)
  refine ⟨fun hc13 => ?_, fun hc13n => ?_⟩
  · show GG _ _ _ _ _ _ _ _ _ _ _ _ _
    refine g_aload_0 hX (dk DX11_of_1 5 rfl) ?_
    refine g_getRs (r := 1) hX (dk DX11_of_1 6 rfl) KX11 fX11_12 (by decide) rfl (CLt hH (q := 0) (by decide)) (CC hH 0 (by decide) rfl) (CR hH 0 0 1 (by decide)) ?_
    refine g_getRs (r := 3) hX (dk DX11_of_1 7 rfl) KX5 fX11_129 (by decide) rfl (CLt hH (q := 1) (by decide)) (CC hH 1 (by decide) rfl) (CR hH 1 1 3 (by decide)) ?_
    refine g_aload_3 hX (dk DX11_of_1 8 rfl) ?_
    refine g_getD (v := (nI d)) hX (dk DX11_of_1 9 rfl) fX11_132 (by decide) g3 (by rw [g4]; exact kcl_dc _) (g5) ?_
    refine v_iaload hX (dk DX11_of_1 10 rfl) (CLt hH (q := 3) (by decide)) (CS hH 3 (by decide) rfl) (⟨rfl, hd10, by decide⟩) (hY.2.1.2.1 d hd10) ?_
    refine g_ireturn hX (dk DX11_of_1 11 rfl) rfl (rfl) (by decide) (by decide) ?_
    first
    | exact qZ_of (by unfold ofS; rw [if_neg (not_not_intro hDD)]; (try rw [tN_nI (by omega)]); (try first | rw [if_pos hc1n] | rw [if_neg hc1n] | rw [if_neg (not_not_intro hc1n)]); (try first | rw [if_pos hc2n] | rw [if_neg hc2n] | rw [if_neg (not_not_intro hc2n)]); (try first | rw [if_pos hc3n] | rw [if_neg hc3n] | rw [if_neg (not_not_intro hc3n)]); (try first | rw [if_pos hc4n] | rw [if_neg hc4n] | rw [if_neg (not_not_intro hc4n)]); (try first | rw [if_pos hc5n] | rw [if_neg hc5n] | rw [if_neg (not_not_intro hc5n)]); (try first | rw [if_pos hc6n] | rw [if_neg hc6n] | rw [if_neg (not_not_intro hc6n)]); (try first | rw [if_pos hc7n] | rw [if_neg hc7n] | rw [if_neg (not_not_intro hc7n)]); (try first | rw [if_pos hc8n] | rw [if_neg hc8n] | rw [if_neg (not_not_intro hc8n)]); (try first | rw [if_pos hc9n] | rw [if_neg hc9n] | rw [if_neg (not_not_intro hc9n)]); (try first | rw [if_pos hc10n] | rw [if_neg hc10n] | rw [if_neg (not_not_intro hc10n)]); (try first | rw [if_pos hc12n] | rw [if_neg hc12n] | rw [if_neg (not_not_intro hc12n)]); (try first | rw [if_pos hc13] | rw [if_neg hc13] | rw [if_neg (not_not_intro hc13)]); first | done | rfl | exact ofb _ _ _) hZ
    | exact qZ_of (by unfold ofS; rw [if_neg (not_not_intro hDD)]; (try rw [tN_nI (by omega)]); (try first | rw [if_pos hc1n] | rw [if_neg hc1n] | rw [if_neg (not_not_intro hc1n)]); (try first | rw [if_pos hc2n] | rw [if_neg hc2n] | rw [if_neg (not_not_intro hc2n)]); (try first | rw [if_pos hc3n] | rw [if_neg hc3n] | rw [if_neg (not_not_intro hc3n)]); (try first | rw [if_pos hc4n] | rw [if_neg hc4n] | rw [if_neg (not_not_intro hc4n)]); (try first | rw [if_pos hc5n] | rw [if_neg hc5n] | rw [if_neg (not_not_intro hc5n)]); (try first | rw [if_pos hc6n] | rw [if_neg hc6n] | rw [if_neg (not_not_intro hc6n)]); (try first | rw [if_pos hc7n] | rw [if_neg hc7n] | rw [if_neg (not_not_intro hc7n)]); (try first | rw [if_pos hc8n] | rw [if_neg hc8n] | rw [if_neg (not_not_intro hc8n)]); (try first | rw [if_pos hc9n] | rw [if_neg hc9n] | rw [if_neg (not_not_intro hc9n)]); (try first | rw [if_pos hc10n] | rw [if_neg hc10n] | rw [if_neg (not_not_intro hc10n)]); (try first | rw [if_pos hc12n] | rw [if_neg hc12n] | rw [if_neg (not_not_intro hc12n)]); (try first | rw [if_pos hc13] | rw [if_neg hc13] | rw [if_neg (not_not_intro hc13)]); first | done | rfl) (hZ.sc hE hS)
  show GG _ _ _ _ _ _ _ _ _ _ _ _ _
  refine g_sipush (v := -10001) hX (dk DX11_of_1 12 rfl) (by decide) ?_
  refine g_ireturn hX (dk DX11_of_1 13 rfl) rfl (rfl) (by decide) (by decide) ?_
  first
  | exact qZ_of (by unfold ofS; rw [if_neg (not_not_intro hDD)]; (try rw [tN_nI (by omega)]); (try first | rw [if_pos hc1n] | rw [if_neg hc1n] | rw [if_neg (not_not_intro hc1n)]); (try first | rw [if_pos hc2n] | rw [if_neg hc2n] | rw [if_neg (not_not_intro hc2n)]); (try first | rw [if_pos hc3n] | rw [if_neg hc3n] | rw [if_neg (not_not_intro hc3n)]); (try first | rw [if_pos hc4n] | rw [if_neg hc4n] | rw [if_neg (not_not_intro hc4n)]); (try first | rw [if_pos hc5n] | rw [if_neg hc5n] | rw [if_neg (not_not_intro hc5n)]); (try first | rw [if_pos hc6n] | rw [if_neg hc6n] | rw [if_neg (not_not_intro hc6n)]); (try first | rw [if_pos hc7n] | rw [if_neg hc7n] | rw [if_neg (not_not_intro hc7n)]); (try first | rw [if_pos hc8n] | rw [if_neg hc8n] | rw [if_neg (not_not_intro hc8n)]); (try first | rw [if_pos hc9n] | rw [if_neg hc9n] | rw [if_neg (not_not_intro hc9n)]); (try first | rw [if_pos hc10n] | rw [if_neg hc10n] | rw [if_neg (not_not_intro hc10n)]); (try first | rw [if_pos hc12n] | rw [if_neg hc12n] | rw [if_neg (not_not_intro hc12n)]); (try first | rw [if_pos hc13n] | rw [if_neg hc13n] | rw [if_neg (not_not_intro hc13n)]); first | done | rfl | exact ofb _ _ _) hZ
  | exact qZ_of (by unfold ofS; rw [if_neg (not_not_intro hDD)]; (try rw [tN_nI (by omega)]); (try first | rw [if_pos hc1n] | rw [if_neg hc1n] | rw [if_neg (not_not_intro hc1n)]); (try first | rw [if_pos hc2n] | rw [if_neg hc2n] | rw [if_neg (not_not_intro hc2n)]); (try first | rw [if_pos hc3n] | rw [if_neg hc3n] | rw [if_neg (not_not_intro hc3n)]); (try first | rw [if_pos hc4n] | rw [if_neg hc4n] | rw [if_neg (not_not_intro hc4n)]); (try first | rw [if_pos hc5n] | rw [if_neg hc5n] | rw [if_neg (not_not_intro hc5n)]); (try first | rw [if_pos hc6n] | rw [if_neg hc6n] | rw [if_neg (not_not_intro hc6n)]); (try first | rw [if_pos hc7n] | rw [if_neg hc7n] | rw [if_neg (not_not_intro hc7n)]); (try first | rw [if_pos hc8n] | rw [if_neg hc8n] | rw [if_neg (not_not_intro hc8n)]); (try first | rw [if_pos hc9n] | rw [if_neg hc9n] | rw [if_neg (not_not_intro hc9n)]); (try first | rw [if_pos hc10n] | rw [if_neg hc10n] | rw [if_neg (not_not_intro hc10n)]); (try first | rw [if_pos hc12n] | rw [if_neg hc12n] | rw [if_neg (not_not_intro hc12n)]); (try first | rw [if_pos hc13n] | rw [if_neg hc13n] | rw [if_neg (not_not_intro hc13n)]); first | done | rfl) (hZ.sc hE hS)

set_option maxRecDepth 8000 in
set_option maxHeartbeats 4000000 in
theorem zz_of {G : Gt} (hG : Gok G) {I : It} {h : Ht}  {E : It} {L : Nat → Int64} (hE : Inv E) (hZ : RZ E L I h) {a : Int32} (hno : ¬ isD E a) {w : Int32} : Con G (8) 0 0 mX11_of [.ref 0, .int a, .int w] I h (qZ (ofS E a w) L (hn h)) := by
  refine con_intro (own := RX11) (lo0 := [some (.ref 0), some (.int a), some (.int w), none]) hG rfl pl_X11 (Nat.le_of_ble_eq_true rfl) rfl (fun X hX => ?_)
  have hY := hZ.1
  have hW := hY.wx hE
  have hH := hW.1
  have hc10 := hW.2.1.2
  have hcE := (inv_cnt hE).2
  refine g_aload_0 hX (dk DX11_of_0 0 rfl) ?_
  refine g_getRs (r := 1) hX (dk DX11_of_0 1 rfl) KX11 fX11_12 (by decide) rfl (CLt hH (q := 0) (by decide)) (CC hH 0 (by decide) rfl) (CR hH 0 0 1 (by decide)) ?_
  refine g_iload_1 hX (dk DX11_of_0 2 rfl) ?_
  refine g_c2R hX sX11_of_5 (by decide) (Nat.le_of_ble_eq_true rfl) (rc0 rfl (CLt hH (by decide)) (CC hH 1 (by decide) rfl)) (by decide) (by decide) (c_X5_find0 hG hW (hY.no hE hno)) ?_
  refine g_astoreN_3 hX (dk DX11_of_0 4 rfl) (by decide) rfl ?_
  refine g_aloadN_3 hX (dk DX11_of_0 5 rfl) ?_
  refine g_ifnonnullN hX (dk DX11_of_0 6 rfl) ?_
  refine g_sipush (v := -10001) hX (dk DX11_of_0 7 rfl) (by decide) ?_
  refine g_ireturn hX (dk DX11_of_0 8 rfl) rfl (rfl) (by decide) (by decide) ?_
  exact qZ_of (by unfold ofS; rw [if_pos hno]) hZ

theorem zx_of {G : Gt} (hG : Gok G) {I : It} {h : Ht} {E : It} {L : Nat → Int64} (hE : Inv E) (hZ : RZ E L I h) {a : Int32} {w : Int32} : Con G 8 0 0 mX11_of [.ref 0, .int a, .int w] I h (qZ (ofS E a w) L (hn h)) := by
  by_cases hh : isD E a
  · obtain ⟨d, hd, rfl⟩ := isD_of hE hh
    exact zy_of hG hE hZ hd (w := w)
  · exact zz_of hG hE hZ hh (w := w)
end
section
set_option maxRecDepth 8000 in
set_option maxHeartbeats 4000000 in
theorem zx_hand {G : Gt} (hG : Gok G) {I : It} {h : Ht}  {E : It} {L : Nat → Int64} (hE : Inv E) (hZ : RZ E L I h)  : Con G (8) 0 0 mX11_hand [.ref 0] I h (qZ (handS E) L (hn h)) := by
  refine con_intro (own := RX11) (lo0 := [some (.ref 0), none]) hG rfl pl_X11 (Nat.le_of_ble_eq_true rfl) rfl (fun X hX => ?_)
  have hY := hZ.1
  have hW := hY.wx hE
  have hH := hW.1
  have hc10 := hW.2.1.2
  have hcE := (inv_cnt hE).2
  refine g_aload_0 hX (dk DX11_hand 0 rfl) ?_
  refine g_getRs (r := 13) hX (dk DX11_hand 1 rfl) KX11 fX11_26 (by decide) rfl (CLt hH (q := 0) (by decide)) (CC hH 0 (by decide) rfl) (CR hH 0 3 13 (by decide)) ?_
  refine g_c1v hX sX11_hand_4 (by decide) (Nat.le_of_ble_eq_true rfl) (rc0 rfl (CLt hH (by decide)) (CC hH 13 (by decide) rfl)) (by decide) (by decide) (e_hear hG hE hZ) ?_
  rintro J _ ⟨q1, hHD, rfl⟩
  have hS : Sc I J := fun a ha => q1 a (by omega)
  have hZJ := hZ.sc hE hS
  obtain ⟨m9, hm9, em9, on9, or9⟩ := hand_e (inv_kn hE) (kb_over (E 8) hcE) hcE
  refine g_aload_0 hX (dk DX11_hand 3 rfl) ?_
  refine g_getRs (r := 13) hX (dk DX11_hand 4 rfl) KX11 fX11_26 (by decide) rfl (CLt hH (q := 0) (by decide)) (CC hH 0 (by decide) rfl) (CR hH 0 3 13 (by decide)) ?_
  refine g_aload_0 hX (dk DX11_hand 5 rfl) ?_
  refine g_getRs (r := 1) hX (dk DX11_hand 6 rfl) KX11 fX11_12 (by decide) rfl (CLt hH (q := 0) (by decide)) (CC hH 0 (by decide) rfl) (CR hH 0 0 1 (by decide)) ?_
  refine g_getRs (r := 4) hX (dk DX11_hand 7 rfl) KX5 fX11_139 (by decide) rfl (CLt hH (q := 1) (by decide)) (CC hH 1 (by decide) rfl) (CR hH 1 5 4 (by decide)) ?_
  refine g_c2I hX sX11_hand_18 (by decide) (Nat.le_of_ble_eq_true rfl) (rc0 rfl (CLt hH (by decide)) (CC hH 13 (by decide) rfl)) (by decide) (by decide) (e_goingOver hG hE hZJ (CLt hH (q := 4) (by decide)) (CS hH 4 (by decide) rfl) hHD) ?_
  refine g_nmI (overF E (E 8)) (overF_hr (fun y hy => hZJ.1.2.1.2.2.1 y hy)) ?_
  refine g_aload_0 hX (dk DX11_hand 9 rfl) ?_
  refine g_getRs (r := 1) hX (dk DX11_hand 10 rfl) KX11 fX11_12 (by decide) rfl (CLt hH (q := 0) (by decide)) (CC hH 0 (by decide) rfl) (CR hH 0 0 1 (by decide)) ?_
  refine g_getIv hX (dk DX11_hand 11 rfl) KX5 fX11_116 (by decide) rfl (CLt hH (q := 1) (by decide)) (CC hH 1 (by decide) rfl) (hZJ.2.1.1) ?_
  refine g_iconst (v := -1) hX (dk DX11_hand 12 rfl) (by decide) ?_
  refine g_ixor hX (dk DX11_hand 13 rfl) ?_
  refine g_iand hX (dk DX11_hand 14 rfl) ?_
  refine g_istore_1 hX (dk DX11_hand 15 rfl) (by decide) rfl ?_
  refine g_aload_0 hX (dk DX11_hand 16 rfl) ?_
  refine g_getRs (r := 1) hX (dk DX11_hand 17 rfl) KX11 fX11_12 (by decide) rfl (CLt hH (q := 0) (by decide)) (CC hH 0 (by decide) rfl) (CR hH 0 0 1 (by decide)) ?_
  refine g_dup hX (dk DX11_hand 18 rfl) rfl ?_
  refine g_getIv hX (dk DX11_hand 19 rfl) KX5 fX11_116 (by decide) rfl (CLt hH (q := 1) (by decide)) (CC hH 1 (by decide) rfl) (hZJ.2.1.1) ?_
  refine g_iload_1 hX (dk DX11_hand 20 rfl) ?_
  refine g_ior hX (dk DX11_hand 21 rfl) ?_
  rw [or9]
  refine g_putI hX (dk DX11_hand 22 rfl) KX5 fX11_116 (by decide) rfl (CLt hH (q := 1) (by decide)) (CC hH 1 (by decide) rfl) (Or.inl rfl) (rfl) (rfl) ?_
  refine g_iload_1 hX (dk DX11_hand 23 rfl) ?_
  refine g_c1q hX sX11_hand_46 (by decide) (Nat.le_of_ble_eq_true rfl) rcN (by decide) (by decide) (c_J6_bitCount_0f7a4 hG) ?_
  rintro y9 I9 h9 ⟨hy, e1, e2⟩
  subst e1
  subst e2
  refine g_nmI (onesI (E 0 5 ||| overF E (E 8)) - onesI (E 0 5)) ((hy m9 hm9 em9).trans on9) ?_
  refine g_ireturn hX (dk DX11_hand 25 rfl) rfl (rfl) (by decide) (by decide) ?_
  exact qZ_of rfl (by exact hZJ.wK)
end
section
set_option maxRecDepth 8000 in
set_option maxHeartbeats 4000000 in
theorem zx_run {G : Gt} (hG : Gok G) {I : It} {h : Ht}  {E : It} {L : Nat → Int64} (hE : Inv E) (hZ : RZ E L I h) {n w : Int32} : Con G (8) 0 0 mX11_run [.ref 0, .int n, .int w] I h (qZ (runS E n w) L (hn h)) := by
  refine con_intro (own := RX11) (lo0 := [some (.ref 0), some (.int n), some (.int w), none]) hG rfl pl_X11 (Nat.le_of_ble_eq_true rfl) rfl (fun X hX => ?_)
  have hY := hZ.1
  have hW := hY.wx hE
  have hH := hW.1
  have hc10 := hW.2.1.2
  have hcE := (inv_cnt hE).2
  refine g_iload_2 hX (dk DX11_run 0 rfl) ?_
  refine g_iconst (v := 0) hX (dk DX11_run 1 rfl) (by decide) ?_
  refine g_iconst (v := 5) hX (dk DX11_run 2 rfl) (by decide) ?_
  refine g_c3I hX sX11_run_3 (by decide) (Nat.le_of_ble_eq_true rfl) rcN (by decide) (by decide) (c_X11_isNot hG ) ?_
  refine g_ifb_eq (tgt := 13) hX (dk DX11_run 4 rfl) (by decide) (fun hc1 => ?_) (fun hc1 => ?_)
  · refine g_iload_1 hX (dk DX11_run 7 rfl) ?_
    refine g_iconst (v := 0) hX (dk DX11_run 8 rfl) (by decide) ?_
    refine g_sipush (v := 200) hX (dk DX11_run 9 rfl) (by decide) ?_
    refine g_c3I hX sX11_run_18 (by decide) (Nat.le_of_ble_eq_true rfl) rcN (by decide) (by decide) (c_X11_isNot hG ) ?_
    refine g_ifb_eq (tgt := 28) hX (dk DX11_run 11 rfl) (by decide) (fun hc2 => ?_) (fun hc2 => ?_)
    · obtain ⟨m, hm, rfl⟩ := in_of (b := 200) (by decide) (Decidable.not_not.mp hc2)
      have hm2 : m ≤ 200 := by omega
      refine g_aload_0 hX (dk DX11_run 14 rfl) ?_
      refine g_getRs (r := 13) hX (dk DX11_run 15 rfl) KX11 fX11_26 (by decide) rfl (CLt hH (q := 0) (by decide)) (CC hH 0 (by decide) rfl) (CR hH 0 3 13 (by decide)) ?_
      refine g_iload_1 hX (dk DX11_run 16 rfl) ?_
      refine g_c2v hX sX11_run_33 (by decide) (Nat.le_of_ble_eq_true rfl) (rc0 rfl (CLt hH (by decide)) (CC hH 13 (by decide) rfl)) (by decide) (by decide) (e_look hG hE hZ hm2) ?_
      rintro J _ ⟨hS, hsp, hAH, rfl⟩
      have hZJ := hZ.sc hE hS
      have hWJ := hZJ.1.wx hE
      refine g_aload_0 hX (dk DX11_run 18 rfl) ?_
      refine g_getRs (r := 13) hX (dk DX11_run 19 rfl) KX11 fX11_26 (by decide) rfl (CLt hH (q := 0) (by decide)) (CC hH 0 (by decide) rfl) (CR hH 0 3 13 (by decide)) ?_
      refine g_aload_0 hX (dk DX11_run 20 rfl) ?_
      refine g_getRs (r := 1) hX (dk DX11_run 21 rfl) KX11 fX11_12 (by decide) rfl (CLt hH (q := 0) (by decide)) (CC hH 0 (by decide) rfl) (CR hH 0 0 1 (by decide)) ?_
      refine g_getIv hX (dk DX11_run 22 rfl) KX5 fX11_116 (by decide) rfl (CLt hH (q := 1) (by decide)) (CC hH 1 (by decide) rfl) (hZJ.2.1.1) ?_
      refine g_aload_0 hX (dk DX11_run 23 rfl) ?_
      refine g_getRs (r := 1) hX (dk DX11_run 24 rfl) KX11 fX11_12 (by decide) rfl (CLt hH (q := 0) (by decide)) (CC hH 0 (by decide) rfl) (CR hH 0 0 1 (by decide)) ?_
      refine g_getIv hX (dk DX11_run 25 rfl) KX5 fX11_109 (by decide) rfl (CLt hH (q := 1) (by decide)) (CC hH 1 (by decide) rfl) (hZJ.1.2.1.1.2.2.1) ?_
      refine g_c3q hX sX11_run_54 (by decide) (Nat.le_of_ble_eq_true rfl) (rc0 rfl (CLt hH (by decide)) (CC hH 13 (by decide) rfl)) (by decide) (by decide) (e_pass hG hE hZJ (inv_kn hE) (inv_id hE) hm2 hsp hAH) ?_
      rintro _ J2 h9 ⟨rfl, hT, hP2, e9⟩
      subst e9
      obtain ⟨k1, k2, k3, k4, k5, k6⟩ := hT.all
      have hS2 := hS.trans hP2.sc
      have hZ2 := hZ.sc hE hS2
      refine g_istore_3 hX (dk DX11_run 27 rfl) (by decide) rfl ?_
      refine g_iload_2 hX (dk DX11_run 28 rfl) ?_
      refine g_tswitch (dt := 129) hX [(0, 92), (1, 94), (2, 102), (3, 110), (4, 121)] (dk DX11_run 29 rfl) (by decide +kernel) ?_
      refine ⟨fun hc3 => ?_, fun hc3n => ?_⟩
      · show GG _ _ _ _ _ _ _ _ _ _ _ _ _
        refine g_iload_3 hX (dk DX11_run 30 rfl) ?_
        refine g_ireturn hX (dk DX11_run 31 rfl) rfl (rfl) (by decide) (by decide) ?_
        first
        | exact qZ_of (by unfold runS; (try first | rw [if_pos hc1] | rw [if_neg hc1] | rw [if_neg (not_not_intro hc1)]); (try first | rw [if_pos hc2] | rw [if_neg hc2] | rw [if_neg (not_not_intro hc2)]); (try first | rw [if_pos hc3] | rw [if_neg hc3] | rw [if_neg (not_not_intro hc3)]); first | done | rfl) hZ
        | exact qZ_of (by unfold runS; (try simp only [tN_nI (show m < 2 ^ 31 by omega)]); (try first | rw [if_pos hc1] | rw [if_neg hc1] | rw [if_neg (not_not_intro hc1)]); (try first | rw [if_pos hc2] | rw [if_neg hc2] | rw [if_neg (not_not_intro hc2)]); (try first | rw [if_pos hc3] | rw [if_neg hc3] | rw [if_neg (not_not_intro hc3)]); first | done | rfl) hZ2
      refine ⟨fun hc4 => ?_, fun hc4n => ?_⟩
      · show GG _ _ _ _ _ _ _ _ _ _ _ _ _
        refine g_aload_0 hX (dk DX11_run 32 rfl) ?_
        refine g_getRs (r := 13) hX (dk DX11_run 33 rfl) KX11 fX11_26 (by decide) rfl (CLt hH (q := 0) (by decide)) (CC hH 0 (by decide) rfl) (CR hH 0 3 13 (by decide)) ?_
        refine g_getIv hX (dk DX11_run 34 rfl) KX0 fX11_193 (by decide) rfl (CLt hH (q := 13) (by decide)) (CC hH 13 (by decide) rfl) (k3) ?_
        refine g_ireturn hX (dk DX11_run 35 rfl) rfl (rfl) (by decide) (by decide) ?_
        first
        | exact qZ_of (by unfold runS; (try first | rw [if_pos hc1] | rw [if_neg hc1] | rw [if_neg (not_not_intro hc1)]); (try first | rw [if_pos hc2] | rw [if_neg hc2] | rw [if_neg (not_not_intro hc2)]); (try first | rw [if_pos hc3n] | rw [if_neg hc3n] | rw [if_neg (not_not_intro hc3n)]); (try first | rw [if_pos hc4] | rw [if_neg hc4] | rw [if_neg (not_not_intro hc4)]); first | done | rfl) hZ
        | exact qZ_of (by unfold runS; (try simp only [tN_nI (show m < 2 ^ 31 by omega)]); (try first | rw [if_pos hc1] | rw [if_neg hc1] | rw [if_neg (not_not_intro hc1)]); (try first | rw [if_pos hc2] | rw [if_neg hc2] | rw [if_neg (not_not_intro hc2)]); (try first | rw [if_pos hc3n] | rw [if_neg hc3n] | rw [if_neg (not_not_intro hc3n)]); (try first | rw [if_pos hc4] | rw [if_neg hc4] | rw [if_neg (not_not_intro hc4)]); first | done | rfl) hZ2
      refine ⟨fun hc5 => ?_, fun hc5n => ?_⟩
      · show GG _ _ _ _ _ _ _ _ _ _ _ _ _
        refine g_aload_0 hX (dk DX11_run 36 rfl) ?_
        refine g_getRs (r := 13) hX (dk DX11_run 37 rfl) KX11 fX11_26 (by decide) rfl (CLt hH (q := 0) (by decide)) (CC hH 0 (by decide) rfl) (CR hH 0 3 13 (by decide)) ?_
        refine g_getIv hX (dk DX11_run 38 rfl) KX0 fX11_194 (by decide) rfl (CLt hH (q := 13) (by decide)) (CC hH 13 (by decide) rfl) (k4) ?_
        refine g_ireturn hX (dk DX11_run 39 rfl) rfl (rfl) (by decide) (by decide) ?_
        first
        | exact qZ_of (by unfold runS; (try first | rw [if_pos hc1] | rw [if_neg hc1] | rw [if_neg (not_not_intro hc1)]); (try first | rw [if_pos hc2] | rw [if_neg hc2] | rw [if_neg (not_not_intro hc2)]); (try first | rw [if_pos hc3n] | rw [if_neg hc3n] | rw [if_neg (not_not_intro hc3n)]); (try first | rw [if_pos hc4n] | rw [if_neg hc4n] | rw [if_neg (not_not_intro hc4n)]); (try first | rw [if_pos hc5] | rw [if_neg hc5] | rw [if_neg (not_not_intro hc5)]); first | done | rfl) hZ
        | exact qZ_of (by unfold runS; (try simp only [tN_nI (show m < 2 ^ 31 by omega)]); (try first | rw [if_pos hc1] | rw [if_neg hc1] | rw [if_neg (not_not_intro hc1)]); (try first | rw [if_pos hc2] | rw [if_neg hc2] | rw [if_neg (not_not_intro hc2)]); (try first | rw [if_pos hc3n] | rw [if_neg hc3n] | rw [if_neg (not_not_intro hc3n)]); (try first | rw [if_pos hc4n] | rw [if_neg hc4n] | rw [if_neg (not_not_intro hc4n)]); (try first | rw [if_pos hc5] | rw [if_neg hc5] | rw [if_neg (not_not_intro hc5)]); first | done | rfl) hZ2
      refine ⟨fun hc6 => ?_, fun hc6n => ?_⟩
      · show GG _ _ _ _ _ _ _ _ _ _ _ _ _
        refine g_aload_0 hX (dk DX11_run 40 rfl) ?_
        refine g_getRs (r := 13) hX (dk DX11_run 41 rfl) KX11 fX11_26 (by decide) rfl (CLt hH (q := 0) (by decide)) (CC hH 0 (by decide) rfl) (CR hH 0 3 13 (by decide)) ?_
        refine g_getIv hX (dk DX11_run 42 rfl) KX0 fX11_195 (by decide) rfl (CLt hH (q := 13) (by decide)) (CC hH 13 (by decide) rfl) (k1) ?_
        refine g_c1q hX sX11_run_117 (by decide) (Nat.le_of_ble_eq_true rfl) rcN (by decide) (by decide) (c_J6_bitCount_0f7a4 hG) ?_
        rintro y9 I9 h9 ⟨hy, rfl, rfl⟩
        obtain ⟨m9, hm9, em9⟩ := kb_lt (kb_run hE (inv_kn hE)) hcE
        refine g_nmI (onesI ((runF E (E 0 5) (E 0 6) m).2.1)) (by rw [hy m9 hm9 em9]; unfold onesI; rw [em9, tN_nI (by omega)]) ?_
        refine g_ireturn hX (dk DX11_run 44 rfl) rfl (rfl) (by decide) (by decide) ?_
        first
        | exact qZ_of (by unfold runS; (try first | rw [if_pos hc1] | rw [if_neg hc1] | rw [if_neg (not_not_intro hc1)]); (try first | rw [if_pos hc2] | rw [if_neg hc2] | rw [if_neg (not_not_intro hc2)]); (try first | rw [if_pos hc3n] | rw [if_neg hc3n] | rw [if_neg (not_not_intro hc3n)]); (try first | rw [if_pos hc4n] | rw [if_neg hc4n] | rw [if_neg (not_not_intro hc4n)]); (try first | rw [if_pos hc5n] | rw [if_neg hc5n] | rw [if_neg (not_not_intro hc5n)]); (try first | rw [if_pos hc6] | rw [if_neg hc6] | rw [if_neg (not_not_intro hc6)]); first | done | rfl) hZ
        | exact qZ_of (by unfold runS; (try simp only [tN_nI (show m < 2 ^ 31 by omega)]); (try first | rw [if_pos hc1] | rw [if_neg hc1] | rw [if_neg (not_not_intro hc1)]); (try first | rw [if_pos hc2] | rw [if_neg hc2] | rw [if_neg (not_not_intro hc2)]); (try first | rw [if_pos hc3n] | rw [if_neg hc3n] | rw [if_neg (not_not_intro hc3n)]); (try first | rw [if_pos hc4n] | rw [if_neg hc4n] | rw [if_neg (not_not_intro hc4n)]); (try first | rw [if_pos hc5n] | rw [if_neg hc5n] | rw [if_neg (not_not_intro hc5n)]); (try first | rw [if_pos hc6] | rw [if_neg hc6] | rw [if_neg (not_not_intro hc6)]); first | done | rfl) hZ2
      refine ⟨fun hc7 => ?_, fun hc7n => ?_⟩
      · show GG _ _ _ _ _ _ _ _ _ _ _ _ _
        refine g_aload_0 hX (dk DX11_run 45 rfl) ?_
        refine g_getRs (r := 13) hX (dk DX11_run 46 rfl) KX11 fX11_26 (by decide) rfl (CLt hH (q := 0) (by decide)) (CC hH 0 (by decide) rfl) (CR hH 0 3 13 (by decide)) ?_
        refine g_getIv hX (dk DX11_run 47 rfl) KX0 fX11_196 (by decide) rfl (CLt hH (q := 13) (by decide)) (CC hH 13 (by decide) rfl) (k5) ?_
        refine g_ireturn hX (dk DX11_run 48 rfl) rfl (rfl) (by decide) (by decide) ?_
        first
        | exact qZ_of (by unfold runS; (try first | rw [if_pos hc1] | rw [if_neg hc1] | rw [if_neg (not_not_intro hc1)]); (try first | rw [if_pos hc2] | rw [if_neg hc2] | rw [if_neg (not_not_intro hc2)]); (try first | rw [if_pos hc3n] | rw [if_neg hc3n] | rw [if_neg (not_not_intro hc3n)]); (try first | rw [if_pos hc4n] | rw [if_neg hc4n] | rw [if_neg (not_not_intro hc4n)]); (try first | rw [if_pos hc5n] | rw [if_neg hc5n] | rw [if_neg (not_not_intro hc5n)]); (try first | rw [if_pos hc6n] | rw [if_neg hc6n] | rw [if_neg (not_not_intro hc6n)]); (try first | rw [if_pos hc7] | rw [if_neg hc7] | rw [if_neg (not_not_intro hc7)]); first | done | rfl) hZ
        | exact qZ_of (by unfold runS; (try simp only [tN_nI (show m < 2 ^ 31 by omega)]); (try first | rw [if_pos hc1] | rw [if_neg hc1] | rw [if_neg (not_not_intro hc1)]); (try first | rw [if_pos hc2] | rw [if_neg hc2] | rw [if_neg (not_not_intro hc2)]); (try first | rw [if_pos hc3n] | rw [if_neg hc3n] | rw [if_neg (not_not_intro hc3n)]); (try first | rw [if_pos hc4n] | rw [if_neg hc4n] | rw [if_neg (not_not_intro hc4n)]); (try first | rw [if_pos hc5n] | rw [if_neg hc5n] | rw [if_neg (not_not_intro hc5n)]); (try first | rw [if_pos hc6n] | rw [if_neg hc6n] | rw [if_neg (not_not_intro hc6n)]); (try first | rw [if_pos hc7] | rw [if_neg hc7] | rw [if_neg (not_not_intro hc7)]); first | done | rfl) hZ2
      show GG _ _ _ _ _ _ _ _ _ _ _ _ _
      refine g_aload_0 hX (dk DX11_run 49 rfl) ?_
      refine g_getRs (r := 13) hX (dk DX11_run 50 rfl) KX11 fX11_26 (by decide) rfl (CLt hH (q := 0) (by decide)) (CC hH 0 (by decide) rfl) (CR hH 0 3 13 (by decide)) ?_
      refine g_getIv hX (dk DX11_run 51 rfl) KX0 fX11_199 (by decide) rfl (CLt hH (q := 13) (by decide)) (CC hH 13 (by decide) rfl) (k6) ?_
      refine g_ireturn hX (dk DX11_run 52 rfl) rfl (rfl) (by decide) (by decide) ?_
      first
      | exact qZ_of (by unfold runS; (try first | rw [if_pos hc1] | rw [if_neg hc1] | rw [if_neg (not_not_intro hc1)]); (try first | rw [if_pos hc2] | rw [if_neg hc2] | rw [if_neg (not_not_intro hc2)]); (try first | rw [if_pos hc3n] | rw [if_neg hc3n] | rw [if_neg (not_not_intro hc3n)]); (try first | rw [if_pos hc4n] | rw [if_neg hc4n] | rw [if_neg (not_not_intro hc4n)]); (try first | rw [if_pos hc5n] | rw [if_neg hc5n] | rw [if_neg (not_not_intro hc5n)]); (try first | rw [if_pos hc6n] | rw [if_neg hc6n] | rw [if_neg (not_not_intro hc6n)]); (try first | rw [if_pos hc7n] | rw [if_neg hc7n] | rw [if_neg (not_not_intro hc7n)]); first | done | rfl) hZ
      | exact qZ_of (by unfold runS; (try simp only [tN_nI (show m < 2 ^ 31 by omega)]); (try first | rw [if_pos hc1] | rw [if_neg hc1] | rw [if_neg (not_not_intro hc1)]); (try first | rw [if_pos hc2] | rw [if_neg hc2] | rw [if_neg (not_not_intro hc2)]); (try first | rw [if_pos hc3n] | rw [if_neg hc3n] | rw [if_neg (not_not_intro hc3n)]); (try first | rw [if_pos hc4n] | rw [if_neg hc4n] | rw [if_neg (not_not_intro hc4n)]); (try first | rw [if_pos hc5n] | rw [if_neg hc5n] | rw [if_neg (not_not_intro hc5n)]); (try first | rw [if_pos hc6n] | rw [if_neg hc6n] | rw [if_neg (not_not_intro hc6n)]); (try first | rw [if_pos hc7n] | rw [if_neg hc7n] | rw [if_neg (not_not_intro hc7n)]); first | done | rfl) hZ2
    · refine g_sipush (v := -10002) hX (dk DX11_run 12 rfl) (by decide) ?_
      refine g_ireturn hX (dk DX11_run 13 rfl) rfl (rfl) (by decide) (by decide) ?_
      first
      | exact qZ_of (by unfold runS; (try first | rw [if_pos hc1] | rw [if_neg hc1] | rw [if_neg (not_not_intro hc1)]); (try first | rw [if_pos hc2] | rw [if_neg hc2] | rw [if_neg (not_not_intro hc2)]); first | done | rfl) hZ
      | exact qZ_of (by unfold runS; (try simp only [tN_nI (show m < 2 ^ 31 by omega)]); (try first | rw [if_pos hc1] | rw [if_neg hc1] | rw [if_neg (not_not_intro hc1)]); (try first | rw [if_pos hc2] | rw [if_neg hc2] | rw [if_neg (not_not_intro hc2)]); first | done | rfl) hZ2
  · refine g_sipush (v := -10001) hX (dk DX11_run 5 rfl) (by decide) ?_
    refine g_ireturn hX (dk DX11_run 6 rfl) rfl (rfl) (by decide) (by decide) ?_
    first
    | exact qZ_of (by unfold runS; (try first | rw [if_pos hc1] | rw [if_neg hc1] | rw [if_neg (not_not_intro hc1)]); first | done | rfl) hZ
    | exact qZ_of (by unfold runS; (try simp only [tN_nI (show m < 2 ^ 31 by omega)]); (try first | rw [if_pos hc1] | rw [if_neg hc1] | rw [if_neg (not_not_intro hc1)]); first | done | rfl) hZ2

set_option maxRecDepth 8000 in
set_option maxHeartbeats 4000000 in
theorem zx_ask {G : Gt} (hG : Gok G) {I : It} {h : Ht}  {E : It} {L : Nat → Int64} (hE : Inv E) (hZ : RZ E L I h) {n : Int32} : Con G (8) 0 0 mX11_ask [.ref 0, .int n] I h (qZ (askS E n) L (hn h)) := by
  refine con_intro (own := RX11) (lo0 := [some (.ref 0), some (.int n)]) hG rfl pl_X11 (Nat.le_of_ble_eq_true rfl) rfl (fun X hX => ?_)
  have hY := hZ.1
  have hW := hY.wx hE
  have hH := hW.1
  have hc10 := hW.2.1.2
  have hcE := (inv_cnt hE).2
  refine g_iload_1 hX (dk DX11_ask 0 rfl) ?_
  refine g_iconst (v := 0) hX (dk DX11_ask 1 rfl) (by decide) ?_
  refine g_bipush (v := 60) hX (dk DX11_ask 2 rfl) (by decide) ?_
  refine g_c3I hX sX11_ask_4 (by decide) (Nat.le_of_ble_eq_true rfl) rcN (by decide) (by decide) (c_X11_isNot hG ) ?_
  refine g_ifb_eq (tgt := 13) hX (dk DX11_ask 4 rfl) (by decide) (fun hc1 => ?_) (fun hc1 => ?_)
  · obtain ⟨m, hm, rfl⟩ := in_of (b := 60) (by decide) (Decidable.not_not.mp hc1)
    have hm2 : m ≤ 200 := by omega
    refine g_aload_0 hX (dk DX11_ask 7 rfl) ?_
    refine g_getRs (r := 13) hX (dk DX11_ask 8 rfl) KX11 fX11_26 (by decide) rfl (CLt hH (q := 0) (by decide)) (CC hH 0 (by decide) rfl) (CR hH 0 3 13 (by decide)) ?_
    refine g_iload_1 hX (dk DX11_ask 9 rfl) ?_
    refine g_c2v hX sX11_ask_18 (by decide) (Nat.le_of_ble_eq_true rfl) (rc0 rfl (CLt hH (by decide)) (CC hH 13 (by decide) rfl)) (by decide) (by decide) (e_look hG hE hZ hm2) ?_
    rintro J _ ⟨hS, hsp, hAH, rfl⟩
    have hZJ := hZ.sc hE hS
    have hWJ := hZJ.1.wx hE
    refine g_aload_0 hX (dk DX11_ask 11 rfl) ?_
    refine g_getRs (r := 13) hX (dk DX11_ask 12 rfl) KX11 fX11_26 (by decide) rfl (CLt hH (q := 0) (by decide)) (CC hH 0 (by decide) rfl) (CR hH 0 3 13 (by decide)) ?_
    refine g_aload_0 hX (dk DX11_ask 13 rfl) ?_
    refine g_getRs (r := 1) hX (dk DX11_ask 14 rfl) KX11 fX11_12 (by decide) rfl (CLt hH (q := 0) (by decide)) (CC hH 0 (by decide) rfl) (CR hH 0 0 1 (by decide)) ?_
    refine g_getIv hX (dk DX11_ask 15 rfl) KX5 fX11_116 (by decide) rfl (CLt hH (q := 1) (by decide)) (CC hH 1 (by decide) rfl) (hZJ.2.1.1) ?_
    refine g_iconst (v := -1) hX (dk DX11_ask 16 rfl) (by decide) ?_
    refine g_ixor hX (dk DX11_ask 17 rfl) ?_
    refine g_iconst (v := 1) hX (dk DX11_ask 18 rfl) (by decide) ?_
    refine g_c3q hX sX11_ask_35 (by decide) (Nat.le_of_ble_eq_true rfl) (rc0 rfl (CLt hH (by decide)) (CC hH 13 (by decide) rfl)) (by decide) (by decide) (e_bestA hG hE hZJ hm2 hsp hAH) ?_
    rintro _ J2 h9 ⟨rfl, hP2, e9⟩
    subst e9
    have hZ2 := hZ.sc hE (hS.trans hP2.sc)
    refine g_ireturn hX (dk DX11_ask 20 rfl) rfl (rfl) (by decide) (by decide) ?_
    first
    | exact qZ_of (by unfold askS; (try first | rw [if_pos hc1] | rw [if_neg hc1] | rw [if_neg (not_not_intro hc1)]); first | done | rfl) hZ
    | exact qZ_of (by unfold askS; (try simp only [tN_nI (show m < 2 ^ 31 by omega)]); (try first | rw [if_pos hc1] | rw [if_neg hc1] | rw [if_neg (not_not_intro hc1)]); first | done | rfl) hZ2
  · refine g_bipush (v := -2) hX (dk DX11_ask 5 rfl) (by decide) ?_
    refine g_ireturn hX (dk DX11_ask 6 rfl) rfl (rfl) (by decide) (by decide) ?_
    first
    | exact qZ_of (by unfold askS; (try first | rw [if_pos hc1] | rw [if_neg hc1] | rw [if_neg (not_not_intro hc1)]); first | done | rfl) hZ
    | exact qZ_of (by unfold askS; (try simp only [tN_nI (show m < 2 ^ 31 by omega)]); (try first | rw [if_pos hc1] | rw [if_neg hc1] | rw [if_neg (not_not_intro hc1)]); first | done | rfl) hZ2

set_option maxRecDepth 8000 in
set_option maxHeartbeats 4000000 in
theorem zx_drop {G : Gt} (hG : Gok G) {I : It} {h : Ht}  {E : It} {L : Nat → Int64} (hE : Inv E) (hZ : RZ E L I h) {n : Int32} : Con G (8) 0 0 mX11_drop [.ref 0, .int n] I h (qZ (dropS E n) L (hn h)) := by
  refine con_intro (own := RX11) (lo0 := [some (.ref 0), some (.int n)]) hG rfl pl_X11 (Nat.le_of_ble_eq_true rfl) rfl (fun X hX => ?_)
  have hY := hZ.1
  have hW := hY.wx hE
  have hH := hW.1
  have hc10 := hW.2.1.2
  have hcE := (inv_cnt hE).2
  refine g_iload_1 hX (dk DX11_drop 0 rfl) ?_
  refine g_iconst (v := 0) hX (dk DX11_drop 1 rfl) (by decide) ?_
  refine g_bipush (v := 60) hX (dk DX11_drop 2 rfl) (by decide) ?_
  refine g_c3I hX sX11_drop_4 (by decide) (Nat.le_of_ble_eq_true rfl) rcN (by decide) (by decide) (c_X11_isNot hG ) ?_
  refine g_ifb_eq (tgt := 13) hX (dk DX11_drop 4 rfl) (by decide) (fun hc1 => ?_) (fun hc1 => ?_)
  · obtain ⟨m, hm, rfl⟩ := in_of (b := 60) (by decide) (Decidable.not_not.mp hc1)
    have hm2 : m ≤ 200 := by omega
    refine g_aload_0 hX (dk DX11_drop 7 rfl) ?_
    refine g_getRs (r := 13) hX (dk DX11_drop 8 rfl) KX11 fX11_26 (by decide) rfl (CLt hH (q := 0) (by decide)) (CC hH 0 (by decide) rfl) (CR hH 0 3 13 (by decide)) ?_
    refine g_iload_1 hX (dk DX11_drop 9 rfl) ?_
    refine g_c2v hX sX11_drop_18 (by decide) (Nat.le_of_ble_eq_true rfl) (rc0 rfl (CLt hH (by decide)) (CC hH 13 (by decide) rfl)) (by decide) (by decide) (e_look hG hE hZ hm2) ?_
    rintro J _ ⟨hS, hsp, hAH, rfl⟩
    have hZJ := hZ.sc hE hS
    have hWJ := hZJ.1.wx hE
    refine g_aload_0 hX (dk DX11_drop 11 rfl) ?_
    refine g_getRs (r := 13) hX (dk DX11_drop 12 rfl) KX11 fX11_26 (by decide) rfl (CLt hH (q := 0) (by decide)) (CC hH 0 (by decide) rfl) (CR hH 0 3 13 (by decide)) ?_
    refine g_aload_0 hX (dk DX11_drop 13 rfl) ?_
    refine g_getRs (r := 1) hX (dk DX11_drop 14 rfl) KX11 fX11_12 (by decide) rfl (CLt hH (q := 0) (by decide)) (CC hH 0 (by decide) rfl) (CR hH 0 0 1 (by decide)) ?_
    refine g_getIv hX (dk DX11_drop 15 rfl) KX5 fX11_109 (by decide) rfl (CLt hH (q := 1) (by decide)) (CC hH 1 (by decide) rfl) (hZJ.1.2.1.1.2.2.1) ?_
    refine g_iconst (v := -1) hX (dk DX11_drop 16 rfl) (by decide) ?_
    refine g_ixor hX (dk DX11_drop 17 rfl) ?_
    refine g_iconst (v := 0) hX (dk DX11_drop 18 rfl) (by decide) ?_
    refine g_c3q hX sX11_drop_35 (by decide) (Nat.le_of_ble_eq_true rfl) (rc0 rfl (CLt hH (by decide)) (CC hH 13 (by decide) rfl)) (by decide) (by decide) (e_bestD hG hE hZJ hm2 hsp hAH) ?_
    rintro _ J2 h9 ⟨rfl, hP2, e9⟩
    subst e9
    have hZ2 := hZ.sc hE (hS.trans hP2.sc)
    refine g_ireturn hX (dk DX11_drop 20 rfl) rfl (rfl) (by decide) (by decide) ?_
    first
    | exact qZ_of (by unfold dropS; (try first | rw [if_pos hc1] | rw [if_neg hc1] | rw [if_neg (not_not_intro hc1)]); first | done | rfl) hZ
    | exact qZ_of (by unfold dropS; (try simp only [tN_nI (show m < 2 ^ 31 by omega)]); (try first | rw [if_pos hc1] | rw [if_neg hc1] | rw [if_neg (not_not_intro hc1)]); first | done | rfl) hZ2
  · refine g_bipush (v := -2) hX (dk DX11_drop 5 rfl) (by decide) ?_
    refine g_ireturn hX (dk DX11_drop 6 rfl) rfl (rfl) (by decide) (by decide) ?_
    first
    | exact qZ_of (by unfold dropS; (try first | rw [if_pos hc1] | rw [if_neg hc1] | rw [if_neg (not_not_intro hc1)]); first | done | rfl) hZ
    | exact qZ_of (by unfold dropS; (try simp only [tN_nI (show m < 2 ^ 31 by omega)]); (try first | rw [if_pos hc1] | rw [if_neg hc1] | rw [if_neg (not_not_intro hc1)]); first | done | rfl) hZ2
end
section
set_option maxRecDepth 8000 in
set_option maxHeartbeats 4000000 in
theorem zx_more {G : Gt} (hG : Gok G) {I : It} {h : Ht}  {E : It} {L : Nat → Int64} (hE : Inv E) (hZ : RZ E L I h) {a n : Int32} : Con G (8) 0 0 mX11_more [.ref 0, .int a, .int n] I h (qZ (moreS E a n) L (hn h)) := by
  refine con_intro (own := RX11) (lo0 := [some (.ref 0), some (.int a), some (.int n)]) hG rfl pl_X11 (Nat.le_of_ble_eq_true rfl) rfl (fun X hX => ?_)
  have hY := hZ.1
  have hW := hY.wx hE
  have hH := hW.1
  have hc10 := hW.2.1.2
  have hcE := (inv_cnt hE).2
  refine g_iload_1 hX (dk DX11_more 0 rfl) ?_
  refine g_iconst (v := 0) hX (dk DX11_more 1 rfl) (by decide) ?_
  refine g_iconst (v := 3) hX (dk DX11_more 2 rfl) (by decide) ?_
  refine g_c3I hX sX11_more_3 (by decide) (Nat.le_of_ble_eq_true rfl) rcN (by decide) (by decide) (c_X11_isNot hG ) ?_
  refine g_ifb_eq (tgt := 13) hX (dk DX11_more 4 rfl) (by decide) (fun hc1 => ?_) (fun hc1 => ?_)
  · refine g_iload_2 hX (dk DX11_more 7 rfl) ?_
    refine g_iconst (v := 0) hX (dk DX11_more 8 rfl) (by decide) ?_
    refine g_bipush (v := 60) hX (dk DX11_more 9 rfl) (by decide) ?_
    refine g_c3I hX sX11_more_17 (by decide) (Nat.le_of_ble_eq_true rfl) rcN (by decide) (by decide) (c_X11_isNot hG ) ?_
    refine g_ifb_eq (tgt := 27) hX (dk DX11_more 11 rfl) (by decide) (fun hc2 => ?_) (fun hc2 => ?_)
    · obtain ⟨y, hy3, rfl⟩ := in_of (b := 3) (by decide) (Decidable.not_not.mp hc1)
      have hy : y < 4 := by omega
      obtain ⟨m, hm, rfl⟩ := in_of (b := 60) (by decide) (Decidable.not_not.mp hc2)
      have hm2 : m ≤ 200 := by omega
      refine g_aload_0 hX (dk DX11_more 14 rfl) ?_
      refine g_getRs (r := 1) hX (dk DX11_more 15 rfl) KX11 fX11_12 (by decide) rfl (CLt hH (q := 0) (by decide)) (CC hH 0 (by decide) rfl) (CR hH 0 0 1 (by decide)) ?_
      refine g_getRs (r := 4) hX (dk DX11_more 16 rfl) KX5 fX11_139 (by decide) rfl (CLt hH (q := 1) (by decide)) (CC hH 1 (by decide) rfl) (CR hH 1 5 4 (by decide)) ?_
      refine g_iload_1 hX (dk DX11_more 17 rfl) ?_
      refine v_iaload hX (dk DX11_more 18 rfl) (CLt hH (q := 4) (by decide)) (CS hH 4 (by decide) rfl) (⟨rfl, by omega, by decide⟩) (hY.2.1.2.2.1 y hy) ?_
      refine g_bipush (v := 9) hX (dk DX11_more 19 rfl) (by decide) ?_
      refine g_icmp_lt (tgt := 43) hX (dk DX11_more 20 rfl) (by decide) (fun hc3 => ?_) (fun hc3 => ?_)
      · have h9 : ¬ E 8 y = 9 := fun z => absurd (show E 8 y < 9 by assumption) (by rw [z]; decide)
        refine g_aload_0 hX (dk DX11_more 23 rfl) ?_
        refine g_getRs (r := 13) hX (dk DX11_more 24 rfl) KX11 fX11_26 (by decide) rfl (CLt hH (q := 0) (by decide)) (CC hH 0 (by decide) rfl) (CR hH 0 3 13 (by decide)) ?_
        refine g_iload_2 hX (dk DX11_more 25 rfl) ?_
        refine g_c2v hX sX11_more_48 (by decide) (Nat.le_of_ble_eq_true rfl) (rc0 rfl (CLt hH (by decide)) (CC hH 13 (by decide) rfl)) (by decide) (by decide) (e_look hG hE hZ hm2) ?_
        rintro J _ ⟨hS, hsp, hAH, rfl⟩
        have hZJ := hZ.sc hE hS
        have hWJ := hZJ.1.wx hE
        refine g_aload_0 hX (dk DX11_more 27 rfl) ?_
        refine g_getRs (r := 13) hX (dk DX11_more 28 rfl) KX11 fX11_26 (by decide) rfl (CLt hH (q := 0) (by decide)) (CC hH 0 (by decide) rfl) (CR hH 0 3 13 (by decide)) ?_
        refine g_c1v hX sX11_more_55 (by decide) (Nat.le_of_ble_eq_true rfl) (rc0 rfl (CLt hH (by decide)) (CC hH 13 (by decide) rfl)) (by decide) (by decide) (e_hear hG hE hZJ) ?_
        rintro J2 _ ⟨q1, hHD, rfl⟩
        have hS2 : Sc I J2 := hS.trans (fun a ha => q1 a (by omega))
        have hZ2 := hZ.sc hE hS2
        have hsp2 : J2 13 1 = nI m := by rw [q1 13 (by omega)]; exact hsp
        have hAH2 : AH E J2 m := hAH.o (q1 14 (by omega)) (q1 15 (by omega))
        refine g_aload_0 hX (dk DX11_more 30 rfl) ?_
        refine g_getRs (r := 13) hX (dk DX11_more 31 rfl) KX11 fX11_26 (by decide) rfl (CLt hH (q := 0) (by decide)) (CC hH 0 (by decide) rfl) (CR hH 0 3 13 (by decide)) ?_
        refine g_aload_0 hX (dk DX11_more 32 rfl) ?_
        refine g_getRs (r := 1) hX (dk DX11_more 33 rfl) KX11 fX11_12 (by decide) rfl (CLt hH (q := 0) (by decide)) (CC hH 0 (by decide) rfl) (CR hH 0 0 1 (by decide)) ?_
        refine g_getRs (r := 4) hX (dk DX11_more 34 rfl) KX5 fX11_139 (by decide) rfl (CLt hH (q := 1) (by decide)) (CC hH 1 (by decide) rfl) (CR hH 1 5 4 (by decide)) ?_
        refine g_c2q hX sX11_more_69 (by decide) (Nat.le_of_ble_eq_true rfl) (rc0 rfl (CLt hH (by decide)) (CC hH 13 (by decide) rfl)) (by decide) (by decide) (e_costHanded hG hE hZ2 (CLt hH (q := 4) (by decide)) (CS hH 4 (by decide) rfl) hHD hm2 hsp2 hAH2) ?_
        rintro x1 J3 _ ⟨e1, hP3, rfl⟩
        have hS3 := hS2.trans hP3.sc
        have hZ3 := hZ.sc hE hS3
        have hHD3 : HD E J3 := hHD.o (fun a h1 h2 => hP3.1 a (by omega) (by omega)) hE
        have hsp3 := hP3.2.trans hsp2
        have hAH3 := hAH2.p2 hP3
        replace e1 : x1 = hcF E (E 8) m := by rw [e1]; exact hcF_hr m (fun y hy => hZ2.1.2.1.2.2.1 y hy)
        subst e1
        refine g_aload_0 hX (dk DX11_more 36 rfl) ?_
        refine g_getRs (r := 13) hX (dk DX11_more 37 rfl) KX11 fX11_26 (by decide) rfl (CLt hH (q := 0) (by decide)) (CC hH 0 (by decide) rfl) (CR hH 0 3 13 (by decide)) ?_
        refine g_aload_0 hX (dk DX11_more 38 rfl) ?_
        refine g_getRs (r := 13) hX (dk DX11_more 39 rfl) KX11 fX11_26 (by decide) rfl (CLt hH (q := 0) (by decide)) (CC hH 0 (by decide) rfl) (CR hH 0 3 13 (by decide)) ?_
        refine g_iload_1 hX (dk DX11_more 40 rfl) ?_
        refine g_c2 hX sX11_more_81 (by decide) (Nat.le_of_ble_eq_true rfl) (rc0 rfl (CLt hH (by decide)) (CC hH 13 (by decide) rfl)) (by decide) (by decide) (e_hourMore hG hE hZ3 hy) (fun r I2 h2 hq => ?_)
        obtain ⟨rfl, hf, hup, rfl⟩ := hq
        have hS4 : Sc J3 I2 := Sc.of1 hf ⟨by decide, by decide⟩
        have hZ4 := hZ.sc hE (hS3.trans hS4)
        have hsp4 : I2 13 1 = nI m := by rw [hf 13 (by decide)]; exact hsp3
        have hAH4 : AH E I2 m := hAH3.o (hf 14 (by decide)) (hf 15 (by decide))
        have hHD4 : HD E I2 := hHD3.o (fun a h1 h2 => hf a (by omega)) hE
        refine g_c2q hX sX11_more_84 (by decide) (Nat.le_of_ble_eq_true rfl) (rc0 rfl (CLt hH (by decide)) (CC hH 13 (by decide) rfl)) (by decide) (by decide) (e_costHanded hG hE hZ4 (CLt hH (q := 28) (by decide)) (CS hH 28 (by decide) rfl) hHD4 hm2 hsp4 hAH4) ?_
        rintro x2 J5 _ ⟨e2, hP5, rfl⟩
        have hZ5 := hZ4.sc hE hP5.sc
        replace e2 : x2 = hcF E (upH (E 8) y) m := by rw [e2]; exact hcF_hr m (fun y hy => hup y hy)
        subst e2
        refine g_isub hX (dk DX11_more 43 rfl) ?_
        refine g_ireturn hX (dk DX11_more 44 rfl) rfl (rfl) (by decide) (by decide) ?_
        exact qZ_of (by unfold moreS; rw [tN_nI (show y < 2 ^ 31 by omega), tN_nI (show m < 2 ^ 31 by omega)]; (try first | rw [if_pos hc1] | rw [if_neg hc1] | rw [if_neg (not_not_intro hc1)]); (try first | rw [if_pos hc2] | rw [if_neg hc2] | rw [if_neg (not_not_intro hc2)]); (try first | rw [if_pos hc3] | rw [if_neg hc3] | rw [if_neg (not_not_intro hc3)]); rw [if_neg h9]) hZ5
      · have h9 : E 8 y = 9 := (hr_9 hE hy).resolve_right (by assumption)
        refine g_iconst (v := 0) hX (dk DX11_more 21 rfl) (by decide) ?_
        refine g_ireturn hX (dk DX11_more 22 rfl) rfl (rfl) (by decide) (by decide) ?_
        exact qZ_of (by unfold moreS; (try rw [tN_nI (by omega)]); (try first | rw [if_pos hc1] | rw [if_neg hc1] | rw [if_neg (not_not_intro hc1)]); (try first | rw [if_pos hc2] | rw [if_neg hc2] | rw [if_neg (not_not_intro hc2)]); (try first | rw [if_pos hc3] | rw [if_neg hc3] | rw [if_neg (not_not_intro hc3)]); first | rw [if_pos h9]) hZ
    · refine g_sipush (v := -10002) hX (dk DX11_more 12 rfl) (by decide) ?_
      refine g_ireturn hX (dk DX11_more 13 rfl) rfl (rfl) (by decide) (by decide) ?_
      exact qZ_of (by unfold moreS; (try first | rw [if_pos hc1] | rw [if_neg hc1] | rw [if_neg (not_not_intro hc1)]); (try first | rw [if_pos hc2] | rw [if_neg hc2] | rw [if_neg (not_not_intro hc2)]); first | done | rfl) hZ
  · refine g_sipush (v := -10001) hX (dk DX11_more 5 rfl) (by decide) ?_
    refine g_ireturn hX (dk DX11_more 6 rfl) rfl (rfl) (by decide) (by decide) ?_
    exact qZ_of (by unfold moreS; (try first | rw [if_pos hc1] | rw [if_neg hc1] | rw [if_neg (not_not_intro hc1)]); first | done | rfl) hZ
end
section
set_option maxRecDepth 8000 in
set_option maxHeartbeats 4000000 in
theorem zx_split {G : Gt} (hG : Gok G) {I : It} {h : Ht}  {E : It} {L : Nat → Int64} (hE : Inv E) (hZ : RZ E L I h) {a n w : Int32} : Con G (10) 0 0 mX11_split [.ref 0, .int a, .int n, .int w] I h (qZ (splitS E a n w) L (hn h)) := by
  refine con_intro (own := RX11) (lo0 := [some (.ref 0), some (.int a), some (.int n), some (.int w), none]) hG rfl pl_X11 (Nat.le_of_ble_eq_true rfl) rfl (fun X hX => ?_)
  have hY := hZ.1
  have hW := hY.wx hE
  have hH := hW.1
  have hc10 := hW.2.1.2
  have hcE := (inv_cnt hE).2
  refine g_iload_3 hX (dk DX11_split 0 rfl) ?_
  refine g_iconst (v := -1) hX (dk DX11_split 1 rfl) (by decide) ?_
  refine g_iconst (v := 3) hX (dk DX11_split 2 rfl) (by decide) ?_
  refine g_c3I hX sX11_split_3 (by decide) (Nat.le_of_ble_eq_true rfl) rcN (by decide) (by decide) (c_X11_isNot hG ) ?_
  refine g_ifb_eq (tgt := 13) hX (dk DX11_split 4 rfl) (by decide) (fun hc1 => ?_) (fun hc1 => ?_)
  · refine g_iload_1 hX (dk DX11_split 7 rfl) ?_
    refine g_iconst (v := 0) hX (dk DX11_split 8 rfl) (by decide) ?_
    refine g_bipush (v := 9) hX (dk DX11_split 9 rfl) (by decide) ?_
    refine g_c3I hX sX11_split_17 (by decide) (Nat.le_of_ble_eq_true rfl) rcN (by decide) (by decide) (c_X11_isNot hG ) ?_
    refine g_ifb_ne (tgt := 33) hX (dk DX11_split 11 rfl) (by decide) (fun hc2 => ?_) (fun hc2 => ?_)
    · refine g_sipush (v := -10002) hX (dk DX11_split 17 rfl) (by decide) ?_
      refine g_ireturn hX (dk DX11_split 18 rfl) rfl (rfl) (by decide) (by decide) ?_
      first
      | exact qZ_of (by unfold splitS; (try first | rw [if_pos hc1] | rw [if_neg hc1] | rw [if_neg (not_not_intro hc1)]); (try first | rw [if_pos hc2] | rw [if_neg hc2] | rw [if_neg (not_not_intro hc2)]); first | done | rfl) hZ
      | exact qZ_of (by unfold splitS; rw [if_neg (by assumption), if_pos (by assumption)]) hZ
    · have ha9 := Decidable.not_not.mp hc2
      obtain ⟨hh, hh9, rfl⟩ := in_of (b := 9) (by decide) ha9
      refine g_iload_2 hX (dk DX11_split 12 rfl) ?_
      refine g_iconst (v := 0) hX (dk DX11_split 13 rfl) (by decide) ?_
      refine g_bipush (v := 60) hX (dk DX11_split 14 rfl) (by decide) ?_
      refine g_c3I hX sX11_split_27 (by decide) (Nat.le_of_ble_eq_true rfl) rcN (by decide) (by decide) (c_X11_isNot hG ) ?_
      refine g_ifb_eq (tgt := 37) hX (dk DX11_split 16 rfl) (by decide) (fun hc3 => ?_) (fun hc3 => ?_)
      · have hn60 := Decidable.not_not.mp hc3
        obtain ⟨m, hm, rfl⟩ := in_of (b := 60) (by decide) hn60
        have hm2 : m ≤ 200 := by omega
        refine g_aload_0 hX (dk DX11_split 19 rfl) ?_
        refine g_getRs (r := 13) hX (dk DX11_split 20 rfl) KX11 fX11_26 (by decide) rfl (CLt hH (q := 0) (by decide)) (CC hH 0 (by decide) rfl) (CR hH 0 3 13 (by decide)) ?_
        refine g_iload_2 hX (dk DX11_split 21 rfl) ?_
        refine g_c2v hX sX11_split_42 (by decide) (Nat.le_of_ble_eq_true rfl) (rc0 rfl (CLt hH (by decide)) (CC hH 13 (by decide) rfl)) (by decide) (by decide) (e_look hG hE hZ hm2) ?_
        rintro J _ ⟨hS, hsp, hAH, rfl⟩
        have hZJ := hZ.sc hE hS
        have hWJ := hZJ.1.wx hE
        refine g_aload_0 hX (dk DX11_split 23 rfl) ?_
        refine g_getRs (r := 13) hX (dk DX11_split 24 rfl) KX11 fX11_26 (by decide) rfl (CLt hH (q := 0) (by decide)) (CC hH 0 (by decide) rfl) (CR hH 0 3 13 (by decide)) ?_
        refine g_c1v hX sX11_split_49 (by decide) (Nat.le_of_ble_eq_true rfl) (rc0 rfl (CLt hH (by decide)) (CC hH 13 (by decide) rfl)) (by decide) (by decide) (e_hear hG hE hZJ) ?_
        rintro J2 _ ⟨q1, hHD, rfl⟩
        have hS2 : Sc I J2 := hS.trans (fun a ha => q1 a (by omega))
        have hZ2 := hZ.sc hE hS2
        have hsp2 : J2 13 1 = nI m := by rw [q1 13 (by omega)]; exact hsp
        have hAH2 : AH E J2 m := hAH.o (q1 14 (by omega)) (q1 15 (by omega))
        refine g_aload_0 hX (dk DX11_split 26 rfl) ?_
        refine g_getRs (r := 13) hX (dk DX11_split 27 rfl) KX11 fX11_26 (by decide) rfl (CLt hH (q := 0) (by decide)) (CC hH 0 (by decide) rfl) (CR hH 0 3 13 (by decide)) ?_
        refine g_iload_1 hX (dk DX11_split 28 rfl) ?_
        refine g_c2q hX sX11_split_57 (by decide) (Nat.le_of_ble_eq_true rfl) (rc0 rfl (CLt hH (by decide)) (CC hH 13 (by decide) rfl)) (by decide) (by decide) (c_X0_bestSplit hG hH (dd := 7) (co := fun a b c e => hcF E (h4 a b c e) m) (K := KS E J2 m) hh9 (by decide) (fun J y x hK => hK.u hE) (fun J hK => hK.c hE) (fun J a b c e hK h28 _ => (e_costHanded hG hE (hZ2.sc hE hK.1) (CLt hH (q := 28) (by decide)) (CS hH 28 (by decide) rfl) hK.2.2.2 hm2 hK.2.1 hK.2.2.1).imp (fun r I9 h9 hq => by obtain ⟨x, e1, e2, e3, e4⟩ := hq; exact ⟨x, e1, e2.trans (hcF_hr m (h4_of h28)), hK.p hE e3, e4, e3.1 28 (by decide) (by decide), e3.1 29 (by decide) (by decide)⟩)) ⟨Sc.rf, hsp2, hAH2, hHD⟩) ?_
        rintro x J4 _ ⟨ex, eb, hK4, rfl⟩
        rw [bs_sp hE hh9 hm2] at ex eb
        subst ex
        have hZ4 := hZ2.sc hE hK4.1
        refine g_istore_4 hX (dk DX11_split 30 rfl) (by decide) rfl ?_
        refine g_iload_3 hX (dk DX11_split 31 rfl) ?_
        refine g_if_ge (tgt := 71) hX (dk DX11_split 32 rfl) (by decide) (fun hc4 => ?_) (fun hc4 => ?_)
        · obtain ⟨w0, hw3, rfl⟩ := in_of (b := 3) (by decide) ⟨hc4, (Decidable.not_not.mp hc1).2⟩
          have hw0 : w0 < 4 := by omega
          refine g_aload_0 hX (dk DX11_split 35 rfl) ?_
          refine g_getRs (r := 13) hX (dk DX11_split 36 rfl) KX11 fX11_26 (by decide) rfl (CLt hH (q := 0) (by decide)) (CC hH 0 (by decide) rfl) (CR hH 0 3 13 (by decide)) ?_
          refine g_getRs (r := 29) hX (dk DX11_split 37 rfl) KX0 fX11_205 (by decide) rfl (CLt hH (q := 13) (by decide)) (CC hH 13 (by decide) rfl) (CR hH 13 15 29 (by decide)) ?_
          refine g_iload_3 hX (dk DX11_split 38 rfl) ?_
          refine v_iaload hX (dk DX11_split 39 rfl) (CLt hH (q := 29) (by decide)) (CS hH 29 (by decide) rfl) (⟨rfl, hw0, by decide⟩) (eb w0 hw0) ?_
          refine g_ireturn hX (dk DX11_split 40 rfl) rfl (rfl) (by decide) (by decide) ?_
          first
          | exact qZ_of (by unfold splitS; rw [tN_nI (show hh < 2 ^ 31 by omega), tN_nI (show m < 2 ^ 31 by omega)]; (try first | rw [if_pos hc1] | rw [if_neg hc1] | rw [if_neg (not_not_intro hc1)]); (try first | rw [if_pos hc2] | rw [if_neg hc2] | rw [if_neg (not_not_intro hc2)]); (try first | rw [if_pos hc3] | rw [if_neg hc3] | rw [if_neg (not_not_intro hc3)]); (try first | rw [if_pos hc4] | rw [if_neg hc4] | rw [if_neg (not_not_intro hc4)]); first | done | rfl | (rw [tN_nI (by omega)])) hZ4
          | exact qZ_of (by unfold splitS; rw [tN_nI (show hh < 2 ^ 31 by omega), tN_nI (show m < 2 ^ 31 by omega)]; (try first | rw [if_pos hc1] | rw [if_neg hc1] | rw [if_neg (not_not_intro hc1)]); (try first | rw [if_pos hc2] | rw [if_neg hc2] | rw [if_neg (not_not_intro hc2)]); (try first | rw [if_pos hc3] | rw [if_neg hc3] | rw [if_neg (not_not_intro hc3)]); (try first | rw [if_pos hc4] | rw [if_neg hc4] | rw [if_neg (not_not_intro hc4)]); rw [if_neg (by assumption)]) hZ4
        · refine g_iload_4 hX (dk DX11_split 33 rfl) ?_
          refine g_goto (tgt := 80) hX (dk DX11_split 34 rfl) (by decide) ?_
          refine g_ireturn hX (dk DX11_split 40 rfl) rfl (rfl) (by decide) (by decide) ?_
          first
          | exact qZ_of (by unfold splitS; rw [tN_nI (show hh < 2 ^ 31 by omega), tN_nI (show m < 2 ^ 31 by omega)]; (try first | rw [if_pos hc1] | rw [if_neg hc1] | rw [if_neg (not_not_intro hc1)]); (try first | rw [if_pos hc2] | rw [if_neg hc2] | rw [if_neg (not_not_intro hc2)]); (try first | rw [if_pos hc3] | rw [if_neg hc3] | rw [if_neg (not_not_intro hc3)]); (try first | rw [if_pos hc4] | rw [if_neg hc4] | rw [if_neg (not_not_intro hc4)]); first | done | rfl | (rw [tN_nI (by omega)])) hZ4
          | exact qZ_of (by unfold splitS; rw [tN_nI (show hh < 2 ^ 31 by omega), tN_nI (show m < 2 ^ 31 by omega)]; (try first | rw [if_pos hc1] | rw [if_neg hc1] | rw [if_neg (not_not_intro hc1)]); (try first | rw [if_pos hc2] | rw [if_neg hc2] | rw [if_neg (not_not_intro hc2)]); (try first | rw [if_pos hc3] | rw [if_neg hc3] | rw [if_neg (not_not_intro hc3)]); (try first | rw [if_pos hc4] | rw [if_neg hc4] | rw [if_neg (not_not_intro hc4)]); rw [if_neg (by assumption)]) hZ4
      · refine g_sipush (v := -10002) hX (dk DX11_split 17 rfl) (by decide) ?_
        refine g_ireturn hX (dk DX11_split 18 rfl) rfl (rfl) (by decide) (by decide) ?_
        first
        | exact qZ_of (by unfold splitS; (try first | rw [if_pos hc1] | rw [if_neg hc1] | rw [if_neg (not_not_intro hc1)]); (try first | rw [if_pos hc2] | rw [if_neg hc2] | rw [if_neg (not_not_intro hc2)]); (try first | rw [if_pos hc3] | rw [if_neg hc3] | rw [if_neg (not_not_intro hc3)]); first | done | rfl) hZ
        | exact qZ_of (by unfold splitS; rw [if_neg (by assumption), if_pos (by assumption)]) hZ
  · refine g_sipush (v := -10001) hX (dk DX11_split 5 rfl) (by decide) ?_
    refine g_ireturn hX (dk DX11_split 6 rfl) rfl (rfl) (by decide) (by decide) ?_
    exact qZ_of (by unfold splitS; (try first | rw [if_pos hc1] | rw [if_neg hc1] | rw [if_neg (not_not_intro hc1)]); first | done | rfl) hZ
end
section
/-! both parsers alike: the class's, place by place, against the reference's machine -/
def FP (p fr : Nat) (I J : It) : Prop := (∀ a, a ≠ 43 + 5 * p → a ≠ 47 + 5 * p → J a = I a) ∧ (∀ j, j ≠ 7 → j ≠ 10 → j ≠ 11 → J (43 + 5 * p) j = I (43 + 5 * p) j) ∧ ∀ j, j < fr → J (47 + 5 * p) j = I (47 + 5 * p) j
theorem FP.rf {p fr : Nat} {I : It} : FP p fr I I := ⟨fun _ _ _ => rfl, fun _ _ _ _ => rfl, fun _ _ => rfl⟩
theorem FP.u {p fr j : Nat} {I J : It} {x : Int32} (h : FP p fr I J) (hj : j = 7 ∨ j = 10 ∨ j = 11) : FP p fr I (upI J (43 + 5 * p) j x) :=
  ⟨fun a h1 h2 => (upI_off h1).trans (h.1 a h1 h2), fun b h1 h2 h3 => (upn (by omega)).trans (h.2.1 b h1 h2 h3), fun b hb => (upn (by omega)).trans (h.2.2 b hb)⟩
theorem FP.k {p fr j : Nat} {I J : It} {x : Int32} (h : FP p fr I J) (hj : fr ≤ j) : FP p fr I (upI J (47 + 5 * p) j x) :=
  ⟨fun a h1 h2 => (upI_off h2).trans (h.1 a h1 h2), fun b h1 h2 h3 => (upn (by omega)).trans (h.2.1 b h1 h2 h3), fun b hb => (upn (by omega)).trans (h.2.2 b hb)⟩
/-- the text that is read -/
def TT (p n : Nat) (X : Nat → Int32) (I : It) : Prop := p < 6 ∧ n ≤ 100 ∧ I (43 + 5 * p) 9 = nI n ∧ ∀ j, j < n → I 31 j = X j
/-- at a, no fault, codes cs from fr on -/
def CJ (p n : Nat) (I J : It) (a fr : Nat) (cs : List Int32) : Prop :=
  FP p fr I J ∧ J (43 + 5 * p) 11 = 0 ∧ J (43 + 5 * p) 10 = nI a ∧ a ≤ n ∧ J (43 + 5 * p) 7 = nI (fr + cs.length) ∧ fr + cs.length ≤ a ∧ CC2 fr (J (47 + 5 * p)) cs
/-- a fault at a -/
def FJ (p fr : Nat) (I J : It) (a : Nat) : Prop := FP p fr I J ∧ J (43 + 5 * p) 11 ≠ 0 ∧ J (43 + 5 * p) 10 = nI a
section PQ
variable {p n fr a : Nat} {X : Nat → Int32} {I J : It} {cs : List Int32} {s : Int32}
theorem CJ.here (h : CJ p n I J a fr cs) (hT : TT p n X I) : hereC p J = nxA X n a := by
  obtain ⟨hF, h11, h10, han, -⟩ := h
  obtain ⟨hp, hn, h9, hX⟩ := hT
  have e9 : J (43 + 5 * p) 9 = nI n := (hF.2.1 9 (by decide) (by decide) (by decide)).trans h9
  have e31 : J 31 = I 31 := hF.1 31 (by omega) (by omega)
  unfold hereC nxA
  rw [if_neg (not_not_intro h11), h10, if_neg (nI_pos (by omega)), e9]
  by_cases z : a < n
  · rw [if_neg (fun q => absurd ((nI_leI (by omega) (by omega)).mp q) (by omega)), if_pos (show nI a < 100 from nI_lt (b := 100) (by omega) (by decide)), if_pos z, tN_nI (by omega), e31]
    exact hX a z
  · rw [if_pos (nI_le (by omega) (by omega)), if_neg z]
theorem FJ.here (h : FJ p fr I J a) : hereC p J = -1 := by
  unfold hereC
  rw [if_pos h.2.1]
theorem CJ.inc (h : CJ p n I J a fr cs) (ha : a < n) : CJ p n I (incW p J) (a + 1) fr cs := by
  obtain ⟨hF, h11, h10, han, h7, hle, hC⟩ := h
  unfold incW
  refine ⟨hF.u (Or.inr (Or.inl rfl)), (upn (by omega)).trans h11, by rw [up0, h10]; exact nI_1 a, ha, (upn (by omega)).trans h7, by omega, ?_⟩
  rw [upI_off (by omega)]; exact hC
theorem CJ.fau (h : CJ p n I J a fr cs) : FJ p fr I (fauW p J) a := ⟨h.1.u (Or.inr (Or.inr rfl)), by unfold fauW; rw [up0]; decide, (upn (by omega)).trans h.2.2.1⟩
theorem FJ.fau (h : FJ p fr I J a) : FJ p fr I (fauW p J) a := ⟨h.1.u (Or.inr (Or.inr rfl)), by unfold fauW; rw [up0]; decide, (upn (by omega)).trans h.2.2⟩
theorem CJ.tk_n (h : CJ p n I J a fr cs) (hT : TT p n X I) (e : nxA X n a ≠ s) : tkW p s J = J := by unfold tkW; rw [h.here hT, if_neg e]
theorem CJ.tk_y (h : CJ p n I J a fr cs) (hT : TT p n X I) (e : nxA X n a = s) : tkW p s J = incW p J := by unfold tkW; rw [h.here hT, if_pos e]
theorem FJ.tk (h : FJ p fr I J a) (hs : s ≠ -1) : tkW p s J = J := by unfold tkW; rw [h.here, if_neg (Ne.symm hs)]
theorem CJ.nd_e (h : CJ p n I J a fr cs) (hT : TT p n X I) (e : nxA X n a = s) : ndW p s J = incW p J := by
  unfold ndW tiW
  rw [bI_t (by rw [h.here hT]; exact e), if_neg (by decide), if_neg (not_not_intro h.2.1)]
theorem CJ.nd_y (h : CJ p n I J a fr cs) (hT : TT p n X I) (hs : s ≠ -1) (e : nxA X n a = s) : CJ p n I (ndW p s J) (a + 1) fr cs := by
  rw [h.nd_e hT e]; exact h.inc (nxA_no hs e)
theorem CJ.nd_n (h : CJ p n I J a fr cs) (hT : TT p n X I) (e : nxA X n a ≠ s) : FJ p fr I (ndW p s J) a := by
  unfold ndW tiW
  rw [bI_f (by rw [h.here hT]; exact e), if_pos rfl]; exact h.fau
theorem FJ.ti {b : Int32} (h : FJ p fr I J a) : FJ p fr I (tiW p b J) a := by
  unfold tiW
  by_cases z : b = 0
  · rw [if_pos z]; exact h.fau
  · rw [if_neg z, if_pos h.2.1]; exact h.fau
theorem FJ.nd (h : FJ p fr I J a) : FJ p fr I (ndW p s J) a := h.ti
theorem FJ.kp (h : FJ p fr I J a) : kpW p s J = J := by unfold kpW; rw [if_pos h.2.1]
theorem FJ.nu (h : FJ p fr I J a) : FJ p fr I (nuW p J) a := by
  unfold nuW
  rw [h.here, if_pos (by decide)]; exact h.fau
theorem FJ.t2 (h : FJ p fr I (ts2 p J) a) : FJ p fr I (tsW p J) a := by
  unfold tsW
  rw [FJ.kp h.nu]; exact h.nu
theorem FJ.ts (h : FJ p fr I J a) : FJ p fr I (tsW p J) a := FJ.t2 (FJ.ti (FJ.ti h))
theorem CJ.kp (h : CJ p n I J a fr cs) (hn : n ≤ 100) (hlt : fr + cs.length < a) {x t : Int32} (hx : CRq x t) : CJ p n I (kpW p t J) a fr (cs ++ [x]) := by
  obtain ⟨hF, h11, h10, han, h7, hle, hC⟩ := h
  have e1 : kp1 p t J (43 + 5 * p) = J (43 + 5 * p) := upI_off (by omega)
  have ek : kp1 p t J = upI J (47 + 5 * p) (fr + cs.length) t := by unfold kp1; rw [h7, tN_nI (by omega)]
  unfold kpW
  rw [if_neg (not_not_intro h11), if_neg (by rw [h7]; exact fun z => absurd ((nI_leI (a := 100) (by decide) (by omega)).mp z) (by omega)), e1, h7, ek]
  refine ⟨(hF.k (Nat.le_add_right _ _)).u (Or.inl rfl), (upn (by omega)).trans ((upn (by omega)).trans h11), (upn (by omega)).trans ((upn (by omega)).trans h10), han, ?_, ?_, ?_⟩
  · rw [up0, nI_1, List.length_append]; rfl
  · rw [List.length_append, List.length_cons, List.length_nil]; omega
  · rw [upI_off (by omega)]
    intro i hi
    rw [List.length_append, List.length_cons, List.length_nil] at hi
    by_cases z : i = cs.length
    · subst z
      rw [up0]
      have : (cs ++ [x]).getD cs.length 0 = x := by simp
      rw [this]; exact hx
    · rw [upn (by omega)]
      have : (cs ++ [x]).getD i 0 = cs.getD i 0 := by simp [List.getD_eq_getElem?_getD, List.getElem?_append_left (show i < cs.length by omega)]
      rw [this]; exact hC i (by omega)
theorem CJ.nu_y (h : CJ p n I J a fr cs) (hT : TT p n X I) (hd : dgA X n a) : CJ p n I (nuW p J) (nuA X n a) fr cs ∧ nuV p J = nvA X n a := by
  have e1 := h.here hT
  have h1 := h.inc (dgA_lt hd)
  have e2 := h1.here hT
  have n1 : ¬ hereC p J < 48 := by rw [e1]; exact Int32.not_lt.mpr hd.1
  have n2 : ¬ 57 < hereC p J := by rw [e1]; exact Int32.not_lt.mpr hd.2
  have c0 : (0 : Int32) * 10 = 10 * 0 := by decide
  unfold nuW nuV nuA nvA
  rw [if_neg n1, if_neg n1, if_neg n2, if_neg n2, if_pos hd, e1, e2]
  by_cases h2 : dgA X n (a + 1)
  · have m1 : ¬ nxA X n (a + 1) < 48 := Int32.not_lt.mpr h2.1
    have m2 : ¬ 57 < nxA X n (a + 1) := Int32.not_lt.mpr h2.2
    rw [if_neg m1, if_neg m1, if_neg m2, if_neg m2, if_pos h2, if_pos h2]
    refine ⟨h1.inc (dgA_lt h2), ?_⟩
    rw [c0, Int32.mul_comm _ 10]
  · rw [if_neg h2, if_neg h2]
    by_cases m1 : nxA X n (a + 1) < 48
    · rw [if_pos m1, if_pos m1]; exact ⟨h1, by rw [c0]⟩
    · have m2 : 57 < nxA X n (a + 1) := Int32.not_le.mp (fun z => h2 ⟨Int32.not_lt.mp m1, z⟩)
      rw [if_neg m1, if_neg m1, if_pos m2, if_pos m2]; exact ⟨h1, by rw [c0]⟩
theorem CJ.nu_n (h : CJ p n I J a fr cs) (hT : TT p n X I) (hd : ¬ dgA X n a) : FJ p fr I (nuW p J) a := by
  unfold nuW
  rw [h.here hT]
  by_cases z : nxA X n a < 48
  · rw [if_pos z]; exact h.fau
  · rw [if_neg z, if_pos (Int32.not_le.mp (fun q => hd ⟨Int32.not_lt.mp z, q⟩))]; exact h.fau
end PQ
theorem pl_L {c : Int32} : ¬ plA c < 0 ↔ isL c := by
  unfold plA
  by_cases e1 : c = 99
  · subst e1; decide
  by_cases e2 : c = 105
  · subst e2; decide
  by_cases e3 : c = 107
  · subst e3; decide
  by_cases e4 : c = 114
  · subst e4; decide
  by_cases e5 : c = 118
  · subst e5; decide
  by_cases e6 : c = 119
  · subst e6; decide
  by_cases e7 : c = 121
  · subst e7; decide
  rw [if_neg e1, if_neg e2, if_neg e3, if_neg e4, if_neg e5, if_neg e6, if_neg e7]
  constructor
  · intro z; exact absurd (by decide) z
  · rintro (z | z | z | z | z | z | z)
    · exact absurd z e2
    · exact absurd z e3
    · exact absurd z e4
    · exact absurd z e5
    · exact absurd z e1
    · exact absurd z e7
    · exact absurd z e6
theorem pl_let {c : Int32} {f : Nat} (hf : f ≤ 6) (h : plA c = nI f) : c = nI (letL f) := by
  have key : isL c := pl_L.mp (by rw [h]; exact nI_pos (by omega))
  have g : ∀ k, k ≤ 6 → plA c = nI k → f = k := fun k hk e => (nI_eq (by omega) (by omega)).mp (h.symm.trans e)
  rcases key with rfl | rfl | rfl | rfl | rfl | rfl | rfl
  · rw [g 0 (by decide) rfl]; rfl
  · rw [g 1 (by decide) rfl]; rfl
  · rw [g 2 (by decide) rfl]; rfl
  · rw [g 3 (by decide) rfl]; rfl
  · rw [g 4 (by decide) rfl]; rfl
  · rw [g 5 (by decide) rfl]; rfl
  · rw [g 6 (by decide) rfl]; rfl
set_option maxRecDepth 100000 in
theorem cr_c : ∀ f, f ≤ 6 → ∀ s, s ≤ 2 → ∀ d, d ≤ 99 → nI (letL f) ||| nI (s + 60) <<< (8 &&& 31) ||| nI d <<< (16 &&& 31) = nI (letL f + 256 * (60 + s) + 65536 * d) := by decide +kernel
theorem is_S {c : Int32} : isS c ↔ (60 ≤ c ∧ c ≤ 62) := by
  constructor
  · rintro (rfl | rfl | rfl) <;> decide
  · intro h
    obtain ⟨s, s1, s2, rfl⟩ := in1_of (c := 60) (b := 62) (by decide) (by decide) h
    rcases (by omega : s = 60 ∨ s = 61 ∨ s = 62) with rfl | rfl | rfl <;> decide
section PQ2
variable {p n fr a : Nat} {X : Nat → Int32} {I J : It} {cs : List Int32}
theorem CJ.ts (h : CJ p n I J a fr cs) (hT : TT p n X I) : ((tsA X n a).1 = true → CJ p n I (tsW p J) (tsA X n a).2.1 fr (cs ++ [(tsA X n a).2.2])) ∧ (¬ (tsA X n a).1 = true → FJ p fr I (tsW p J) (tsA X n a).2.1) := by
  have e1 := h.here hT
  by_cases q1 : isL (nxA X n a)
  · have p1 : ¬ plA (nxA X n a) < 0 := pl_L.mpr q1
    have s1 : ts1 p J = incW p J := by
      unfold ts1 tiW
      rw [bI_t (by rw [e1]; exact q1), if_neg (by decide), if_neg (not_not_intro h.2.1)]
    have h1 : CJ p n I (ts1 p J) (a + 1) fr cs := by rw [s1]; exact h.inc (pl_lt (Int32.not_lt.mp p1))
    have e2 := h1.here hT
    by_cases q2 : 60 ≤ nxA X n (a + 1) ∧ nxA X n (a + 1) ≤ 62
    · have s2 : ts2 p J = incW p (ts1 p J) := by
        unfold ts2 tiW
        rw [bI_t (by rw [e2]; exact is_S.mpr q2), if_neg (by decide), if_neg (not_not_intro h1.2.1)]
      have h2 : CJ p n I (ts2 p J) (a + 2) fr cs := by rw [s2]; exact h1.inc (in_lt q2)
      by_cases q3 : dgA X n (a + 2)
      · obtain ⟨h3, v3⟩ := h2.nu_y hT q3
        have et : tsA X n a = (true, nuA X n (a + 2), 1000 * plA (nxA X n a) + 100 * (nxA X n (a + 1) - 60) + nvA X n (a + 2)) := by
          unfold tsA
          rw [if_neg p1, if_neg (not_not_intro q2), if_neg (not_not_intro q3)]
        have ht : (tsA X n a).1 = true := by rw [et]
        obtain ⟨f, s, d, hf, hs2, hd, ef, es, ed, ec⟩ := ts_ok ht
        refine ⟨fun _ => ?_, fun z => absurd ht z⟩
        have g := nuA_gt q3
        have en : (tsA X n a).2.1 = nuA X n (a + 2) := by rw [et]
        have hle := h.2.2.2.2.2.1
        rw [en, ec]
        unfold tsW
        rw [e1, e2, v3, pl_let hf ef, es, ed, cr_c f hf s hs2 d hd]
        exact h3.kp hT.2.1 (by omega) (Or.inr (Or.inr (Or.inr ⟨f, s, d, hf, hs2, hd, rfl, rfl⟩)))
      · have et : tsA X n a = (false, a + 2, 0) := by
          unfold tsA
          rw [if_neg p1, if_neg (not_not_intro q2), if_pos q3]
        rw [et]
        refine ⟨fun z => absurd z Bool.false_ne_true, fun _ => ?_⟩
        unfold tsW
        rw [FJ.kp (h2.nu_n hT q3)]
        exact h2.nu_n hT q3
    · have et : tsA X n a = (false, a + 1, 0) := by
        unfold tsA
        rw [if_neg p1, if_pos q2]
      rw [et]
      refine ⟨fun z => absurd z Bool.false_ne_true, fun _ => FJ.t2 ?_⟩
      unfold ts2 tiW
      rw [bI_f (by rw [e2]; exact fun z => q2 (is_S.mp z)), if_pos rfl]
      exact h1.fau
  · have et : tsA X n a = (false, a, 0) := by
      unfold tsA
      rw [if_pos (Decidable.not_not.mp (fun z => q1 (pl_L.mp z)))]
    rw [et]
    refine ⟨fun z => absurd z Bool.false_ne_true, fun _ => FJ.t2 ?_⟩
    have h1 : FJ p fr I (ts1 p J) a := by
      unfold ts1 tiW
      rw [bI_f (by rw [e1]; exact q1), if_pos rfl]
      exact h.fau
    exact h1.ti
end PQ2
/-! the machine with fuel enough -/
theorem ts_n {X : Nat → Int32} {n a : Nat} (ha : a ≤ n) : (tsA X n a).2.1 ≤ n := by
  unfold tsA
  split
  · exact ha
  · next z =>
    have := pl_lt (Int32.not_lt.mp z)
    split
    · show a + 1 ≤ n; omega
    · next z =>
      have := in_lt (Decidable.not_not.mp z)
      split
      · show a + 2 ≤ n; omega
      · next z =>
        have := nuA_le (X := X) (n := n) (a := a + 2) (by omega)
        exact this
theorem am_fuel {X : Nat → Int32} {n : Nat} : ∀ (f g : Nat) (w : Bool) (a : Nat) (cs ws : List Int32), a ≤ n → n - a < f → n - a < g → amR X n f w a cs ws = amR X n g w a cs ws := by
  intro f
  induction f with
  | zero => intro g w a cs ws _ h1 _; exact absurd h1 (Nat.not_lt_zero _)
  | succ f ih =>
    intro g w a cs ws ha h1 h2
    obtain ⟨g, rfl⟩ : ∃ z, g = z + 1 := ⟨g - 1, by omega⟩
    cases w with
    | true =>
      by_cases h : nxA X n a = 33 ∨ nxA X n a = 40
      · have hlt : a < n := by rcases h with z | z <;> exact nxA_no (by decide) z
        by_cases h4 : opn ws = 4
        · rw [am_o4 h h4, am_o4 h h4]
        · rw [am_o h h4, am_o h h4]; exact ih g true (a + 1) _ _ hlt (by omega) (by omega)
      · by_cases h4 : (tsA X n a).1 = true
        · have g1 := ts_gt h4
          have g2 := ts_n (X := X) ha
          rw [am_t h h4, am_t h h4]; exact ih g false _ _ _ g2 (by omega) (by omega)
        · rw [am_tf h h4, am_tf h h4]
    | false =>
      by_cases h : nxA X n a = 38 ∨ nxA X n a = 124
      · have hlt : a < n := by rcases h with z | z <;> exact nxA_no (by decide) z
        rw [am_b h, am_b h]; exact ih g true (a + 1) _ _ hlt (by omega) (by omega)
      · by_cases h4 : (seA 124 ws cs).2 = []
        · rw [am_e h h4, am_e h h4]
        · by_cases h5 : nxA X n a = 41
          · have hlt : a < n := nxA_no (by decide) h5
            rw [am_c h h4 h5, am_c h h4 h5]; exact ih g false (a + 1) _ _ hlt (by omega) (by omega)
          · rw [am_x h h4 h5, am_x h h4 h5]
def AM (X : Nat → Int32) (n : Nat) (w : Bool) (a : Nat) (cs ws : List Int32) : Bool × Nat × List Int32 := amR X n 101 w a cs ws
section AMS
variable {X : Nat → Int32} {n a : Nat} {cs ws : List Int32}
theorem am_up {w : Bool} (hn : n ≤ 100) (ha : 1 ≤ a) (han : a ≤ n) : amR X n 100 w a cs ws = AM X n w a cs ws := am_fuel 100 101 w a cs ws han (by omega) (by omega)
theorem AM_o (hn : n ≤ 100) (h : nxA X n a = 33 ∨ nxA X n a = 40) (h4 : ¬ opn ws = 4) : AM X n true a cs ws = AM X n true (a + 1) cs (nxA X n a :: ws) :=
  (am_o (f := 100) h h4).trans (am_up hn (by omega) (by rcases h with z | z <;> exact nxA_no (by decide) z))
theorem AM_o4 (h : nxA X n a = 33 ∨ nxA X n a = 40) (h4 : opn ws = 4) : AM X n true a cs ws = (false, a, cs) := am_o4 (f := 100) h h4
theorem AM_t (hn : n ≤ 100) (han : a ≤ n) (h : ¬ (nxA X n a = 33 ∨ nxA X n a = 40)) (h4 : (tsA X n a).1 = true) : AM X n true a cs ws = AM X n false (tsA X n a).2.1 (whA ws (cs ++ [(tsA X n a).2.2])).1 (whA ws (cs ++ [(tsA X n a).2.2])).2 :=
  (am_t (f := 100) h h4).trans (am_up hn (by have := ts_gt h4; omega) (ts_n han))
theorem AM_tf (h : ¬ (nxA X n a = 33 ∨ nxA X n a = 40)) (h4 : ¬ (tsA X n a).1 = true) : AM X n true a cs ws = (false, (tsA X n a).2.1, cs) := am_tf (f := 100) h h4
theorem AM_b (hn : n ≤ 100) (h : nxA X n a = 38 ∨ nxA X n a = 124) : AM X n false a cs ws = AM X n true (a + 1) (seA (nxA X n a) ws cs).1 (nxA X n a :: (seA (nxA X n a) ws cs).2) :=
  (am_b (f := 100) h).trans (am_up hn (by omega) (by rcases h with z | z <;> exact nxA_no (by decide) z))
theorem AM_e (h : ¬ (nxA X n a = 38 ∨ nxA X n a = 124)) (h2 : (seA 124 ws cs).2 = []) : AM X n false a cs ws = (true, a, (seA 124 ws cs).1) := am_e (f := 100) h h2
theorem AM_c (hn : n ≤ 100) (h : ¬ (nxA X n a = 38 ∨ nxA X n a = 124)) (h2 : ¬ (seA 124 ws cs).2 = []) (h3 : nxA X n a = 41) : AM X n false a cs ws = AM X n false (a + 1) (whA (seA 124 ws cs).2.tail (seA 124 ws cs).1).1 (whA (seA 124 ws cs).2.tail (seA 124 ws cs).1).2 :=
  (am_c (f := 100) h h2 h3).trans (am_up hn (by omega) (nxA_no (by decide) h3))
theorem AM_x (h : ¬ (nxA X n a = 38 ∨ nxA X n a = 124)) (h2 : ¬ (seA 124 ws cs).2 = []) (h3 : ¬ nxA X n a = 41) : AM X n false a cs ws = (false, a, (seA 124 ws cs).1) := am_x (f := 100) h h2 h3
end AMS
/-! what waits: the base of an E, of a part between bars -/
def isB (ws : List Int32) : Prop := ws = [] ∨ ∃ r, ws = 40 :: r
def isA (ws : List Int32) : Prop := isB ws ∨ ∃ r, isB r ∧ ws = 124 :: r
theorem wh_A {ws c : List Int32} (h : isA ws) : whA ws c = (c, ws) := by
  rcases h with (rfl | ⟨r, rfl⟩) | ⟨r, -, rfl⟩
  · rfl
  · rw [whA_c, if_neg (by decide)]
  · rw [whA_c, if_neg (by decide)]
theorem wh_38 {ws c : List Int32} : whA (38 :: ws) c = (c, 38 :: ws) := by rw [whA_c, if_neg (by decide)]
theorem se38_A {ws c : List Int32} (h : isA ws) : seA 38 ws c = (c, ws) := by
  rcases h with (rfl | ⟨r, rfl⟩) | ⟨r, -, rfl⟩
  · rfl
  · rw [seA_c, if_neg (by decide), if_neg (by decide)]
  · rw [seA_c, if_neg (by decide), if_pos rfl, if_pos rfl]
theorem se124_B {ws c : List Int32} (h : isB ws) : seA 124 ws c = (c, ws) := by
  rcases h with rfl | ⟨r, rfl⟩
  · rfl
  · rw [seA_c, if_neg (by decide), if_neg (by decide)]
theorem se_38c {s : Int32} {ws c : List Int32} : seA s (38 :: ws) c = seA s ws (c ++ [-38]) := by rw [seA_c, if_pos rfl]
theorem se_124c {ws c : List Int32} : seA 124 (124 :: ws) c = seA 124 ws (c ++ [-124]) := by rw [seA_c, if_neg (by decide), if_pos rfl, if_neg (by decide)]
def StA (cr wr C ws : List Int32) : Prop := (wr = ws ∧ cr = C) ∨ (wr = 38 :: ws ∧ C = cr ++ [-38])
def StE (cr wr C B : List Int32) : Prop := StA cr wr C B ∨ ∃ c1, StA cr wr c1 (124 :: B) ∧ C = c1 ++ [-124]
theorem StA.s38 {cr wr C ws : List Int32} (hA : isA ws) (h : StA cr wr C ws) : seA 38 wr cr = (C, ws) := by
  rcases h with ⟨rfl, rfl⟩ | ⟨rfl, rfl⟩
  · exact se38_A hA
  · rw [se_38c]; exact se38_A hA
theorem StA.s124 {cr wr C ws : List Int32} (h : StA cr wr C ws) : seA 124 wr cr = seA 124 ws C := by
  rcases h with ⟨rfl, rfl⟩ | ⟨rfl, rfl⟩
  · rfl
  · rw [se_38c]
theorem StE.s124 {cr wr C B : List Int32} (hB : isB B) (h : StE cr wr C B) : seA 124 wr cr = (C, B) := by
  rcases h with h | ⟨c1, h, rfl⟩
  · rw [h.s124]; exact se124_B hB
  · rw [h.s124, se_124c]; exact se124_B hB
/-- what a piece of the class reads, the machine reads -/
def PSp (p n : Nat) (X : Nat → Int32) (I : It) (k : Nat) (W : It → It) : Prop := ∀ (J : It) (a fr : Nat) (cs ws : List Int32), 1 ≤ a → CJ p n I J a fr cs → opn ws + k = 4 →
  (∃ a' new, CJ p n I (W J) a' fr (cs ++ new) ∧ a < a' ∧ a + new.length ≤ a' ∧ ∀ cr, AM X n true a cr ws = AM X n false a' (whA ws (cr ++ new)).1 (whA ws (cr ++ new)).2) ∨
  (∃ a', FJ p fr I (W J) a' ∧ ∀ cr, ∃ z, AM X n true a cr ws = (false, a', z))
end
section
section PR
variable {p n : Nat} {X : Nat → Int32} {I : It}
theorem FJ.an {fr a : Nat} {J : It} {W : It → It} (h : FJ p fr I J a) : ∀ f, anR p W f J = J := by
  intro f
  cases f with
  | zero => rfl
  | succ f => rw [anR_s, if_neg (by rw [h.here]; decide)]; exact h.tk (by decide)
theorem FJ.eR {fr a k : Nat} {J : It} {W : It → It} (h : FJ p fr I J a) (hk : k ≠ 0) : ∀ f, eiR p W f k J = J := by
  intro f
  cases f with
  | zero => rfl
  | succ f => rw [eiR_s, if_neg hk, if_neg (by rw [h.here]; decide)]; exact h.tk (by decide)
theorem FJ.eF {fr a : Nat} {J : It} {W : It → It} (h : FJ p fr I (W J) a) : FJ p fr I (eiF p W J) a := by
  show FJ p fr I (eiR p W (99 + 1) 0 J) a
  rw [eiR_s, if_pos rfl, h.an, h.eR (by decide)]
  exact h
theorem FJ.pa {fr a : Nat} : ∀ (k : Nat) {J : It}, FJ p fr I J a → FJ p fr I (paF p k J) a := by
  intro k
  induction k with
  | zero => intro J h; exact h.ts
  | succ k ih =>
    intro J h
    rw [paF_s, if_neg (by rw [h.here]; decide), h.tk (by decide), if_neg (by rw [h.here]; decide), h.tk (by decide)]
    exact h.ts
theorem opn_38 {ws : List Int32} : opn (38 :: ws) = opn ws := by rw [opn_c, if_neg (by decide)]
theorem opn_124 {ws : List Int32} : opn (124 :: ws) = opn ws := by rw [opn_c, if_neg (by decide)]
/-- a part between bars, its first piece read -/
theorem an_sp (hT : TT p n X I) {k : Nat} {W : It → It} (hW : PSp p n X I k W) {ws : List Int32} (hA : isA ws) (ho : opn ws + k = 4) {a0 fr : Nat} {cs : List Int32} (hc0 : fr + cs.length ≤ a0) : ∀ (f : Nat) (J : It) (a : Nat) (new : List Int32), 1 ≤ a → CJ p n I J a fr (cs ++ new) → a0 + new.length ≤ a → n - a < f →
    (∃ a' new', CJ p n I (anR p W f J) a' fr (cs ++ new') ∧ a0 + new'.length ≤ a' ∧ a ≤ a' ∧ nxA X n a' ≠ 38 ∧ ∀ cr0 cr wr, StA cr wr (cr0 ++ new) ws → ∃ cr' wr', StA cr' wr' (cr0 ++ new') ws ∧ AM X n false a cr wr = AM X n false a' cr' wr') ∨
    (∃ a', FJ p fr I (anR p W f J) a' ∧ ∀ cr0 cr wr, StA cr wr (cr0 ++ new) ws → ∃ z, AM X n false a cr wr = (false, a', z)) := by
  have hn := hT.2.1
  intro f
  induction f with
  | zero => intro J a new _ _ _ h; exact absurd h (Nat.not_lt_zero _)
  | succ f ih =>
    intro J a new ha1 hC hb hf
    by_cases e : nxA X n a = 38
    · have hlt : a < n := nxA_no (by decide) e
      have step : ∀ cr0 cr wr, StA cr wr (cr0 ++ new) ws → AM X n false a cr wr = AM X n true (a + 1) (cr0 ++ new) (38 :: ws) := fun cr0 cr wr hS => by
        rw [AM_b hn (Or.inl e), e, hS.s38 hA]
      rw [anR_s, if_pos (by rw [hC.here hT]; exact e), hC.tk_y hT e]
      have h1 := hC.inc hlt
      rcases hW _ (a + 1) fr (cs ++ new) (38 :: ws) (by omega) h1 (by rw [opn_38]; exact ho) with ⟨a1, nw, h2, l1, l2, hA1⟩ | ⟨a1, h2, hA1⟩
      · have hlen : fr + (cs ++ new ++ nw).length < a1 := by simp only [List.length_append]; omega
        have h3 := h2.kp hn hlen (x := -38) (t := 38) (Or.inr (Or.inl ⟨rfl, rfl⟩))
        have es : cs ++ new ++ nw ++ [-38] = cs ++ (new ++ nw ++ [-38]) := by simp only [List.append_assoc]
        rw [es] at h3
        have go : ∀ cr0 cr wr, StA cr wr (cr0 ++ new) ws → AM X n false a cr wr = AM X n false a1 (cr0 ++ new ++ nw) (38 :: ws) := fun cr0 cr wr hS => by
          rw [step cr0 cr wr hS, hA1, wh_38]
        have st : ∀ cr0 : List Int32, StA (cr0 ++ new ++ nw) (38 :: ws) (cr0 ++ (new ++ nw ++ [-38])) ws := fun cr0 => Or.inr ⟨rfl, by simp only [List.append_assoc]⟩
        rcases ih _ a1 (new ++ nw ++ [-38]) (by omega) h3 (by simp only [List.length_append, List.length_cons, List.length_nil]; omega) (by omega) with ⟨a', new', g1, g2, g3, g4, g5⟩ | ⟨a', g1, g2⟩
        · refine Or.inl ⟨a', new', g1, g2, by omega, g4, fun cr0 cr wr hS => ?_⟩
          obtain ⟨cr', wr', q1, q2⟩ := g5 cr0 _ _ (st cr0)
          exact ⟨cr', wr', q1, (go cr0 cr wr hS).trans q2⟩
        · refine Or.inr ⟨a', g1, fun cr0 cr wr hS => ?_⟩
          obtain ⟨z, q⟩ := g2 cr0 _ _ (st cr0)
          exact ⟨z, (go cr0 cr wr hS).trans q⟩
      · rw [h2.kp, h2.an]
        refine Or.inr ⟨a1, h2, fun cr0 cr wr hS => ?_⟩
        obtain ⟨z, q⟩ := hA1 (cr0 ++ new)
        exact ⟨z, (step cr0 cr wr hS).trans q⟩
    · rw [anR_s, if_neg (by rw [hC.here hT]; exact e), hC.tk_n hT e]
      exact Or.inl ⟨a, new, hC, hb, Nat.le_refl _, e, fun cr0 cr wr hS => ⟨cr, wr, hS, rfl⟩⟩
/-- an E, its first part read -/
theorem ei_sp (hT : TT p n X I) {k : Nat} {W : It → It} (hW : PSp p n X I k W) {B : List Int32} (hB : isB B) (ho : opn B + k = 4) {a0 fr : Nat} {cs : List Int32} (hc0 : fr + cs.length ≤ a0) : ∀ (f kk : Nat) (J : It) (a : Nat) (new : List Int32), kk ≠ 0 → 1 ≤ a → CJ p n I J a fr (cs ++ new) → a0 + new.length ≤ a → n - a < f → nxA X n a ≠ 38 →
    (∃ a' new', CJ p n I (eiR p W f kk J) a' fr (cs ++ new') ∧ a0 + new'.length ≤ a' ∧ a ≤ a' ∧ nxA X n a' ≠ 38 ∧ nxA X n a' ≠ 124 ∧ ∀ cr0 cr wr, StE cr wr (cr0 ++ new) B → ∃ cr' wr', StE cr' wr' (cr0 ++ new') B ∧ AM X n false a cr wr = AM X n false a' cr' wr') ∨
    (∃ a', FJ p fr I (eiR p W f kk J) a' ∧ ∀ cr0 cr wr, StE cr wr (cr0 ++ new) B → ∃ z, AM X n false a cr wr = (false, a', z)) := by
  have hn := hT.2.1
  intro f
  induction f with
  | zero => intro kk J a new _ _ _ _ h; exact absurd h (Nat.not_lt_zero _)
  | succ f ih =>
    intro kk J a new hkk ha1 hC hb hf h38
    by_cases e : nxA X n a = 124
    · have hlt : a < n := nxA_no (by decide) e
      have step : ∀ cr0 cr wr, StE cr wr (cr0 ++ new) B → AM X n false a cr wr = AM X n true (a + 1) (cr0 ++ new) (124 :: B) := fun cr0 cr wr hS => by
        rw [AM_b hn (Or.inr e), e, hS.s124 hB]
      have hA : isA (124 :: B) := Or.inr ⟨B, hB, rfl⟩
      rw [eiR_s, if_neg hkk, if_pos (by rw [hC.here hT]; exact e), hC.tk_y hT e]
      have h1 := hC.inc hlt
      have hcl := hC.2.2.2.2.2.1
      rcases hW _ (a + 1) fr (cs ++ new) (124 :: B) (by omega) h1 (by rw [opn_124]; exact ho) with ⟨a1, nw, h2, l1, l2, hA1⟩ | ⟨a1, h2, hA1⟩
      · rcases an_sp hT hW hA (by rw [opn_124]; exact ho) (a0 := a + 1) (cs := cs ++ new) (by omega) 100 _ a1 nw (by omega) h2 l2 (by omega) with ⟨a2, na, g1, g2, g3, g4, g5⟩ | ⟨a2, g1, g2⟩
        · have hlen : fr + (cs ++ new ++ na).length < a2 := by simp only [List.length_append] at hcl ⊢; omega
          have h3 := g1.kp hn hlen (x := -124) (t := 124) (Or.inr (Or.inr (Or.inl ⟨rfl, rfl⟩)))
          have es : cs ++ new ++ na ++ [-124] = cs ++ (new ++ na ++ [-124]) := by simp only [List.append_assoc]
          rw [es] at h3
          have go : ∀ cr0 cr wr, StE cr wr (cr0 ++ new) B → ∃ cr' wr', StE cr' wr' (cr0 ++ (new ++ na ++ [-124])) B ∧ AM X n false a cr wr = AM X n false a2 cr' wr' := fun cr0 cr wr hS => by
            obtain ⟨cr', wr', q1, q2⟩ := g5 (cr0 ++ new) (cr0 ++ new ++ nw) (124 :: B) (Or.inl ⟨rfl, rfl⟩)
            refine ⟨cr', wr', Or.inr ⟨cr0 ++ new ++ na, q1, by simp only [List.append_assoc]⟩, ?_⟩
            rw [step cr0 cr wr hS, hA1, wh_A hA]
            exact q2
          rcases ih (kk + 1) _ a2 (new ++ na ++ [-124]) (by omega) (by omega) h3 (by simp only [List.length_append, List.length_cons, List.length_nil]; omega) (by omega) g4 with ⟨a', new', w1, w2, w3, w4, w5, w6⟩ | ⟨a', w1, w2⟩
          · refine Or.inl ⟨a', new', w1, w2, by omega, w4, w5, fun cr0 cr wr hS => ?_⟩
            obtain ⟨cr', wr', q1, q2⟩ := go cr0 cr wr hS
            obtain ⟨cr2, wr2, q3, q4⟩ := w6 cr0 cr' wr' q1
            exact ⟨cr2, wr2, q3, q2.trans q4⟩
          · refine Or.inr ⟨a', w1, fun cr0 cr wr hS => ?_⟩
            obtain ⟨cr', wr', q1, q2⟩ := go cr0 cr wr hS
            obtain ⟨z, q3⟩ := w2 cr0 cr' wr' q1
            exact ⟨z, q2.trans q3⟩
        · rw [g1.kp, g1.eR (by omega)]
          refine Or.inr ⟨a2, g1, fun cr0 cr wr hS => ?_⟩
          obtain ⟨z, q⟩ := g2 (cr0 ++ new) (cr0 ++ new ++ nw) (124 :: B) (Or.inl ⟨rfl, rfl⟩)
          refine ⟨z, ?_⟩
          rw [step cr0 cr wr hS, hA1, wh_A hA]
          exact q
      · rw [h2.an, h2.kp, h2.eR (by omega)]
        refine Or.inr ⟨a1, h2, fun cr0 cr wr hS => ?_⟩
        obtain ⟨z, q⟩ := hA1 (cr0 ++ new)
        exact ⟨z, (step cr0 cr wr hS).trans q⟩
    · rw [eiR_s, if_neg hkk, if_neg (by rw [hC.here hT]; exact e), hC.tk_n hT e]
      exact Or.inl ⟨a, new, hC, hb, Nat.le_refl _, h38, e, fun cr0 cr wr hS => ⟨cr, wr, hS, rfl⟩⟩
/-- an E -/
theorem eiF_sp (hT : TT p n X I) {k : Nat} {W : It → It} (hW : PSp p n X I k W) {B : List Int32} (hB : isB B) (ho : opn B + k = 4) {J : It} {a fr : Nat} {cs : List Int32} (ha : 1 ≤ a) (hC : CJ p n I J a fr cs) :
    (∃ a' new, CJ p n I (eiF p W J) a' fr (cs ++ new) ∧ a < a' ∧ a + new.length ≤ a' ∧ nxA X n a' ≠ 38 ∧ nxA X n a' ≠ 124 ∧ ∀ cr0, ∃ cr' wr', seA 124 wr' cr' = (cr0 ++ new, B) ∧ AM X n true a cr0 B = AM X n false a' cr' wr') ∨
    (∃ a', FJ p fr I (eiF p W J) a' ∧ ∀ cr0, ∃ z, AM X n true a cr0 B = (false, a', z)) := by
  have hn := hT.2.1
  have hcl := hC.2.2.2.2.2.1
  have hA : isA B := Or.inl hB
  show (∃ a' new, CJ p n I (eiR p W (99 + 1) 0 J) a' fr (cs ++ new) ∧ _) ∨ (∃ a', FJ p fr I (eiR p W (99 + 1) 0 J) a' ∧ _)
  rw [eiR_s, if_pos rfl]
  rcases hW J a fr cs B ha hC ho with ⟨a1, nw, h2, l1, l2, hA1⟩ | ⟨a1, h2, hA1⟩
  · rcases an_sp hT hW hA ho (a0 := a) hcl 100 _ a1 nw (by omega) h2 l2 (by omega) with ⟨a2, na, g1, g2, g3, g4, g5⟩ | ⟨a2, g1, g2⟩
    · rcases ei_sp hT hW hB ho (a0 := a) hcl 99 1 _ a2 na (by decide) (by omega) g1 g2 (by omega) g4 with ⟨a', new', w1, w2, w3, w4, w5, w6⟩ | ⟨a', w1, w2⟩
      · refine Or.inl ⟨a', new', w1, by omega, w2, w4, w5, fun cr0 => ?_⟩
        obtain ⟨cr', wr', q1, q2⟩ := g5 cr0 (cr0 ++ nw) B (Or.inl ⟨rfl, rfl⟩)
        obtain ⟨cr2, wr2, q3, q4⟩ := w6 cr0 cr' wr' (Or.inl q1)
        refine ⟨cr2, wr2, q3.s124 hB, ?_⟩
        rw [hA1, wh_A hA]
        exact q2.trans q4
      · refine Or.inr ⟨a', w1, fun cr0 => ?_⟩
        obtain ⟨cr', wr', q1, q2⟩ := g5 cr0 (cr0 ++ nw) B (Or.inl ⟨rfl, rfl⟩)
        obtain ⟨z, q3⟩ := w2 cr0 cr' wr' (Or.inl q1)
        refine ⟨z, ?_⟩
        rw [hA1, wh_A hA]
        exact q2.trans q3
    · rw [g1.eR (by decide)]
      refine Or.inr ⟨a2, g1, fun cr0 => ?_⟩
      obtain ⟨z, q⟩ := g2 cr0 (cr0 ++ nw) B (Or.inl ⟨rfl, rfl⟩)
      refine ⟨z, ?_⟩
      rw [hA1, wh_A hA]
      exact q
  · rw [h2.an, h2.eR (by decide)]
    exact Or.inr ⟨a1, h2, hA1⟩
/-- a TEST, where no sign opens -/
theorem ts_P (hT : TT p n X I) {J : It} {a fr : Nat} {cs ws : List Int32} (hC : CJ p n I J a fr cs) (hno : ¬ (nxA X n a = 33 ∨ nxA X n a = 40)) :
    (∃ a' new, CJ p n I (tsW p J) a' fr (cs ++ new) ∧ a < a' ∧ a + new.length ≤ a' ∧ ∀ cr, AM X n true a cr ws = AM X n false a' (whA ws (cr ++ new)).1 (whA ws (cr ++ new)).2) ∨
    (∃ a', FJ p fr I (tsW p J) a' ∧ ∀ cr, ∃ z, AM X n true a cr ws = (false, a', z)) := by
  have hn := hT.2.1
  obtain ⟨t1, t2⟩ := hC.ts hT
  by_cases q : (tsA X n a).1 = true
  · have g := ts_gt q
    exact Or.inl ⟨_, _, t1 q, by omega, by simp only [List.length_cons, List.length_nil]; omega, fun cr => AM_t hn hC.2.2.2.1 hno q⟩
  · exact Or.inr ⟨_, t2 q, fun cr => ⟨cr, AM_tf hno q⟩⟩
theorem ts_no {a : Nat} (h : nxA X n a = 33 ∨ nxA X n a = 40) : tsA X n a = (false, a, 0) := by
  unfold tsA
  rw [if_pos (by rcases h with z | z <;> rw [z] <;> decide)]
/-- a piece -/
theorem pa_sp (hT : TT p n X I) : ∀ k, PSp p n X I k (paF p k) := by
  have hn := hT.2.1
  intro k
  induction k with
  | zero =>
    intro J a fr cs ws ha hC ho
    show (∃ a' new, CJ p n I (tsW p J) a' fr (cs ++ new) ∧ _) ∨ (∃ a', FJ p fr I (tsW p J) a' ∧ _)
    by_cases e : nxA X n a = 33 ∨ nxA X n a = 40
    · have := (hC.ts hT).2 (by rw [ts_no e]; exact Bool.false_ne_true)
      rw [ts_no e] at this
      exact Or.inr ⟨a, this, fun cr => ⟨cr, AM_o4 e ho⟩⟩
    · exact ts_P hT hC e
  | succ k ih =>
    intro J a fr cs ws ha hC ho
    have hcl := hC.2.2.2.2.2.1
    have h4 : ¬ opn ws = 4 := by omega
    by_cases e : nxA X n a = 33
    · have hlt : a < n := nxA_no (by decide) e
      rw [paF_s, if_pos (by rw [hC.here hT]; exact e), hC.tk_y hT e]
      have h1 := hC.inc hlt
      have step : ∀ cr, AM X n true a cr ws = AM X n true (a + 1) cr (33 :: ws) := fun cr => by rw [AM_o hn (Or.inl e) h4, e]
      rcases ih _ (a + 1) fr cs (33 :: ws) (by omega) h1 (by rw [opn_c, if_pos (Or.inl rfl)]; omega) with ⟨a1, nw, h2, l1, l2, hA1⟩ | ⟨a1, h2, hA1⟩
      · have hlen : fr + (cs ++ nw).length < a1 := by simp only [List.length_append]; omega
        have h3 := h2.kp hn hlen (x := -33) (t := 33) (Or.inl ⟨rfl, rfl⟩)
        rw [List.append_assoc] at h3
        refine Or.inl ⟨a1, nw ++ [-33], h3, by omega, by simp only [List.length_append, List.length_cons, List.length_nil]; omega, fun cr => ?_⟩
        rw [step, hA1, whA_c, if_pos rfl, List.append_assoc]
      · rw [h2.kp]
        refine Or.inr ⟨a1, h2, fun cr => ?_⟩
        obtain ⟨z, q⟩ := hA1 cr
        exact ⟨z, (step cr).trans q⟩
    · have t33 := hC.tk_n hT e
      rw [paF_s, if_neg (by rw [hC.here hT]; exact e), t33]
      by_cases e2 : nxA X n a = 40
      · have hlt : a < n := nxA_no (by decide) e2
        rw [if_pos (by rw [hC.here hT]; exact e2), hC.tk_y hT e2]
        have h1 := hC.inc hlt
        have step : ∀ cr, AM X n true a cr ws = AM X n true (a + 1) cr (40 :: ws) := fun cr => by rw [AM_o hn (Or.inr e2) h4, e2]
        rcases eiF_sp hT ih (B := 40 :: ws) (Or.inr ⟨ws, rfl⟩) (by rw [opn_c, if_pos (Or.inr rfl)]; omega) (by omega) h1 with ⟨a1, nw, h2, l1, l2, n38, n124, hA1⟩ | ⟨a1, h2, hA1⟩
        · have hno : ¬ (nxA X n a1 = 38 ∨ nxA X n a1 = 124) := by rintro (z | z); exact n38 z; exact n124 z
          by_cases e3 : nxA X n a1 = 41
          · refine Or.inl ⟨a1 + 1, nw, h2.nd_y hT (by decide) e3, by omega, by omega, fun cr => ?_⟩
            obtain ⟨cr', wr', q1, q2⟩ := hA1 cr
            rw [step, q2, AM_c hn hno (by rw [q1]; exact List.cons_ne_nil _ _) e3, q1]
            rfl
          · refine Or.inr ⟨a1, h2.nd_n hT e3, fun cr => ?_⟩
            obtain ⟨cr', wr', q1, q2⟩ := hA1 cr
            exact ⟨_, by rw [step, q2, AM_x hno (by rw [q1]; exact List.cons_ne_nil _ _) e3]⟩
        · refine Or.inr ⟨a1, h2.nd, fun cr => ?_⟩
          obtain ⟨z, q⟩ := hA1 cr
          exact ⟨z, (step cr).trans q⟩
      · rw [if_neg (by rw [hC.here hT]; exact e2), hC.tk_n hT e2]
        exact ts_P hT hC (by rintro (z | z); exact e z; exact e2 z)
end PR
/-! the words -/
def ndsL (p f : Nat) : Nat → Nat → It → It := fun m => match m with
  | 0 => fun _ J => ndW p 32 J
  | m + 1 => fun i J => ndsL p f m (i + 1) (ndW p (lettersL.getD (f + i) 0) J)
section WD
variable {p n : Nat} {X : Nat → Int32} {I : It}
theorem FJ.nds {f : Nat} : ∀ (m : Nat) {i fr a : Nat} {J : It}, FJ p fr I J a → FJ p fr I (ndsL p f m i J) a := by
  intro m
  induction m with
  | zero => intro i fr a J h; exact h.nd
  | succ m ih => intro i fr a J h; exact ih h.nd
theorem nds_sp (hT : TT p n X I) {f : Nat} : ∀ (m i : Nat) {J : It} {a fr : Nat} {cs : List Int32}, f + i + m ≤ 15 → CJ p n I J a fr cs → ((twA X n f m i a).1 = true → CJ p n I (ndsL p f m i J) (twA X n f m i a).2 fr cs) ∧ (¬ (twA X n f m i a).1 = true → FJ p fr I (ndsL p f m i J) (twA X n f m i a).2) := by
  intro m
  induction m with
  | zero =>
    intro i J a fr cs _ hC
    show (decide (nxA X n a = 32) = true → CJ p n I (ndW p 32 J) (tkA X n a 32) fr cs) ∧ (¬ decide (nxA X n a = 32) = true → FJ p fr I (ndW p 32 J) (tkA X n a 32))
    unfold tkA
    by_cases e : nxA X n a = 32
    · rw [if_pos e]
      exact ⟨fun _ => hC.nd_y hT (by decide) e, fun z => absurd (decide_eq_true e) z⟩
    · rw [if_neg e]
      exact ⟨fun z => absurd (of_decide_eq_true z) e, fun _ => hC.nd_n hT e⟩
  | succ m ih =>
    intro i J a fr cs hl hC
    rw [twA_s]
    show (_ → CJ p n I (ndsL p f m (i + 1) (ndW p (lettersL.getD (f + i) 0) J)) _ fr cs) ∧ (_ → FJ p fr I (ndsL p f m (i + 1) (ndW p (lettersL.getD (f + i) 0) J)) _)
    by_cases e : nxA X n a = lettersL.getD (f + i) 0
    · rw [if_pos e]
      exact ih (i + 1) (by omega) (hC.nd_y hT (let_no (f + i) (by omega)) e)
    · rw [if_neg e]
      exact ⟨fun z => absurd z Bool.false_ne_true, fun _ => FJ.nds m (hC.nd_n hT e)⟩
theorem CJ.tk_nd (hT : TT p n X I) {J : It} {a fr : Nat} {cs : List Int32} {s : Int32} (hC : CJ p n I J a fr cs) (e : nxA X n a = s) : tkW p s J = ndW p s J := by rw [hC.tk_y hT e, hC.nd_e hT e]
/-- the word of a clause, the blank behind it -/
theorem wd_sp (hT : TT p n X I) {J : It} {a fr : Nat} {cs : List Int32} (hC : CJ p n I J a fr cs) : ((hdA X n a).1 = true → CJ p n I (ndW p 32 (wdW p J)) (hdA X n a).2.1 fr cs ∧ wdV p J = wcd (hdA X n a).2.2) ∧ (¬ (hdA X n a).1 = true → FJ p fr I (ndW p 32 (wdW p J)) (hdA X n a).2.1) := by
  have eh := hC.here hT
  by_cases e1 : nxA X n a = 99
  · have e115 : ¬ hereC p J = 115 := by rw [eh, e1]; decide
    have t115 := hC.tk_n hT (s := 115) (by rw [e1]; decide)
    have t102 := hC.tk_n hT (s := 102) (by rw [e1]; decide)
    have ea : wdA p J = ndW p 99 J := by unfold wdA; rw [t115, t102]
    have h1 := hC.nd_y hT (s := 99) (by decide) e1
    rw [← ea] at h1
    have eh1 := h1.here hT
    have e102 : ¬ hereC p (tkW p 115 J) = 102 := by rw [t115, eh, e1]; decide
    by_cases e2 : nxA X n (a + 1) = 97
    · have e111 : ¬ hereC p (wdA p J) = 111 := by rw [eh1, e2]; decide
      have eW : ndW p 32 (wdW p J) = ndsL p 7 4 0 J := by
        unfold wdW
        rw [if_neg e115, if_neg e102, if_neg e111, h1.tk_n hT (s := 111) (by rw [e2]; decide), ea]
        rfl
      have eV : wdV p J = 108 := by
        unfold wdV
        rw [if_neg e115, if_neg e102, if_neg e111]
      have eH : hdA X n a = ((twA X n 7 4 0 a).1, (twA X n 7 4 0 a).2, 2) := by
        unfold hdA
        rw [if_pos e1, if_pos e2]
      rw [eW, eV, eH]
      obtain ⟨g1, g2⟩ := nds_sp hT 4 0 (f := 7) (by decide) hC
      exact ⟨fun z => ⟨g1 z, rfl⟩, g2⟩
    · have eH : hdA X n a = ((twA X n 3 4 0 a).1, (twA X n 3 4 0 a).2, 1) := by
        unfold hdA
        rw [if_pos e1, if_neg e2]
      rw [eH]
      by_cases e3 : nxA X n (a + 1) = 111
      · have e111 : hereC p (wdA p J) = 111 := by rw [eh1]; exact e3
        have eW : ndW p 32 (wdW p J) = ndsL p 3 4 0 J := by
          unfold wdW
          rw [if_neg e115, if_neg e102, if_pos e111, h1.tk_nd hT e3, ea]
          rfl
        have eV : wdV p J = 99 := by
          unfold wdV
          rw [if_neg e115, if_neg e102, if_pos e111]
        rw [eW, eV]
        obtain ⟨g1, g2⟩ := nds_sp hT 4 0 (f := 3) (by decide) hC
        exact ⟨fun z => ⟨g1 z, rfl⟩, g2⟩
      · have e111 : ¬ hereC p (wdA p J) = 111 := by rw [eh1]; exact e3
        have et : twA X n 3 4 0 a = (false, a + 1) := by
          rw [twA_s, if_pos (show nxA X n a = lettersL.getD (3 + 0) 0 from e1), twA_s, if_neg (show ¬ nxA X n (a + 1) = lettersL.getD (3 + (0 + 1)) 0 from e3)]
        rw [et]
        refine ⟨fun z => absurd z Bool.false_ne_true, fun _ => ?_⟩
        unfold wdW
        rw [if_neg e115, if_neg e102, if_neg e111, h1.tk_n hT (s := 111) e3]
        exact (h1.nd_n hT e2).nd.nd.nd
  · by_cases e2 : nxA X n a = 115
    · have e115 : hereC p J = 115 := by rw [eh]; exact e2
      have eW : ndW p 32 (wdW p J) = ndsL p 0 3 0 J := by
        unfold wdW
        rw [if_pos e115, hC.tk_nd hT e2]
        rfl
      have eV : wdV p J = 115 := by
        unfold wdV
        rw [if_pos e115]
      have eH : hdA X n a = ((twA X n 0 3 0 a).1, (twA X n 0 3 0 a).2, 0) := by
        unfold hdA
        rw [if_neg e1, if_pos e2]
      rw [eW, eV, eH]
      obtain ⟨g1, g2⟩ := nds_sp hT 3 0 (f := 0) (by decide) hC
      exact ⟨fun z => ⟨g1 z, rfl⟩, g2⟩
    · have e115 : ¬ hereC p J = 115 := by rw [eh]; exact e2
      have t115 := hC.tk_n hT (s := 115) e2
      have eH : hdA X n a = ((twA X n 11 4 0 a).1, (twA X n 11 4 0 a).2, 3) := by
        unfold hdA
        rw [if_neg e1, if_neg e2]
      rw [eH]
      by_cases e3 : nxA X n a = 102
      · have e102 : hereC p (tkW p 115 J) = 102 := by rw [t115, eh]; exact e3
        have eW : ndW p 32 (wdW p J) = ndsL p 11 4 0 J := by
          unfold wdW
          rw [if_neg e115, if_pos e102, t115, hC.tk_nd hT e3]
          rfl
        have eV : wdV p J = 102 := by
          unfold wdV
          rw [if_neg e115, if_pos e102]
        rw [eW, eV]
        obtain ⟨g1, g2⟩ := nds_sp hT 4 0 (f := 11) (by decide) hC
        exact ⟨fun z => ⟨g1 z, rfl⟩, g2⟩
      · have e102 : ¬ hereC p (tkW p 115 J) = 102 := by rw [t115, eh]; exact e3
        have et : twA X n 11 4 0 a = (false, a) := by rw [twA_s, if_neg (show ¬ nxA X n a = lettersL.getD (11 + 0) 0 from e3)]
        rw [et]
        refine ⟨fun z => absurd z Bool.false_ne_true, fun _ => ?_⟩
        have ha : FJ p fr I (wdA p J) a := by
          unfold wdA
          rw [t115, hC.tk_n hT (s := 102) e3]
          exact hC.nd_n hT e1
        unfold wdW
        rw [if_neg e115, if_neg e102, if_neg (by rw [ha.here]; decide), ha.tk (by decide)]
        exact ha.nd.nd.nd.nd
end WD
end
section
/-! clauses, the text -/
def FQ (p : Nat) (I J : It) : Prop := (∀ a, (a < 43 + 5 * p ∨ 47 + 5 * p < a) → J a = I a) ∧ ∀ j, j ∉ [0, 1, 2, 7, 10, 11] → J (43 + 5 * p) j = I (43 + 5 * p) j
theorem FQ.rf {p : Nat} {I : It} : FQ p I I := ⟨fun _ _ => rfl, fun _ _ => rfl⟩
theorem FQ.tr {p : Nat} {I J K : It} (h : FQ p I J) (h2 : FQ p J K) : FQ p I K := ⟨fun a ha => (h2.1 a ha).trans (h.1 a ha), fun j hj => (h2.2 j hj).trans (h.2 j hj)⟩
theorem FP.q {p fr : Nat} {I J : It} (h : FP p fr I J) : FQ p I J :=
  ⟨fun a ha => h.1 a (by omega) (by omega), fun j hj => by
    simp only [List.mem_cons, List.not_mem_nil, or_false, not_or] at hj
    exact h.2.1 j (by omega) (by omega) (by omega)⟩
theorem FQ.u {p j : Nat} {I J : It} {x : Int32} (h : FQ p I J) (hj : j ∈ [0, 1, 2, 7, 10, 11]) : FQ p I (upI J (43 + 5 * p) j x) :=
  ⟨fun a ha => (upI_off (by omega)).trans (h.1 a ha), fun b hb => (upn (fun z => hb (by rw [z.2]; exact hj))).trans (h.2 b hb)⟩
theorem TT.q {p n : Nat} {X : Nat → Int32} {I J : It} (hT : TT p n X I) (h : FQ p I J) : TT p n X J :=
  ⟨hT.1, hT.2.1, (h.2 9 (by decide)).trans hT.2.2.1, fun j hj => by rw [h.1 31 (by omega)]; exact hT.2.2.2 j hj⟩
def DJ (p n : Nat) (I J : It) (a : Nat) (l : List Cl) : Prop :=
  FQ p I J ∧ (J (43 + 5 * p) 11 = 0 ∧ J (43 + 5 * p) 10 = nI a ∧ a ≤ n) ∧ (J (43 + 5 * p) 7 = nI (tot l) ∧ tot l ≤ a) ∧ J (43 + 5 * p) 2 = nI l.length ∧ CTc J p l 0 0 ∧ J (43 + 5 * p) 0 = lstL 2 l 7 ∧ J (43 + 5 * p) 1 = lstL 3 l 1
def GJ (p : Nat) (I J : It) (a : Nat) : Prop := FQ p I J ∧ J (43 + 5 * p) 11 ≠ 0 ∧ J (43 + 5 * p) 10 = nI a
theorem DJ.c {p n a : Nat} {I J : It} {l : List Cl} (h : DJ p n I J a l) : CJ p n J J a (tot l) [] := ⟨FP.rf, h.2.1.1, h.2.1.2.1, h.2.1.2.2, h.2.2.1.1, h.2.2.1.2, fun i hi => absurd hi (Nat.not_lt_zero i)⟩
theorem FJ.g {p fr a : Nat} {I J K : It} (hF : FQ p I J) (h : FJ p fr J K a) : GJ p I K a := ⟨hF.tr h.1.q, h.2.1, h.2.2⟩
theorem GJ.u {p a j : Nat} {I J : It} {x : Int32} (h : GJ p I J a) (hj : j = 0 ∨ j = 1) : GJ p I (upI J (43 + 5 * p) j x) a :=
  ⟨h.1.u (by rcases hj with rfl | rfl <;> decide), by rw [upn (by omega)]; exact h.2.1, (upn (by omega)).trans h.2.2⟩
theorem GJ.cl {p a : Nat} {I J : It} {w v : Int32} (h : GJ p I J a) : clW p w v J = J := by unfold clW; rw [if_pos h.2.1]
theorem GJ.here {p a : Nat} {I J : It} (h : GJ p I J a) : hereC p J = -1 := by unfold hereC; rw [if_pos h.2.1]
theorem GJ.rf {p a : Nat} {I J : It} (h : GJ p I J a) : ∀ (f k : Nat), k ≠ 0 → rfR p f k J = J := by
  intro f k hk
  cases f with
  | zero => rfl
  | succ f =>
    rw [rfR_s, if_neg hk, if_neg (by rw [h.here]; decide)]
    unfold tkW
    rw [h.here, if_neg (by decide)]
theorem DJ.stop {p n a : Nat} {X : Nat → Int32} {I J : It} {l : List Cl} (h : DJ p n I J a l) (hT : TT p n X I) (e : nxA X n a ≠ 59) : ∀ (f k : Nat), k ≠ 0 → rfR p f k J = J := by
  intro f k hk
  have hT0 := hT.q h.1
  cases f with
  | zero => rfl
  | succ f => rw [rfR_s, if_neg hk, if_neg (by rw [h.c.here hT0]; exact e), h.c.tk_n hT0 e]
theorem CTc_mv2 {I J : It} {p : Nat} : ∀ {l : List Cl} {k fr : Nat}, CTc I p l k fr → (∀ j, k ≤ j → j < k + l.length → J (44 + 5 * p) j = I (44 + 5 * p) j ∧ J (45 + 5 * p) j = I (45 + 5 * p) j ∧ J (46 + 5 * p) j = I (46 + 5 * p) j) → (∀ j, fr ≤ j → j < fr + tot l → J (47 + 5 * p) j = I (47 + 5 * p) j) → CTc J p l k fr := by
  intro l
  induction l with
  | nil => intro k fr _ _ _; trivial
  | cons x r ih =>
    intro k fr hc h1 h2
    rw [List.length_cons] at h1
    rw [tot_c] at h2
    obtain ⟨⟨c1, c2, c3, c4⟩, c5⟩ := hc
    obtain ⟨e1, e2, e3⟩ := h1 k (Nat.le_refl _) (by omega)
    refine ⟨⟨e1.trans c1, e2.trans c2, e3.trans c3, fun i hi => ?_⟩, ih c5 (fun j q1 q2 => h1 j (by omega) (by omega)) (fun j q1 q2 => h2 j (by omega) (by omega))⟩
    rw [h2 (fr + i) (by omega) (by omega)]
    exact c4 i hi
theorem CTc_app {J : It} {p : Nat} {x : Cl} : ∀ {l : List Cl} {k fr : Nat}, CTc J p l k fr → (J (44 + 5 * p) (k + l.length) = wcd x.1 ∧ J (45 + 5 * p) (k + l.length) = x.2.1 ∧ J (46 + 5 * p) (k + l.length) = nI (fr + tot l + x.2.2.length) ∧ CC2 (fr + tot l) (J (47 + 5 * p)) x.2.2) → CTc J p (l ++ [x]) k fr := by
  intro l
  induction l with
  | nil => intro k fr _ h; exact ⟨h, trivial⟩
  | cons y r ih =>
    intro k fr h hx
    refine ⟨h.1, ih h.2 ?_⟩
    rw [tot_c, List.length_cons] at hx
    rw [show k + 1 + r.length = k + (r.length + 1) by omega, show fr + y.2.2.length + tot r = fr + (y.2.2.length + tot r) by omega]
    exact hx
theorem lstL_app (w : Int32) (x : Cl) : ∀ (l : List Cl) (n : Int32), lstL w (l ++ [x]) n = if x.1 = w then x.2.1 else lstL w l n := by
  intro l
  induction l with
  | nil => intro n; rfl
  | cons y r ih => intro n; rw [List.cons_append, lstL_c, lstL_c]; exact ih _
/-- a clause is kept -/
theorem DJ.cl {p n a a' : Nat} {I J R : It} {l : List Cl} (h : DJ p n I J a l) (hl : l.length < 10) {t v : Int32} {cs : List Int32}
    (f1 : ∀ q, q ≠ 43 + 5 * p → q ≠ 47 + 5 * p → R q = J q) (f2 : ∀ j, j ≠ 0 → j ≠ 1 → j ≠ 7 → j ≠ 10 → j ≠ 11 → R (43 + 5 * p) j = J (43 + 5 * p) j) (f3 : ∀ j, j < tot l → R (47 + 5 * p) j = J (47 + 5 * p) j)
    (r11 : R (43 + 5 * p) 11 = 0) (r10 : R (43 + 5 * p) 10 = nI a') (han : a' ≤ n) (h100 : n ≤ 100) (r7 : R (43 + 5 * p) 7 = nI (tot l + cs.length)) (hle : tot l + cs.length ≤ a') (hC : CC2 (tot l) (R (47 + 5 * p)) cs)
    (r0 : R (43 + 5 * p) 0 = if t = 2 then v else J (43 + 5 * p) 0) (r1 : R (43 + 5 * p) 1 = if t = 3 then v else J (43 + 5 * p) 1) : DJ p n I (clW p (wcd t) v R) a' (l ++ [(t, v, cs)]) := by
  obtain ⟨d1, -, ⟨d4, d5⟩, d6, d7, d8, d9⟩ := h
  have r2 : R (43 + 5 * p) 2 = nI l.length := (f2 2 (by decide) (by decide) (by decide) (by decide) (by decide)).trans d6
  have e0 : tN (R (43 + 5 * p) 2) = l.length := by rw [r2, tN_nI (by omega)]
  obtain ⟨e1, e2, e3⟩ := cl_P p (wcd t) v R
  have eW : clW p (wcd t) v R = upI (cl3 p (wcd t) v R) (43 + 5 * p) 2 (nI (l.length + 1)) := by
    unfold clW
    rw [if_neg (not_not_intro r11), if_neg (by rw [r2]; exact fun z => absurd ((nI_leI (a := 10) (by decide) (by omega)).mp z) (by omega)), e3, r2, nI_1]
  have e4 : cl3 p (wcd t) v R = upI (upI (upI R (44 + 5 * p) l.length (wcd t)) (45 + 5 * p) l.length v) (46 + 5 * p) l.length (nI (tot l + cs.length)) := by
    unfold cl3
    rw [e2, r7, e0]
    unfold cl2 cl1
    rw [e0]
  rw [eW, e4]
  generalize eK : upI (upI (upI (upI R (44 + 5 * p) l.length (wcd t)) (45 + 5 * p) l.length v) (46 + 5 * p) l.length (nI (tot l + cs.length))) (43 + 5 * p) 2 (nI (l.length + 1)) = K
  have kP : ∀ j, j ≠ 2 → K (43 + 5 * p) j = R (43 + 5 * p) j := fun j hj => by rw [← eK, upn (by omega), upn (by omega), upn (by omega), upn (by omega)]
  have kO : ∀ q, (q < 43 + 5 * p ∨ 47 + 5 * p ≤ q) → K q = R q := fun q hq => by rw [← eK, upI_off (by omega), upI_off (by omega), upI_off (by omega), upI_off (by omega)]
  have k44 : ∀ j, j ≠ l.length → K (44 + 5 * p) j = R (44 + 5 * p) j ∧ K (45 + 5 * p) j = R (45 + 5 * p) j ∧ K (46 + 5 * p) j = R (46 + 5 * p) j := fun j hj => by
    rw [← eK]
    exact ⟨by rw [upn (by omega), upn (by omega), upn (by omega), upn (by omega)], by rw [upn (by omega), upn (by omega), upn (by omega), upn (by omega)], by rw [upn (by omega), upn (by omega), upn (by omega), upn (by omega)]⟩
  have kl : K (44 + 5 * p) l.length = wcd t ∧ K (45 + 5 * p) l.length = v ∧ K (46 + 5 * p) l.length = nI (tot l + cs.length) := by
    rw [← eK]
    exact ⟨by rw [upn (by omega), upn (by omega), upn (by omega), up0], by rw [upn (by omega), upn (by omega), up0], by rw [upn (by omega), up0]⟩
  have k2 : K (43 + 5 * p) 2 = nI (l.length + 1) := by rw [← eK, up0]
  have k47 : K (47 + 5 * p) = R (47 + 5 * p) := kO _ (by omega)
  refine ⟨⟨fun q hq => (kO q (by omega)).trans ((f1 q (by omega) (by omega)).trans (d1.1 q hq)), fun j hj => ?_⟩, ⟨(kP 11 (by decide)).trans r11, (kP 10 (by decide)).trans r10, han⟩, ⟨?_, ?_⟩, ?_, ?_, ?_, ?_⟩
  · have hj2 := hj
    simp only [List.mem_cons, List.not_mem_nil, or_false, not_or] at hj
    exact (kP j (by omega)).trans ((f2 j (by omega) (by omega) (by omega) (by omega) (by omega)).trans (d1.2 j hj2))
  · rw [kP 7 (by decide), r7, tot_app]
  · rw [tot_app]; exact hle
  · rw [k2, List.length_append]; rfl
  · refine CTc_app (CTc_mv2 d7 (fun j _ hj => ?_) (fun j _ hj => ?_)) ?_
    · obtain ⟨q1, q2, q3⟩ := k44 j (by omega)
      rw [q1, q2, q3, f1 _ (by omega) (by omega), f1 _ (by omega) (by omega), f1 _ (by omega) (by omega)]
      exact ⟨rfl, rfl, rfl⟩
    · rw [k47]; exact f3 j (by omega)
    · rw [Nat.zero_add, Nat.zero_add, k47]
      exact ⟨kl.1, kl.2.1, kl.2.2, hC⟩
  · rw [kP 0 (by decide), r0, lstL_app, d8]
  · rw [kP 1 (by decide), r1, lstL_app, d9]
/-- a clause is read -/
theorem rc_sp {p n : Nat} {X : Nat → Int32} {I J : It} {a : Nat} {l : List Cl} (hT : TT p n X I) (h : DJ p n I J a l) (hl : l.length < 10) : ((clA X n a).1 = true → DJ p n I (rcW p J) (clA X n a).2.1 (l ++ [(clA X n a).2.2])) ∧ (¬ (clA X n a).1 = true → GJ p I (rcW p J) (clA X n a).2.1) := by
  have hn := hT.2.1
  have hT0 := hT.q h.1
  have hC := h.c
  obtain ⟨w1, w2⟩ := wd_sp hT0 hC
  have bad2 : ∀ b, GJ p I (rc2 p J) b → GJ p I (rcW p J) b := by
    intro b g
    unfold rcW
    rw [g.cl]; exact g
  have bad : ∀ b, FJ p (tot l) J (rc1 p J) b → GJ p I (rcW p J) b := by
    intro b hb
    refine bad2 b ?_
    unfold rc2
    by_cases z : wdV p J = 115 ∨ wdV p J = 99
    · rw [if_pos z]; exact FJ.g h.1 (FJ.eF (FJ.pa 4 hb.nd))
    · rw [if_neg z]
      by_cases z2 : wdV p J = 108
      · rw [if_pos z2]; exact (FJ.g h.1 hb).u (Or.inl rfl)
      · rw [if_neg z2]; exact (FJ.g h.1 hb).u (Or.inr rfl)
  by_cases q1 : (hdA X n a).1 = true
  · obtain ⟨hC1, hv⟩ := w1 q1
    by_cases q2 : dgA X n (hdA X n a).2.1
    · obtain ⟨hC2, hN⟩ := hC1.nu_y hT0 q2
      replace hC2 : CJ p n J (rc1 p J) (nuA X n (hdA X n a).2.1) (tot l) [] := hC2
      replace hN : rcN_ p J = nvA X n (hdA X n a).2.1 := hN
      by_cases q3 : 1 < (hdA X n a).2.2
      · rw [cl_w q1 q2 q3]
        refine ⟨fun _ => ?_, fun z => absurd rfl z⟩
        show DJ p n I (rcW p J) (nuA X n (hdA X n a).2.1) (l ++ [((hdA X n a).2.2, nvA X n (hdA X n a).2.1, [])])
        have t23 : (hdA X n a).2.2 = 2 ∨ (hdA X n a).2.2 = 3 := by
          rcases hd_w (X := X) (n := n) (a := a) with z | z | z | z
          · rw [z] at q3; exact absurd q3 (by decide)
          · rw [z] at q3; exact absurd q3 (by decide)
          · exact Or.inl z
          · exact Or.inr z
        obtain ⟨⟨f1, f2, f3⟩, g11, g10, gan, g7, gle, gC⟩ := hC2
        unfold rcW
        rw [hv, hN]
        rcases t23 with z | z
        · have e2 : rc2 p J = upI (rc1 p J) (43 + 5 * p) 0 (nvA X n (hdA X n a).2.1) := by
            unfold rc2
            rw [hv, z, if_neg (by decide), if_pos (by decide), hN]
          rw [e2]
          exact h.cl hl (fun q z1 z2 => (upI_off z1).trans (f1 q z1 z2)) (fun j j0 j1 j7 j10 j11 => (upn (by omega)).trans (f2 j j7 j10 j11)) (fun j hj => (upn (by omega)).trans (f3 j hj)) ((upn (by omega)).trans g11) ((upn (by omega)).trans g10) gan hn ((upn (by omega)).trans g7) gle (by rw [upI_off (by omega)]; exact gC) (by rw [up0, if_pos z]) (by rw [upn (by omega), if_neg (by rw [z]; decide)]; exact f2 1 (by decide) (by decide) (by decide))
        · have e2 : rc2 p J = upI (rc1 p J) (43 + 5 * p) 1 (nvA X n (hdA X n a).2.1) := by
            unfold rc2
            rw [hv, z, if_neg (by decide), if_neg (by decide), hN]
          rw [e2]
          exact h.cl hl (fun q z1 z2 => (upI_off z1).trans (f1 q z1 z2)) (fun j j0 j1 j7 j10 j11 => (upn (by omega)).trans (f2 j j7 j10 j11)) (fun j hj => (upn (by omega)).trans (f3 j hj)) ((upn (by omega)).trans g11) ((upn (by omega)).trans g10) gan hn ((upn (by omega)).trans g7) gle (by rw [upI_off (by omega)]; exact gC) (by rw [upn (by omega), if_neg (by rw [z]; decide)]; exact f2 0 (by decide) (by decide) (by decide)) (by rw [up0, if_pos z])
      · have t01 : (hdA X n a).2.2 = 0 ∨ (hdA X n a).2.2 = 1 := by
          rcases hd_w (X := X) (n := n) (a := a) with z | z | z | z
          · exact Or.inl z
          · exact Or.inr z
          · rw [z] at q3; exact absurd (by decide) q3
          · rw [z] at q3; exact absurd (by decide) q3
        have e2 : rc2 p J = eiF p (paF p 4) (ndW p 32 (rc1 p J)) := by
          unfold rc2
          rw [hv, if_pos (by rcases t01 with z | z <;> rw [z] <;> decide)]
        by_cases q4 : nxA X n (nuA X n (hdA X n a).2.1) = 32
        · rw [cl_E q1 q2 q3 q4]
          rcases eiF_sp hT0 (pa_sp hT0 4) (B := []) (Or.inl rfl) rfl (by omega) (hC2.nd_y hT0 (by decide) q4) with ⟨a1, nw, g1, l1, l2, n38, n124, hA⟩ | ⟨a1, g1, hA⟩
          · obtain ⟨cr, wr, s1, s2⟩ := hA []
            rw [List.nil_append] at g1 s1
            have eA : amR X n 101 true (nuA X n (hdA X n a).2.1 + 1) [] [] = (true, a1, nw) := by
              show AM X n true (nuA X n (hdA X n a).2.1 + 1) [] [] = _
              rw [s2, AM_e (by rintro (z | z); exact n38 z; exact n124 z) (by rw [s1]), s1]
            rw [eA]
            refine ⟨fun _ => ?_, fun z => absurd rfl z⟩
            show DJ p n I (rcW p J) a1 (l ++ [((hdA X n a).2.2, nvA X n (hdA X n a).2.1, nw)])
            obtain ⟨⟨f1, f2, f3⟩, g11, g10, gan, g7, gle, gC⟩ := g1
            unfold rcW
            rw [hv, hN, e2]
            exact h.cl hl f1 (fun j j0 j1 j7 j10 j11 => f2 j j7 j10 j11) f3 g11 g10 gan hn g7 gle gC (by rw [if_neg (by rcases t01 with z | z <;> rw [z] <;> decide)]; exact f2 0 (by decide) (by decide) (by decide)) (by rw [if_neg (by rcases t01 with z | z <;> rw [z] <;> decide)]; exact f2 1 (by decide) (by decide) (by decide))
          · obtain ⟨z, s2⟩ := hA []
            have eA : amR X n 101 true (nuA X n (hdA X n a).2.1 + 1) [] [] = (false, a1, z) := s2
            rw [eA]
            refine ⟨fun z => absurd z Bool.false_ne_true, fun _ => bad2 a1 ?_⟩
            rw [e2]
            exact FJ.g h.1 g1
        · rw [cl_s q1 q2 q3 q4]
          refine ⟨fun z => absurd z Bool.false_ne_true, fun _ => bad2 _ ?_⟩
          rw [e2]
          exact FJ.g h.1 (FJ.eF (FJ.pa 4 (hC2.nd_n hT0 q4)))
    · rw [cl_n q1 q2]
      exact ⟨fun z => absurd z Bool.false_ne_true, fun _ => bad _ (hC1.nu_n hT0 q2)⟩
  · rw [cl_h q1]
    exact ⟨fun z => absurd z Bool.false_ne_true, fun _ => bad _ ((w2 q1).nu)⟩
theorem DJ.inc {p n a : Nat} {I J : It} {l : List Cl} (h : DJ p n I J a l) (ha : a < n) : DJ p n I (incW p J) (a + 1) l := by
  obtain ⟨d1, ⟨d2, d3, d4⟩, ⟨d5, d6⟩, d7, d8, d9, d10⟩ := h
  unfold incW
  refine ⟨d1.u (by decide), ⟨(upn (by omega)).trans d2, by rw [up0, d3]; exact nI_1 a, ha⟩, ⟨(upn (by omega)).trans d5, by omega⟩, (upn (by omega)).trans d7, CTc_mv2 d8 (fun j _ _ => ?_) (fun j _ _ => ?_), (upn (by omega)).trans d9, (upn (by omega)).trans d10⟩
  · rw [upI_off (by omega), upI_off (by omega), upI_off (by omega)]; exact ⟨rfl, rfl, rfl⟩
  · rw [upI_off (by omega)]
/-- the text is read -/
theorem rf_sp {p n : Nat} {X : Nat → Int32} {I : It} (hT : TT p n X I) : ∀ (f : Nat) (J : It) (a : Nat) (l : List Cl), DJ p n I J a l → l.length + (f + 1) = 10 →
    ((gtA X n (f + 1) a l).1 = true → DJ p n I (rfR p f (l.length + 1) (rcW p J)) n (gtA X n (f + 1) a l).2.2) ∧
    (¬ (gtA X n (f + 1) a l).1 = true → GJ p I (rfR p f (l.length + 1) (rcW p J)) (gtA X n (f + 1) a l).2.1 ∨ ∃ l', DJ p n I (rfR p f (l.length + 1) (rcW p J)) (gtA X n (f + 1) a l).2.1 l' ∧ (gtA X n (f + 1) a l).2.1 ≠ n) := by
  intro f
  induction f with
  | zero =>
    intro J a l h hl
    obtain ⟨r1, r2⟩ := rc_sp hT h (by omega)
    show (_ → DJ p n I (rcW p J) n _) ∧ (_ → GJ p I (rcW p J) _ ∨ ∃ l', DJ p n I (rcW p J) _ l' ∧ _)
    by_cases c : (clA X n a).1 = true
    · by_cases e : (clA X n a).2.1 = n
      · rw [gt_e c e]
        refine ⟨fun _ => ?_, fun z => absurd rfl z⟩
        have := r1 c
        rw [e] at this
        exact this
      · rw [gt_10 c e (by omega)]
        exact ⟨fun z => absurd z Bool.false_ne_true, fun _ => Or.inr ⟨_, r1 c, e⟩⟩
    · rw [gt_f c]
      exact ⟨fun z => absurd z Bool.false_ne_true, fun _ => Or.inl (r2 c)⟩
  | succ f ih =>
    intro J a l h hl
    obtain ⟨r1, r2⟩ := rc_sp hT h (by omega)
    by_cases c : (clA X n a).1 = true
    · have d := r1 c
      by_cases e : (clA X n a).2.1 = n
      · rw [gt_e c e, d.stop hT (by rw [e]; unfold nxA; rw [if_neg (Nat.lt_irrefl n)]; decide) _ _ (by omega)]
        refine ⟨fun _ => ?_, fun z => absurd rfl z⟩
        rw [e] at d
        exact d
      · by_cases e59 : nxA X n (clA X n a).2.1 = 59
        · have hlt : (clA X n a).2.1 < n := nxA_no (by decide) e59
          have hT0 := hT.q d.1
          rw [gt_s c e (by omega) e59, rfR_s, if_neg (by omega), if_pos (by rw [d.c.here hT0]; exact e59), d.c.tk_y hT0 e59]
          have := ih (incW p (rcW p J)) ((clA X n a).2.1 + 1) (l ++ [(clA X n a).2.2]) (d.inc hlt) (by rw [List.length_append, List.length_cons, List.length_nil]; omega)
          rw [show (l ++ [(clA X n a).2.2]).length = l.length + 1 by rw [List.length_append]; rfl] at this
          exact this
        · rw [gt_x c e (by omega) e59, d.stop hT e59 _ _ (by omega)]
          exact ⟨fun z => absurd z Bool.false_ne_true, fun _ => Or.inr ⟨_, d, e⟩⟩
    · rw [gt_f c, (r2 c).rf _ _ (by omega)]
      exact ⟨fun z => absurd z Bool.false_ne_true, fun _ => Or.inl (r2 c)⟩
theorem rf0_D {p n : Nat} {X : Nat → Int32} {I : It} (hp : p < 6) (hn : n ≤ 100) (hX : ∀ j, j < n → I 31 j = X j) : TT p n X (rf0 p (nI n) I) ∧ DJ p n (rf0 p (nI n) I) (rf0 p (nI n) I) 0 [] := by
  have e9 : rf0 p (nI n) I (43 + 5 * p) 9 = nI n := by
    unfold rf0
    rw [upn (by omega), upn (by omega), upn (by omega), upn (by omega), upn (by omega), upn (by omega), up0]
    rw [if_neg (show ¬ (100 : Int32) < nI n from fun z => absurd (lt_nI (c := 100) (by decide) (by omega) z) (by omega))]
  have e31 : rf0 p (nI n) I 31 = I 31 := by
    unfold rf0
    rw [upI_off (by omega), upI_off (by omega), upI_off (by omega), upI_off (by omega), upI_off (by omega), upI_off (by omega), upI_off (by omega)]
  refine ⟨⟨hp, hn, e9, fun j hj => by rw [e31]; exact hX j hj⟩, FQ.rf, ⟨?_, ?_, Nat.zero_le _⟩, ⟨?_, Nat.le_refl _⟩, ?_, trivial, ?_, ?_⟩
  · unfold rf0
    rw [upn (by omega), upn (by omega), upn (by omega), upn (by omega), up0]
  · unfold rf0
    rw [upn (by omega), upn (by omega), upn (by omega), upn (by omega), upn (by omega), up0]; rfl
  · unfold rf0
    rw [upn (by omega), upn (by omega), up0]; rfl
  · unfold rf0
    rw [upn (by omega), upn (by omega), upn (by omega), up0]; rfl
  · unfold rf0
    rw [upn (by omega), up0]; rfl
  · unfold rf0
    rw [up0]; rfl
/-- what readFrom answers, what it leaves -/
theorem rd_sp {p n : Nat} {X : Nat → Int32} {I : It} (hp : p < 6) (hn : n ≤ 100) (hX : ∀ j, j < n → I 31 j = X j) :
    ((gtA X n 10 0 []).1 = true → rfV p (rfW p (nI n) I) = -1 ∧ rfW p (nI n) I (43 + 5 * p) 2 = nI (gtA X n 10 0 []).2.2.length ∧ CTc (rfW p (nI n) I) p (gtA X n 10 0 []).2.2 0 0 ∧ rfW p (nI n) I (43 + 5 * p) 0 = lstL 2 (gtA X n 10 0 []).2.2 7 ∧ rfW p (nI n) I (43 + 5 * p) 1 = lstL 3 (gtA X n 10 0 []).2.2 1) ∧
    (¬ (gtA X n 10 0 []).1 = true → rfV p (rfW p (nI n) I) = nI (gtA X n 10 0 []).2.1) := by
  obtain ⟨hT, hD⟩ := rf0_D hp hn hX
  have eW : rfW p (nI n) I = rfR p 9 (([] : List Cl).length + 1) (rcW p (rf0 p (nI n) I)) := by
    unfold rfW
    rw [rfR_s, if_pos rfl]; rfl
  obtain ⟨s1, s2⟩ := rf_sp hT 9 _ 0 [] hD rfl
  rw [← eW] at s1 s2
  refine ⟨fun z => ?_, fun z => ?_⟩
  · obtain ⟨d1, ⟨d2, d3, d4⟩, -, d7, d8, d9, d10⟩ := s1 z
    refine ⟨?_, d7, d8, d9, d10⟩
    unfold rfV
    rw [if_neg (not_not_intro d2), if_pos (d3.trans ((d1.2 9 (by decide)).trans hT.2.2.1).symm)]
  · rcases s2 z with g | ⟨l', d, e⟩
    · unfold rfV
      rw [if_pos g.2.1]; exact g.2.2
    · obtain ⟨d1, ⟨d2, d3, d4⟩, -⟩ := d
      unfold rfV
      rw [if_neg (not_not_intro d2), if_neg, d3]
      rw [d3, (d1.2 9 (by decide)).trans hT.2.2.1]
      intro q
      exact e ((nI_eq (by omega) (by omega)).mp q)
/-! a post, by RZ -/
theorem RX.post_f {E I J : It} {h : Ht} (hX : RX E I h) (h6 : nP E ≤ 6) {p : Nat} (ep : nP E = p) (hK : ∀ a, (a < 43 + 5 * p ∨ 47 + 5 * p < a) → J a = I a) (hp : p < 6) : RX (upI E 0 17 0) (upI J 0 7 0) h := by
  obtain ⟨g1, g2, g3, ⟨g4, g5⟩, g6, g7⟩ := hX
  have n2 : nP (upI E 0 17 0) = nP E := rfl
  refine ⟨?_, fun z => ?_, ?_, ⟨?_, fun q hq => ?_⟩, by rw [up0, up0], fun j hj => ?_⟩
  · rw [upI_off (by decide), hK 1 (by omega), upn (by decide), upn (by decide), upn (by decide), upn (by decide)]; exact g1
  · rw [upn (by decide)] at z
    rw [upI_off (by decide), hK 7 (by omega), upn (by decide), upn (by decide), upn (by decide), upn (by decide), upn (by decide)]
    exact ⟨(g2 z).1, (g2 z).2.mv n2⟩
  · rw [upn (by decide)]; exact g3.mv n2
  · rw [upn (by decide), hK 0 (by omega), upn (by decide)]; exact g4
  · rw [n2] at hq
    obtain ⟨l, hl⟩ := g5 q hq
    exact ⟨l, hl.mv (by rw [upI_off (by decide)]) (fun c _ => by rw [upI_off (by decide), upI_off (by decide), upI_off (by decide), upI_off (by decide)]; exact ⟨rfl, rfl, rfl, rfl⟩) (fun j _ => by rw [upI_off (by decide)]) (fun a a1 a2 => by rw [upI_off (by omega)]; exact hK a (by omega))⟩
  · exact absurd hj (by unfold fedN; rw [up0]; exact Nat.not_lt_zero j)
theorem pRf.up {E E2 : It} {x : Int32} {r : Option Nat} (h : pRf E x r) (e : nP E ≤ nP E2) : pRf E2 x r := by
  rcases h with z | ⟨p, q1, q2⟩
  · exact Or.inl z
  · exact Or.inr ⟨p, by omega, q2⟩
theorem RX.post_t {E E2 I J : It} {h : Ht} (hX : RX E I h) {p : Nat} (ep : nP E = p) (hp : p < 6) {l : List Cl} (hN : PN E E2 l) (hok : ∀ x, x ∈ l → okC2 x) (hl : l.length ≤ 10) (hK : ∀ a, (a < 43 + 5 * p ∨ 47 + 5 * p < a) → J a = I a)
    (r2 : J (43 + 5 * p) 2 = nI l.length) (rC : CTc J p l 0 0) (r0 : J (43 + 5 * p) 0 = lstL 2 l 7) (r1 : J (43 + 5 * p) 1 = lstL 3 l 1) : RX E2 (upI (upI J 0 7 0) 0 5 (nI (p + 1))) (wR h 1 13 (some (43 + 5 * p))) := by
  obtain ⟨g1, g2, g3, ⟨g4, g5⟩, g6, g7⟩ := hX
  obtain ⟨⟨m15, m16, m17⟩, m0, mc, m10, m11, m15r, mL, mS, mt⟩ := hN
  rw [ep] at m15 m16 m10 m11 m15r mL mS
  have n2 : nP E2 = p + 1 := by unfold nP; rw [m15, tN_nI (by omega)]
  have kO : ∀ a, a ≠ 0 → upI (upI J 0 7 0) 0 5 (nI (p + 1)) a = J a := fun a ha => (upI_off ha).trans (upI_off ha)
  refine ⟨?_, fun z => ?_, ?_, ⟨?_, fun q hq => ?_⟩, ?_, fun j hj => ?_⟩
  · rw [kO 1 (by decide), hK 1 (by omega), m0 5 (by decide), m0 2 (by decide), m0 3 (by decide), m0 4 (by decide)]; exact g1
  · rw [m0 47 (by decide)] at z
    rw [kO 7 (by decide), hK 7 (by omega), m0 54 (by decide), m0 51 (by decide), m0 52 (by decide), m0 53 (by decide), m0 48 (by decide), wR_n (by decide)]
    exact ⟨(g2 z).1, (g2 z).2.up (by omega)⟩
  · rw [m16, wR_s]
    exact Or.inr ⟨p, by omega, rfl, rfl⟩
  · rw [up0, m15]
  · rw [n2] at hq
    by_cases e : q = p
    · subst e
      exact ⟨l, ⟨mL, mS⟩, hok, ⟨hl, mt⟩, rC.mv (fun a a1 a2 => kO a (by omega)), by rw [kO _ (by omega)]; exact r2, by rw [kO _ (by omega)]; exact r0, by rw [kO _ (by omega)]; exact r1⟩
    · obtain ⟨l', hl'⟩ := g5 q (by omega)
      exact ⟨l', hl'.mv (m10 q (by omega)) (fun c hc => m11 c (by omega)) (fun j hj => m15r j (by omega)) (fun a a1 a2 => (kO a (by omega)).trans (hK a (by omega)))⟩
  · rw [upn (by decide), up0, m17]
  · exact absurd hj (by unfold fedN; rw [m17]; exact Nat.not_lt_zero j)
theorem cl_31 {X : Nat → Int32} {n a : Nat} (ha : a ≤ n) : (clA X n a).2.1 ≤ n := by
  have h1 := (hdA_le (X := X) ha).2
  by_cases q1 : (hdA X n a).1 = true
  · by_cases q2 : dgA X n (hdA X n a).2.1
    · have h2 := nuA_le (X := X) h1
      by_cases q3 : 1 < (hdA X n a).2.2
      · rw [cl_w q1 q2 q3]; exact h2
      · by_cases q4 : nxA X n (nuA X n (hdA X n a).2.1) = 32
        · rw [cl_E q1 q2 q3 q4]
          exact (am_le 101 true _ [] [] (nxA_no (by decide) q4)).2
        · rw [cl_s q1 q2 q3 q4]; exact h2
    · rw [cl_n q1 q2]; exact h1
  · rw [cl_h q1]; exact h1
theorem gt_31' {X : Nat → Int32} {n : Nat} : ∀ (f a : Nat) (l : List Cl), a ≤ n → (gtA X n f a l).2.1 ≤ n := by
  intro f
  induction f with
  | zero => intro a l h; exact h
  | succ f ih =>
    intro a l h
    have h1 := cl_31 (X := X) h
    by_cases c : (clA X n a).1 = true
    · by_cases e : (clA X n a).2.1 = n
      · rw [gt_e c e]; exact Nat.le_refl _
      · by_cases e10 : l.length + 1 = 10
        · rw [gt_10 c e e10]; exact h1
        · by_cases e59 : nxA X n (clA X n a).2.1 = 59
          · rw [gt_s c e e10 e59]; exact ih _ _ (nxA_no (by decide) e59)
          · rw [gt_x c e e10 e59]; exact h1
    · rw [gt_f c]; exact h1
theorem gt_31 {X : Nat → Int32} {n f : Nat} {l : List Cl} (hn : n ≤ 100) : (gtA X n f 0 l).2.1 < 2 ^ 31 := by
  have := gt_31' (X := X) f 0 l (Nat.zero_le n)
  omega
end
section
theorem e_readFrom {G : Gt} (hG : Gok G) {I : It} {h : Ht} (hH : HX h) {p : Nat} (hp : p < 6) {n : Nat} (hn : n ≤ 100) {X : Nat → Int32} (hX : ∀ j, j < n → I 31 j = X j) (hPO : PO I h) : Con G 15 0 0 mX3_readFrom [.ref (43 + 5 * p), .int (nI n)] I h (qI fun v J h2 => h2 = h ∧ KP p I J ∧
    ((gtA X n 10 0 []).1 = true → v = -1 ∧ J (43 + 5 * p) 2 = nI (gtA X n 10 0 []).2.2.length ∧ CTc J p (gtA X n 10 0 []).2.2 0 0 ∧ J (43 + 5 * p) 0 = lstL 2 (gtA X n 10 0 []).2.2 7 ∧ J (43 + 5 * p) 1 = lstL 3 (gtA X n 10 0 []).2.2 1) ∧
    (¬ (gtA X n 10 0 []).1 = true → v = nI (gtA X n 10 0 []).2.1)) :=
  (c_X3_readFrom hG hH hp (s := nI n) hPO).imp fun r I' h' hq => by
    obtain ⟨e1, e2, e3⟩ := hq
    have hK : KP p I I' := by rw [e2]; exact KP.rf 10 (KP.rfZ (fun _ _ => rfl) (fun k hk => (hPO.2 p hp).2 k hk))
    have q := rd_sp hp hn hX
    generalize rfW p (nI n) I = W at e1 e2 q
    subst e2
    exact ⟨_, e1, e3, hK, q⟩
theorem po_6 {E : It} (hE : Inv E) : E 0 15 = nI (nP E) ∧ nP E ≤ 6 := hE.2.2.1
theorem po_t {E : It} (hE : Inv E) : ∃ n, n ≤ 100 ∧ E 0 17 = nI n ∧ fedN E = n := by
  obtain ⟨f, hf, e, -⟩ := hE.2.2.2.2.1
  exact ⟨f, hf, e, by unfold fedN; rw [e, tN_nI (by omega)]⟩
theorem gt_le {X : Nat → Int32} {n : Nat} (h : (gtA X n 10 0 []).1 = true) : (gtA X n 10 0 []).2.2.length ≤ 10 := (gt_ok 10 0 [] rfl (fun _ z => absurd z List.not_mem_nil) h).2.2
def qPZ (E : It) (L : Nat → Int64) (N : Nat) : Pt3 := qI fun x I' h' => (∀ E2 v, PoS E E2 v → x = v ∧ RZ E2 L I' h') ∧ hn h' ≤ N
set_option maxRecDepth 8000 in
set_option maxHeartbeats 4000000 in
theorem zx_post {G : Gt} (hG : Gok G) {I : It} {h : Ht}  {E : It} {L : Nat → Int64} (hE : Inv E) (hZ : RZ E L I h)  : Con G (16) 0 0 mX11_post [.ref 0] I h (qPZ E L (hn h)) := by
  refine con_intro (own := RX11) (lo0 := [some (.ref 0), none, none]) hG rfl pl_X11 (Nat.le_of_ble_eq_true rfl) rfl (fun X hX => ?_)
  have hY := hZ.1
  have hW := hY.wx hE
  have hH := hW.1
  have hc10 := hW.2.1.2
  have hcE := (inv_cnt hE).2
  obtain ⟨e15, hp6⟩ := po_6 hE
  obtain ⟨n, hn100, e17, hfn⟩ := po_t hE
  obtain ⟨p, hpe⟩ : ∃ p, nP E = p := ⟨_, rfl⟩
  rw [hpe] at e15 hp6
  have ep : I 0 5 = nI p := hZ.2.2.2.2.1.1.trans e15
  have esg : I 0 7 = nI n := hZ.2.2.2.2.2.1.trans e17
  have hTX : ∀ j, j < n → I 31 j = E 9 j := fun j hj => hZ.2.2.2.2.2.2 j (by rw [hfn]; exact hj)
  refine g_aload_0 hX (dk DX11_post 0 rfl) ?_
  refine g_getIv hX (dk DX11_post 1 rfl) KX11 fX11_145 (by decide) rfl (CLt hH (q := 0) (by decide)) (CC hH 0 (by decide) rfl) (ep) ?_
  refine g_aload_0 hX (dk DX11_post 2 rfl) ?_
  refine g_getRs (r := 30) hX (dk DX11_post 3 rfl) KX11 fX11_32 (by decide) rfl (CLt hH (q := 0) (by decide)) (CC hH 0 (by decide) rfl) (CR hH 0 4 30 (by decide)) ?_
  refine g_alen (v := 6) hX (dk DX11_post 4 rfl) (CLt hH (q := 30) (by decide)) (CS hH 30 (by decide) rfl) (by decide) (i0 := 5) rfl (by decide) ?_
  refine g_icmp_lt (tgt := 15) hX (dk DX11_post 5 rfl) (by decide) (fun hc1 => ?_) (fun hc1 => ?_)
  · have hp : p < 6 := lt_nI (b := 6) (by omega) (by decide) hc1
    refine g_aload_0 hX (dk DX11_post 8 rfl) ?_
    refine g_getRs (r := 30) hX (dk DX11_post 9 rfl) KX11 fX11_32 (by decide) rfl (CLt hH (q := 0) (by decide)) (CC hH 0 (by decide) rfl) (CR hH 0 4 30 (by decide)) ?_
    refine g_aload_0 hX (dk DX11_post 10 rfl) ?_
    refine g_getIv hX (dk DX11_post 11 rfl) KX11 fX11_145 (by decide) rfl (CLt hH (q := 0) (by decide)) (CC hH 0 (by decide) rfl) (ep) ?_
    refine i_aaload (i0 := 5) hX (dk DX11_post 12 rfl) (CLt hH (q := 30) (by decide)) (CS hH 30 (by decide) rfl) (by decide) rfl rfl (⟨rfl, hp, by decide⟩) (PSr hH hp) ?_
    refine g_astore_1 hX (dk DX11_post 13 rfl) (by decide) rfl ?_
    refine g_aload_1 hX (dk DX11_post 14 rfl) ?_
    refine g_aload_0 hX (dk DX11_post 15 rfl) ?_
    refine g_getIv hX (dk DX11_post 16 rfl) KX11 fX11_142 (by decide) rfl (CLt hH (q := 0) (by decide)) (CC hH 0 (by decide) rfl) (esg) ?_
    refine g_c2q hX sX11_post_30 (by decide) (Nat.le_of_ble_eq_true rfl) (rc0 rfl (PL0 hH hp) (PSh hH hp)) (by decide) (by decide) (e_readFrom hG hH hp hn100 hTX hY.2.2.2.2.1.1) ?_
    rintro x J h9 ⟨e9, hK, hT1, hT0⟩
    subst e9
    have hY2 := hY.kp hp hK
    have hKf : ∀ a, (a < 43 + 5 * p ∨ 47 + 5 * p < a) → J a = I a := hK.1
    have ePo : poR E = gtA (E 9) n 10 0 [] := by unfold poR; rw [hfn]
    refine g_istore_2 hX (dk DX11_post 18 rfl) (by decide) rfl ?_
    refine g_aload_0 hX (dk DX11_post 19 rfl) ?_
    refine g_iconst (v := 0) hX (dk DX11_post 20 rfl) (by decide) ?_
    refine g_putI hX (dk DX11_post 21 rfl) KX11 fX11_142 (by decide) rfl (CLt hH (q := 0) (by decide)) (CC hH 0 (by decide) rfl) (Or.inl rfl) (rfl) (rfl) ?_
    refine g_iload_2 hX (dk DX11_post 22 rfl) ?_
    refine g_if_lt (tgt := 48) hX (dk DX11_post 23 rfl) (by decide) (fun hc2 => ?_) (fun hc2 => ?_)
    · have hlt := hc2
      refine g_aload_0 hX (dk DX11_post 28 rfl) ?_
      refine g_getRs (r := 1) hX (dk DX11_post 29 rfl) KX11 fX11_12 (by decide) rfl (CLt hH (q := 0) (by decide)) (CC hH 0 (by decide) rfl) (CR hH 0 0 1 (by decide)) ?_
      refine g_aload_1 hX (dk DX11_post 30 rfl) ?_
      refine g_putR (r := some (43 + 5 * p)) hX (dk DX11_post 31 rfl) KX5 fX11_152 (by decide) rfl (CLt hH (q := 1) (by decide)) (CC hH 1 (by decide) rfl) (Or.inl rfl) rfl (rfl) (rfl) ?_
      refine g_aload_0 hX (dk DX11_post 32 rfl) ?_
      refine g_dup hX (dk DX11_post 33 rfl) rfl ?_
      refine g_getIv hX (dk DX11_post 34 rfl) KX11 fX11_145 (by decide) rfl (CLt hH (q := 0) (by decide)) (CC hH 0 (by decide) rfl) ((upn (by decide)).trans ((congrFun (hK.1 0 (by omega)) 5).trans ep)) ?_
      refine g_iconst (v := 1) hX (dk DX11_post 35 rfl) (by decide) ?_
      refine g_iadd hX (dk DX11_post 36 rfl) ?_
      refine g_nmI (nI (p + 1)) (nI_1 p) ?_
      refine g_putI hX (dk DX11_post 37 rfl) KX11 fX11_145 (by decide) rfl (CLt hH (q := 0) (by decide)) (CC hH 0 (by decide) rfl) (Or.inl rfl) (rfl) (rfl) ?_
      refine g_aload_0 hX (dk DX11_post 38 rfl) ?_
      refine g_getIv hX (dk DX11_post 39 rfl) KX11 fX11_145 (by decide) rfl (CLt hH (q := 0) (by decide)) (CC hH 0 (by decide) rfl) (up0 _ _ _ _) ?_
      refine g_iconst (v := 1) hX (dk DX11_post 40 rfl) (by decide) ?_
      refine g_isub hX (dk DX11_post 41 rfl) ?_
      refine g_nmI (nI p) (pk_sub (a := p + 1) (b := 1) (by omega)) ?_
      refine g_ireturn hX (dk DX11_post 42 rfl) rfl (rfl) (by decide) (by decide) ?_
      refine ⟨_, rfl, fun E2 v hP => ?_, Nat.le_refl _⟩
      have hP0 := hP
      rcases hP with ⟨z, -⟩ | ⟨-, z1, -, -⟩ | ⟨-, z1, rfl, hN⟩
      · exact absurd z (by omega)
      · rw [ePo] at z1
        exact absurd (show x < 0 from hlt) (by rw [hT0 (by rw [z1]; exact Bool.false_ne_true)]; exact nI_pos (gt_31 hn100))
      · rw [ePo] at z1 hN
        obtain ⟨-, w2, w3, w4, w5⟩ := hT1 z1
        refine ⟨by rw [hpe], (RY_ps (RY.u05 (s := p + 1) (RY.u07 (s := 0) hY2 (by decide)) (by omega)) hp).eE hP0.eE.1 hP0.eE.2, hZ.2.post_t hpe hp hN (gt_ok2 10 0 [] (fun _ z => absurd z List.not_mem_nil) z1) (gt_le z1) hKf w2 w3 w4 w5⟩
    · have hge := hc2
      refine g_bipush (v := -10) hX (dk DX11_post 24 rfl) (by decide) ?_
      refine g_iload_2 hX (dk DX11_post 25 rfl) ?_
      refine g_isub hX (dk DX11_post 26 rfl) ?_
      refine g_ireturn hX (dk DX11_post 27 rfl) rfl (rfl) (by decide) (by decide) ?_
      refine ⟨_, rfl, fun E2 v hP => ?_, Nat.le_refl _⟩
      rcases hP with ⟨z, -⟩ | ⟨-, z1, rfl, rfl⟩ | ⟨-, z1, -⟩
      · exact absurd z (by omega)
      · rw [ePo] at z1 ⊢
        exact ⟨by rw [hT0 (by rw [z1]; exact Bool.false_ne_true)], (RY.u07 (s := 0) hY2 (by decide)).f (by decide), hZ.2.post_f hZ.n6 hpe hKf hp⟩
      · rw [ePo] at z1
        exact absurd (show x < 0 by rw [(hT1 z1).1]; decide) hge
  · have h6 : ¬ p < 6 := fun z => hc1 (nI_lt (b := 6) z (by decide))
    refine g_bipush (v := -4) hX (dk DX11_post 6 rfl) (by decide) ?_
    refine g_ireturn hX (dk DX11_post 7 rfl) rfl (rfl) (by decide) (by decide) ?_
    refine ⟨_, rfl, fun E2 v hP => ?_, Nat.le_refl _⟩
    rcases hP with ⟨-, rfl, rfl⟩ | ⟨z, -⟩ | ⟨z, -⟩
    · exact ⟨rfl, hZ⟩
    · exact absurd z (by omega)
    · exact absurd z (by omega)
end
section
set_option maxRecDepth 8000 in
set_option maxHeartbeats 4000000 in
theorem zx_judge {G : Gt} (hG : Gok G) {I : It} {h : Ht}  {E : It} {L : Nat → Int64} (hE : Inv E) (hZ : RZ E L I h) {a e : Int32} : Con G (3) 0 0 mX11_judge [.ref 0, .int a, .int e] I h (qZ (judgeS E L a e) L (hn h)) := by
  refine con_intro (own := RX11) (lo0 := [some (.ref 0), some (.int a), some (.int e), none]) hG rfl pl_X11 (Nat.le_of_ble_eq_true rfl) rfl (fun X hX => ?_)
  have hY := hZ.1
  have hW := hY.wx hE
  have hH := hW.1
  have hc10 := hW.2.1.2
  have hcE := (inv_cnt hE).2
  have loop36 : ∀ t, t < 6 → judgeS E L a e = (jdR E L t e (cnt E) 0, E) → ∀ (k d : Nat), d + k = cnt E → jdR E L t e k d = jdR E L t e (cnt E) 0 → GG G (3) 0 0 X (qZ (judgeS E L a e) L (hn h)) 36 [some (.ref 0), some (.int (nI t)), some (.int e), some (.int (nI d))] [] (I) (h) 0 0 := by
    intro t ht hst k
    induction k using Nat.strongRecOn with | _ k ih => ?_
    intro d hk hv
    have hT := hY.2.2.2.2.2.2.1 t ht
    obtain ⟨l, hl, el, hz, -⟩ := tp_of hE ht
    refine g_iload_3 hX (dk DX11_judge_0 23 rfl) ?_
    refine g_aload_0 hX (dk DX11_judge_0 24 rfl) ?_
    refine g_getRs (r := 1) hX (dk DX11_judge_0 25 rfl) KX11 fX11_12 (by decide) rfl (CLt hH (q := 0) (by decide)) (CC hH 0 (by decide) rfl) (CR hH 0 0 1 (by decide)) ?_
    refine g_getIv hX (dk DX11_judge_0 26 rfl) KX5 fX11_72 (by decide) rfl (CLt hH (q := 1) (by decide)) (CC hH 1 (by decide) rfl) (hY.2.1.1.1.trans (inv_cnt hE).1) ?_
    refine g_icmp_ge (tgt := 102) hX (dk DX11_judge_0 27 rfl) (by decide) (fun hc1 => ?_) (fun hc1 => ?_)
    · refine g_bipush (v := -5) hX (dk DX11_judge_1 2 rfl) (by decide) ?_
      refine g_ireturn hX (dk DX11_judge_1 3 rfl) rfl (rfl) (by decide) (by decide) ?_
      have hk0 := cl_end hk (by omega) hc1
      subst hk0
      exact qZ_of (by rw [hst, ← hv]; rfl) hZ
    · obtain ⟨k, rfl⟩ := cl_go hk (by omega) hc1
      have hd10 : d ≤ 10 := by omega
      refine g_iload_2 hX (dk DX11_judge_0 28 rfl) ?_
      refine g_if_lt (tgt := 63) hX (dk DX11_judge_0 29 rfl) (by decide) (fun hc2 => ?_) (fun hc2 => ?_)
      · have hs1 := jd_1 (L := L) (k := k) el hl hd10 (by first | exact Or.inl hc2 | exact Or.inr hc2)
        refine g_bipush (v := 100) hX (dk DX11_judge_0 38 rfl) (by decide) ?_
        refine g_iload_3 hX (dk DX11_judge_0 39 rfl) ?_
        refine g_iadd hX (dk DX11_judge_0 40 rfl) ?_
        refine g_ireturn hX (dk DX11_judge_0 41 rfl) rfl (rfl) (by decide) (by decide) ?_
        exact qZ_of (by rw [hst, ← hv, hs1]) hZ
      · refine g_iload_2 hX (dk DX11_judge_0 30 rfl) ?_
        refine g_aload_0 hX (dk DX11_judge_0 31 rfl) ?_
        refine g_getRs (r := 35) hX (dk DX11_judge_0 32 rfl) KX11 fX11_51 (by decide) rfl (CLt hH (q := 0) (by decide)) (CC hH 0 (by decide) rfl) (CR hH 0 10 35 (by decide)) ?_
        refine g_iload_1 hX (dk DX11_judge_0 33 rfl) ?_
        refine v_iaload hX (dk DX11_judge_0 34 rfl) (CLt hH (q := 35) (by decide)) (CS hH 35 (by decide) rfl) (⟨rfl, ht, by decide⟩) (hT.2.1.trans el) ?_
        refine g_iload_3 hX (dk DX11_judge_0 35 rfl) ?_
        refine g_isub hX (dk DX11_judge_0 36 rfl) ?_
        refine g_icmp_lt (tgt := 68) hX (dk DX11_judge_0 37 rfl) (by decide) (fun hc3 => ?_) (fun hc3 => ?_)
        · have hlt9 := hc3
          obtain ⟨q, eq, hqd⟩ := jd_ix (by assumption) hc3 hl (by omega)
          have hs2 := jd_2 (L := L) (k := k) el hl hd10 hz eq hqd hlt9
          refine g_aload_0 hX (dk DX11_judge_0 42 rfl) ?_
          refine g_getRs (r := 36) hX (dk DX11_judge_0 43 rfl) KX11 fX11_56 (by decide) rfl (CLt hH (q := 0) (by decide)) (CC hH 0 (by decide) rfl) (CR hH 0 11 36 (by decide)) ?_
          refine g_iload_1 hX (dk DX11_judge_0 44 rfl) ?_
          refine i_aaload (i0 := 7) hX (dk DX11_judge_0 45 rfl) (CLt hH (q := 36) (by decide)) (CS hH 36 (by decide) rfl) (by decide) rfl rfl (⟨rfl, ht, by decide⟩) (IT_r hH ht) ?_
          refine g_iload_2 hX (dk DX11_judge_0 46 rfl) ?_
          refine g_iload_3 hX (dk DX11_judge_0 47 rfl) ?_
          refine g_iadd hX (dk DX11_judge_0 48 rfl) ?_
          refine g_nmI (nI (q + d)) (by rw [eq]; exact nI_add _ _) ?_
          refine v_laload hX (dk DX11_judge_0 49 rfl) (IT_lt hH ht) (IT_sh hH ht) (⟨rfl, hqd, by decide⟩) (hT.2.2 (q + d) hqd) ?_
          refine g_aload_0 hX (dk DX11_judge_0 50 rfl) ?_
          refine g_getRs (r := 1) hX (dk DX11_judge_0 51 rfl) KX11 fX11_12 (by decide) rfl (CLt hH (q := 0) (by decide)) (CC hH 0 (by decide) rfl) (CR hH 0 0 1 (by decide)) ?_
          refine g_getIv hX (dk DX11_judge_0 52 rfl) KX5 fX11_116 (by decide) rfl (CLt hH (q := 1) (by decide)) (CC hH 1 (by decide) rfl) (hZ.2.1.1) ?_
          refine g_iload_3 hX (dk DX11_judge_0 53 rfl) ?_
          refine g_c2I hX sX11_judge_86 (by decide) (Nat.le_of_ble_eq_true rfl) rcN (by decide) (by decide) (c_X11_bit hG ) ?_
          refine g_i2l hX (dk DX11_judge_0 55 rfl) ?_
          refine g_lcmp hX (dk DX11_judge_0 56 rfl) ?_
          refine g_if_eq (tgt := 96) hX (dk DX11_judge_0 57 rfl) (by decide) (fun hc4 => ?_) (fun hc4 => ?_)
          · refine g_iinc_3 hX (dk DX11_judge_1 0 rfl) (nI_1 d) (by decide) rfl ?_
            refine g_goto (tgt := 36) hX (dk DX11_judge_1 1 rfl) (by decide) ?_
            exact g_fgt (ih k (by omega) (d + 1) (by omega) (by rw [← hv, hs2, if_pos ((lg_eq _ _).mp (by first | assumption | exact Decidable.not_not.mp (by assumption)))])) ⟨rfl, rfl, rfl, rfl, trivial⟩
          · refine g_iload_3 hX (dk DX11_judge_0 58 rfl) ?_
            refine g_ireturn hX (dk DX11_judge_0 59 rfl) rfl (rfl) (by decide) (by decide) ?_
            exact qZ_of (by rw [hst, ← hv, hs2, if_neg (fun z => absurd ((lg_eq _ _).mpr z) (by assumption))]) hZ
        · have hs1 := jd_1 (L := L) (k := k) el hl hd10 (by first | exact Or.inl hc3 | exact Or.inr hc3)
          refine g_bipush (v := 100) hX (dk DX11_judge_0 38 rfl) (by decide) ?_
          refine g_iload_3 hX (dk DX11_judge_0 39 rfl) ?_
          refine g_iadd hX (dk DX11_judge_0 40 rfl) ?_
          refine g_ireturn hX (dk DX11_judge_0 41 rfl) rfl (rfl) (by decide) (by decide) ?_
          exact qZ_of (by rw [hst, ← hv, hs1]) hZ
  refine g_iload_1 hX (dk DX11_judge_0 0 rfl) ?_
  refine g_iconst (v := 0) hX (dk DX11_judge_0 1 rfl) (by decide) ?_
  refine g_iconst (v := 5) hX (dk DX11_judge_0 2 rfl) (by decide) ?_
  refine g_c3I hX sX11_judge_3 (by decide) (Nat.le_of_ble_eq_true rfl) rcN (by decide) (by decide) (c_X11_isNot hG ) ?_
  refine g_ifb_eq (tgt := 11) hX (dk DX11_judge_0 4 rfl) (by decide) (fun hc1 => ?_) (fun hc1 => ?_)
  · obtain ⟨t, ht5, rfl⟩ := in_of (b := 5) (by decide) (Decidable.not_not.mp hc1)
    have ht : t < 6 := by omega
    have hT := hY.2.2.2.2.2.2.1 t ht
    have ht31 : tN (nI t) = t := tN_nI (by omega)
    refine g_aload_0 hX (dk DX11_judge_0 7 rfl) ?_
    refine g_getRs (r := 34) hX (dk DX11_judge_0 8 rfl) KX11 fX11_47 (by decide) rfl (CLt hH (q := 0) (by decide)) (CC hH 0 (by decide) rfl) (CR hH 0 9 34 (by decide)) ?_
    refine g_iload_1 hX (dk DX11_judge_0 9 rfl) ?_
    refine v_iaload hX (dk DX11_judge_0 10 rfl) (CLt hH (q := 34) (by decide)) (CS hH 34 (by decide) rfl) (⟨rfl, ht, by decide⟩) (hT.1) ?_
    refine g_iconst (v := -1) hX (dk DX11_judge_0 11 rfl) (by decide) ?_
    refine g_icmp_eq (tgt := 34) hX (dk DX11_judge_0 12 rfl) (by decide) (fun hc2 => ?_) (fun hc2 => ?_)
    · refine g_iconst (v := 0) hX (dk DX11_judge_0 21 rfl) (by decide) ?_
      refine g_istore_3 hX (dk DX11_judge_0 22 rfl) (by decide) rfl ?_
      exact g_fgt (loop36 t ht (by unfold judgeS; rw [if_neg hc1, ht31]; first | rw [if_pos (jd_m (by first | assumption | exact Decidable.not_not.mp (by assumption)))] | (rw [if_neg (jd_0 hE ht (by assumption)), if_neg (not_not_intro (by first | assumption | exact Decidable.not_not.mp (by assumption)))])) (cnt E) 0 (Nat.zero_add _) rfl) ⟨rfl, rfl, rfl, rfl, trivial⟩
    · refine g_aload_0 hX (dk DX11_judge_0 13 rfl) ?_
      refine g_getRs (r := 34) hX (dk DX11_judge_0 14 rfl) KX11 fX11_47 (by decide) rfl (CLt hH (q := 0) (by decide)) (CC hH 0 (by decide) rfl) (CR hH 0 9 34 (by decide)) ?_
      refine g_iload_1 hX (dk DX11_judge_0 15 rfl) ?_
      refine v_iaload hX (dk DX11_judge_0 16 rfl) (CLt hH (q := 34) (by decide)) (CS hH 34 (by decide) rfl) (⟨rfl, ht, by decide⟩) (hT.1) ?_
      refine g_iconst (v := 4) hX (dk DX11_judge_0 17 rfl) (by decide) ?_
      refine g_icmp_eq (tgt := 34) hX (dk DX11_judge_0 18 rfl) (by decide) (fun hc3 => ?_) (fun hc3 => ?_)
      · refine g_iconst (v := 0) hX (dk DX11_judge_0 21 rfl) (by decide) ?_
        refine g_istore_3 hX (dk DX11_judge_0 22 rfl) (by decide) rfl ?_
        exact g_fgt (loop36 t ht (by unfold judgeS; rw [if_neg hc1, ht31]; first | rw [if_pos (jd_m (by first | assumption | exact Decidable.not_not.mp (by assumption)))] | (rw [if_neg (jd_0 hE ht (by assumption)), if_neg (not_not_intro (by first | assumption | exact Decidable.not_not.mp (by assumption)))])) (cnt E) 0 (Nat.zero_add _) rfl) ⟨rfl, rfl, rfl, rfl, trivial⟩
      · refine g_bipush (v := -12) hX (dk DX11_judge_0 19 rfl) (by decide) ?_
        refine g_ireturn hX (dk DX11_judge_0 20 rfl) rfl (rfl) (by decide) (by decide) ?_
        exact qZ_of (by unfold judgeS; rw [if_neg hc1, ht31, if_neg (jd_0 hE ht (by assumption)), if_pos (by assumption)]) hZ
  · refine g_iconst (v := -1) hX (dk DX11_judge_0 5 rfl) (by decide) ?_
    refine g_ireturn hX (dk DX11_judge_0 6 rfl) rfl (rfl) (by decide) (by decide) ?_
    exact qZ_of (by unfold judgeS; (try first | rw [if_pos hc1] | rw [if_neg hc1] | rw [if_neg (not_not_intro hc1)]); first | done | rfl) hZ
end
section
set_option maxRecDepth 8000 in
set_option maxHeartbeats 4000000 in
theorem zx_looked {G : Gt} (hG : Gok G) {I : It} {h : Ht}  {E : It} {L : Nat → Int64} (hE : Inv E) (hZ : RZ E L I h)  : Con G (8) 0 0 mX11_looked [.ref 0] I h (qWZ E L (hn h)) := by
  refine con_intro (own := RX11) (lo0 := [some (.ref 0)]) hG rfl pl_X11 (Nat.le_of_ble_eq_true rfl) rfl (fun X hX => ?_)
  have hY := hZ.1
  have hW := hY.wx hE
  have hH := hW.1
  have hc10 := hW.2.1.2
  have hcE := (inv_cnt hE).2
  refine g_aload_0 hX (dk DX11_looked 0 rfl) ?_
  refine g_getRs (r := 13) hX (dk DX11_looked 1 rfl) KX11 fX11_26 (by decide) rfl (CLt hH (q := 0) (by decide)) (CC hH 0 (by decide) rfl) (CR hH 0 3 13 (by decide)) ?_
  refine g_aload_0 hX (dk DX11_looked 2 rfl) ?_
  refine g_getRs (r := 1) hX (dk DX11_looked 3 rfl) KX11 fX11_12 (by decide) rfl (CLt hH (q := 0) (by decide)) (CC hH 0 (by decide) rfl) (CR hH 0 0 1 (by decide)) ?_
  refine g_c1q hX sX11_looked_8 (by decide) (Nat.le_of_ble_eq_true rfl) (rc0 rfl (CLt hH (by decide)) (CC hH 1 (by decide) rfl)) (by decide) (by decide) (c_X5_weeksToRows hG hW) ?_
  rintro _ _ _ ⟨rfl, rfl⟩
  refine g_c2v hX sX11_looked_11 (by decide) (Nat.le_of_ble_eq_true rfl) (rc0 rfl (CLt hH (by decide)) (CC hH 13 (by decide) rfl)) (by decide) (by decide) (w_X0_look hG hW) ?_
  rintro J _ ⟨hS, rfl, m, hm, hsp⟩
  have hW2 := hW.sc hS
  refine g_aload_0 hX (dk DX11_looked 6 rfl) ?_
  refine g_getRs (r := 13) hX (dk DX11_looked 7 rfl) KX11 fX11_26 (by decide) rfl (CLt hH (q := 0) (by decide)) (CC hH 0 (by decide) rfl) (CR hH 0 3 13 (by decide)) ?_
  refine g_aload_0 hX (dk DX11_looked 8 rfl) ?_
  refine g_getRs (r := 1) hX (dk DX11_looked 9 rfl) KX11 fX11_12 (by decide) rfl (CLt hH (q := 0) (by decide)) (CC hH 0 (by decide) rfl) (CR hH 0 0 1 (by decide)) ?_
  refine g_getI hX (dk DX11_looked 10 rfl) KX5 fX11_116 (by decide) rfl (CLt hH (q := 1) (by decide)) (CC hH 1 (by decide) rfl) ?_
  refine g_aload_0 hX (dk DX11_looked 11 rfl) ?_
  refine g_getRs (r := 1) hX (dk DX11_looked 12 rfl) KX11 fX11_12 (by decide) rfl (CLt hH (q := 0) (by decide)) (CC hH 0 (by decide) rfl) (CR hH 0 0 1 (by decide)) ?_
  refine g_getI hX (dk DX11_looked 13 rfl) KX5 fX11_109 (by decide) rfl (CLt hH (q := 1) (by decide)) (CC hH 1 (by decide) rfl) ?_
  refine g_c3q hX sX11_looked_32 (by decide) (Nat.le_of_ble_eq_true rfl) (rc0 rfl (CLt hH (by decide)) (CC hH 13 (by decide) rfl)) (by decide) (by decide) (w_X0_pass hG hW2 hm hsp) ?_
  rintro _ J2 _ ⟨hP2, rfl⟩
  have hS2 := hS.trans hP2.sc
  have hsp2 := hP2.2.trans hsp
  refine g_pop hX (dk DX11_looked 15 rfl) rfl ?_
  refine g_aload_0 hX (dk DX11_looked 16 rfl) ?_
  refine g_getRs (r := 13) hX (dk DX11_looked 17 rfl) KX11 fX11_26 (by decide) rfl (CLt hH (q := 0) (by decide)) (CC hH 0 (by decide) rfl) (CR hH 0 3 13 (by decide)) ?_
  refine g_c1q hX sX11_looked_40 (by decide) (Nat.le_of_ble_eq_true rfl) (rc0 rfl (CLt hH (by decide)) (CC hH 13 (by decide) rfl)) (by decide) (by decide) (w_X0_firstRowNotSo hG (hW.sc hS2) hm hsp2) ?_
  rintro _ _ _ ⟨rfl, rfl⟩
  refine g_ireturn hX (dk DX11_looked 19 rfl) rfl (rfl) (by decide) (by decide) ?_
  exact qWZ_of (hZ.sc hE hS2)

set_option maxRecDepth 8000 in
set_option maxHeartbeats 4000000 in
theorem zx_fits {G : Gt} (hG : Gok G) {I : It} {h : Ht}  {E : It} {L : Nat → Int64} (hE : Inv E) (hZ : RZ E L I h)  : Con G (8) 0 0 mX11_fits [.ref 0] I h (qWZ E L (hn h)) := by
  refine con_intro (own := RX11) (lo0 := [some (.ref 0), none, none]) hG rfl pl_X11 (Nat.le_of_ble_eq_true rfl) rfl (fun X hX => ?_)
  have hY := hZ.1
  have hW := hY.wx hE
  have hH := hW.1
  have hc10 := hW.2.1.2
  have hcE := (inv_cnt hE).2
  have loop33 : ∀ m, m ≤ 200 → cN I ≤ 8 → ∀ (k s : Nat) (f : Int32) (J : It), s + k = 2 ^ cN I → Sc I J → J 13 1 = nI m → GG G (8) 0 0 X (qWZ E L (hn h)) 33 [some (.ref 0), some (.int f), some (.int (nI s))] [] (J) (h) 0 0 := by
    intro m hm hc8 k
    induction k using Nat.strongRecOn with | _ k ih => ?_
    intro s f J hk hS hsp
    have h256 := p256 hc8
    have hWJ := hW.sc hS
    refine g_iload_2 hX (dk DX11_fits 17 rfl) ?_
    refine g_aload_0 hX (dk DX11_fits 18 rfl) ?_
    refine g_getRs (r := 1) hX (dk DX11_fits 19 rfl) KX11 fX11_12 (by decide) rfl (CLt hH (q := 0) (by decide)) (CC hH 0 (by decide) rfl) (CR hH 0 0 1 (by decide)) ?_
    refine g_c1I hX sX11_fits_38 (by decide) (Nat.le_of_ble_eq_true rfl) (rc0 rfl (CLt hH (by decide)) (CC hH 1 (by decide) rfl)) (by decide) (by decide) (c_X5_everyDoing hG hWJ) ?_
    refine g_nmI (nI (2 ^ cN I - 1)) (ev_e ((congrFun (hS 1 (by omega)) 2).trans hW.2.1.1) hc8) ?_
    refine g_icmp_gt (tgt := 81) hX (dk DX11_fits 21 rfl) (by decide) (fun hc1 => ?_) (fun hc1 => ?_)
    · refine g_iload_1 hX (dk DX11_fits 38 rfl) ?_
      refine g_ireturn hX (dk DX11_fits 39 rfl) rfl (rfl) (by decide) (by decide) ?_
      exact qWZ_of (hZ.sc hE hS)
    · have hlt := s_go hc8 (by omega) hc1
      obtain ⟨k, rfl⟩ : ∃ z, k = z + 1 := ⟨k - 1, by omega⟩
      refine g_aload_0 hX (dk DX11_fits 22 rfl) ?_
      refine g_getRs (r := 13) hX (dk DX11_fits 23 rfl) KX11 fX11_26 (by decide) rfl (CLt hH (q := 0) (by decide)) (CC hH 0 (by decide) rfl) (CR hH 0 3 13 (by decide)) ?_
      refine g_iload_2 hX (dk DX11_fits 24 rfl) ?_
      refine g_aload_0 hX (dk DX11_fits 25 rfl) ?_
      refine g_getRs (r := 1) hX (dk DX11_fits 26 rfl) KX11 fX11_12 (by decide) rfl (CLt hH (q := 0) (by decide)) (CC hH 0 (by decide) rfl) (CR hH 0 0 1 (by decide)) ?_
      refine g_getI hX (dk DX11_fits 27 rfl) KX5 fX11_109 (by decide) rfl (CLt hH (q := 1) (by decide)) (CC hH 1 (by decide) rfl) ?_
      refine g_c3q hX sX11_fits_56 (by decide) (Nat.le_of_ble_eq_true rfl) (rc0 rfl (CLt hH (by decide)) (CC hH 13 (by decide) rfl)) (by decide) (by decide) (w_X0_pass hG hWJ hm hsp) ?_
      rintro _ J2 _ ⟨hP2, rfl⟩
      refine g_pop hX (dk DX11_fits 29 rfl) rfl ?_
      refine g_aload_0 hX (dk DX11_fits 30 rfl) ?_
      refine g_getRs (r := 13) hX (dk DX11_fits 31 rfl) KX11 fX11_26 (by decide) rfl (CLt hH (q := 0) (by decide)) (CC hH 0 (by decide) rfl) (CR hH 0 3 13 (by decide)) ?_
      refine g_c1q hX sX11_fits_64 (by decide) (Nat.le_of_ble_eq_true rfl) (rc0 rfl (CLt hH (by decide)) (CC hH 13 (by decide) rfl)) (by decide) (by decide) (w_X0_firstRowNotSo hG (hWJ.sc hP2.sc) hm (hP2.2.trans hsp)) ?_
      rintro _ _ _ ⟨rfl, rfl⟩
      refine g_bipush (v := -5) hX (dk DX11_fits 33 rfl) (by decide) ?_
      refine g_icmp_ne (tgt := 75) hX (dk DX11_fits 34 rfl) (by decide) (fun hc2 => ?_) (fun hc2 => ?_)
      · refine g_iinc_2 hX (dk DX11_fits 36 rfl) (nI_1 s) (by decide) rfl ?_
        refine g_goto (tgt := 33) hX (dk DX11_fits 37 rfl) (by decide) ?_
        exact g_fgt (ih k (by omega) (s + 1) _ _ (by omega) (hS.trans hP2.sc) (hP2.2.trans hsp)) ⟨rfl, rfl, rfl, trivial⟩
      · refine g_iinc_1 hX (dk DX11_fits 35 rfl) (rfl) (by decide) rfl ?_
        refine g_iinc_2 hX (dk DX11_fits 36 rfl) (nI_1 s) (by decide) rfl ?_
        refine g_goto (tgt := 33) hX (dk DX11_fits 37 rfl) (by decide) ?_
        exact g_fgt (ih k (by omega) (s + 1) _ _ (by omega) (hS.trans hP2.sc) (hP2.2.trans hsp)) ⟨rfl, rfl, rfl, trivial⟩
  refine g_aload_0 hX (dk DX11_fits 0 rfl) ?_
  refine g_getRs (r := 1) hX (dk DX11_fits 1 rfl) KX11 fX11_12 (by decide) rfl (CLt hH (q := 0) (by decide)) (CC hH 0 (by decide) rfl) (CR hH 0 0 1 (by decide)) ?_
  refine g_getIv hX (dk DX11_fits 2 rfl) KX5 fX11_72 (by decide) rfl (CLt hH (q := 1) (by decide)) (CC hH 1 (by decide) rfl) (hW.2.1.1) ?_
  refine g_bipush (v := 8) hX (dk DX11_fits 3 rfl) (by decide) ?_
  refine g_icmp_le (tgt := 15) hX (dk DX11_fits 4 rfl) (by decide) (fun hc1 => ?_) (fun hc1 => ?_)
  · have hc8 : cN I ≤ 8 := (nI_leI (by omega) (by decide)).mp hc1
    refine g_aload_0 hX (dk DX11_fits 7 rfl) ?_
    refine g_getRs (r := 13) hX (dk DX11_fits 8 rfl) KX11 fX11_26 (by decide) rfl (CLt hH (q := 0) (by decide)) (CC hH 0 (by decide) rfl) (CR hH 0 3 13 (by decide)) ?_
    refine g_aload_0 hX (dk DX11_fits 9 rfl) ?_
    refine g_getRs (r := 1) hX (dk DX11_fits 10 rfl) KX11 fX11_12 (by decide) rfl (CLt hH (q := 0) (by decide)) (CC hH 0 (by decide) rfl) (CR hH 0 0 1 (by decide)) ?_
    refine g_c1q hX sX11_fits_23 (by decide) (Nat.le_of_ble_eq_true rfl) (rc0 rfl (CLt hH (by decide)) (CC hH 1 (by decide) rfl)) (by decide) (by decide) (c_X5_weeksToRows hG hW) ?_
    rintro _ _ _ ⟨rfl, rfl⟩
    refine g_c2v hX sX11_fits_26 (by decide) (Nat.le_of_ble_eq_true rfl) (rc0 rfl (CLt hH (by decide)) (CC hH 13 (by decide) rfl)) (by decide) (by decide) (w_X0_look hG hW) ?_
    rintro J _ ⟨hS, rfl, m, hm, hsp⟩
    have hW2 := hW.sc hS
    refine g_iconst (v := 0) hX (dk DX11_fits 13 rfl) (by decide) ?_
    refine g_istore_1 hX (dk DX11_fits 14 rfl) (by decide) rfl ?_
    refine g_iconst (v := 0) hX (dk DX11_fits 15 rfl) (by decide) ?_
    refine g_istore_2 hX (dk DX11_fits 16 rfl) (by decide) rfl ?_
    exact g_fgt (loop33 m hm hc8 _ 0 0 J (Nat.zero_add _) hS hsp) ⟨rfl, rfl, rfl, trivial⟩
  · refine g_bipush (v := -9) hX (dk DX11_fits 5 rfl) (by decide) ?_
    refine g_ireturn hX (dk DX11_fits 6 rfl) rfl (rfl) (by decide) (by decide) ?_
    exact qWZ_of hZ
end
section
set_option maxRecDepth 8000 in
set_option maxHeartbeats 4000000 in
theorem zx_go {G : Gt} (hG : Gok G) {I : It} {h : Ht}  {E : It} {L : Nat → Int64} (hE : Inv E) (hZ : RZ E L I h) {n : Int32} : Con G (8) 0 0 mX11_go [.ref 0, .int n] I h (qZ (goS E n) L (hn h)) := by
  refine con_intro (own := RX11) (lo0 := [some (.ref 0), some (.int n)]) hG rfl pl_X11 (Nat.le_of_ble_eq_true rfl) rfl (fun X hX => ?_)
  have hY := hZ.1
  have hW := hY.wx hE
  have hH := hW.1
  have hc10 := hW.2.1.2
  have hcE := (inv_cnt hE).2
  refine g_iload_1 hX (dk DX11_go_0 0 rfl) ?_
  refine g_iconst (v := 1) hX (dk DX11_go_0 1 rfl) (by decide) ?_
  refine g_bipush (v := 60) hX (dk DX11_go_0 2 rfl) (by decide) ?_
  refine g_c3I hX sX11_go_4 (by decide) (Nat.le_of_ble_eq_true rfl) rcN (by decide) (by decide) (c_X11_isNot hG ) ?_
  refine g_ifb_eq (tgt := 13) hX (dk DX11_go_0 4 rfl) (by decide) (fun hc1 => ?_) (fun hc1 => ?_)
  · obtain ⟨m, hm1, hm60, rfl⟩ := in1_of (c := 1) (b := 60) (by decide) (by decide) (Decidable.not_not.mp hc1)
    have hm2 : m ≤ 200 := by omega
    refine g_aload_0 hX (dk DX11_go_0 7 rfl) ?_
    refine g_getRs (r := 1) hX (dk DX11_go_0 8 rfl) KX11 fX11_12 (by decide) rfl (CLt hH (q := 0) (by decide)) (CC hH 0 (by decide) rfl) (CR hH 0 0 1 (by decide)) ?_
    refine g_getIv hX (dk DX11_go_0 9 rfl) KX5 fX11_122 (by decide) rfl (CLt hH (q := 1) (by decide)) (CC hH 1 (by decide) rfl) (hY.2.1.1.2.1) ?_
    refine g_iload_1 hX (dk DX11_go_0 10 rfl) ?_
    refine g_iadd hX (dk DX11_go_0 11 rfl) ?_
    refine g_sipush (v := 9999) hX (dk DX11_go_0 12 rfl) (by decide) ?_
    refine g_icmp_le (tgt := 31) hX (dk DX11_go_0 13 rfl) (by decide) (fun hc2 => ?_) (fun hc2 => ?_)
    · refine g_aload_0 hX (dk DX11_go_0 16 rfl) ?_
      refine g_getRs (r := 13) hX (dk DX11_go_0 17 rfl) KX11 fX11_26 (by decide) rfl (CLt hH (q := 0) (by decide)) (CC hH 0 (by decide) rfl) (CR hH 0 3 13 (by decide)) ?_
      refine g_iload_1 hX (dk DX11_go_0 18 rfl) ?_
      refine g_c2v hX sX11_go_36 (by decide) (Nat.le_of_ble_eq_true rfl) (rc0 rfl (CLt hH (by decide)) (CC hH 13 (by decide) rfl)) (by decide) (by decide) (e_look hG hE hZ hm2) ?_
      rintro J _ ⟨hS, hsp, hAH, rfl⟩
      have hZJ := hZ.sc hE hS
      have hWJ := hZJ.1.wx hE
      refine g_aload_0 hX (dk DX11_go_0 20 rfl) ?_
      refine g_getRs (r := 1) hX (dk DX11_go_0 21 rfl) KX11 fX11_12 (by decide) rfl (CLt hH (q := 0) (by decide)) (CC hH 0 (by decide) rfl) (CR hH 0 0 1 (by decide)) ?_
      refine g_dup hX (dk DX11_go_0 22 rfl) rfl ?_
      refine g_getIv hX (dk DX11_go_0 23 rfl) KX5 fX11_162 (by decide) rfl (CLt hH (q := 1) (by decide)) (CC hH 1 (by decide) rfl) (hZJ.2.1.2.1) ?_
      refine g_aload_0 hX (dk DX11_go_0 24 rfl) ?_
      refine g_getRs (r := 13) hX (dk DX11_go_0 25 rfl) KX11 fX11_26 (by decide) rfl (CLt hH (q := 0) (by decide)) (CC hH 0 (by decide) rfl) (CR hH 0 3 13 (by decide)) ?_
      refine g_aload_0 hX (dk DX11_go_0 26 rfl) ?_
      refine g_getRs (r := 1) hX (dk DX11_go_0 27 rfl) KX11 fX11_12 (by decide) rfl (CLt hH (q := 0) (by decide)) (CC hH 0 (by decide) rfl) (CR hH 0 0 1 (by decide)) ?_
      refine g_getIv hX (dk DX11_go_0 28 rfl) KX5 fX11_116 (by decide) rfl (CLt hH (q := 1) (by decide)) (CC hH 1 (by decide) rfl) (hZJ.2.1.1) ?_
      refine g_aload_0 hX (dk DX11_go_0 29 rfl) ?_
      refine g_getRs (r := 1) hX (dk DX11_go_0 30 rfl) KX11 fX11_12 (by decide) rfl (CLt hH (q := 0) (by decide)) (CC hH 0 (by decide) rfl) (CR hH 0 0 1 (by decide)) ?_
      refine g_getIv hX (dk DX11_go_0 31 rfl) KX5 fX11_109 (by decide) rfl (CLt hH (q := 1) (by decide)) (CC hH 1 (by decide) rfl) (hZJ.1.2.1.1.2.2.1) ?_
      refine g_c3q hX sX11_go_65 (by decide) (Nat.le_of_ble_eq_true rfl) (rc0 rfl (CLt hH (by decide)) (CC hH 13 (by decide) rfl)) (by decide) (by decide) (e_pass hG hE hZJ (inv_kn hE) (inv_id hE) hm2 hsp hAH) ?_
      rintro _ J2 h9 ⟨rfl, hT, hP2, e9⟩
      subst e9
      obtain ⟨k1, k2, k3, k4, k5, k6⟩ := hT.all
      have hS2 := hS.trans hP2.sc
      have hZ2 := hZ.sc hE hS2
      refine g_iadd hX (dk DX11_go_0 33 rfl) ?_
      refine g_putI hX (dk DX11_go_0 34 rfl) KX5 fX11_162 (by decide) rfl (CLt hH (q := 1) (by decide)) (CC hH 1 (by decide) rfl) (Or.inl rfl) (rfl) (rfl) ?_
      refine g_aload_0 hX (dk DX11_go_0 35 rfl) ?_
      refine g_getRs (r := 1) hX (dk DX11_go_0 36 rfl) KX11 fX11_12 (by decide) rfl (CLt hH (q := 0) (by decide)) (CC hH 0 (by decide) rfl) (CR hH 0 0 1 (by decide)) ?_
      refine g_dup hX (dk DX11_go_0 37 rfl) rfl ?_
      refine g_getIv hX (dk DX11_go_0 38 rfl) KX5 fX11_165 (by decide) rfl (CLt hH (q := 1) (by decide)) (CC hH 1 (by decide) rfl) ((show _ = E 0 3 from hZ2.2.1.2.2.1)) ?_
      refine g_aload_0 hX (dk DX11_go_0 39 rfl) ?_
      refine g_getRs (r := 13) hX (dk DX11_go_0 40 rfl) KX11 fX11_26 (by decide) rfl (CLt hH (q := 0) (by decide)) (CC hH 0 (by decide) rfl) (CR hH 0 3 13 (by decide)) ?_
      refine g_getIv hX (dk DX11_go_0 41 rfl) KX0 fX11_193 (by decide) rfl (CLt hH (q := 13) (by decide)) (CC hH 13 (by decide) rfl) ((show _ = (runF E (E 0 5) (E 0 6) m).2.2.2.1 from k3)) ?_
      refine g_iadd hX (dk DX11_go_0 42 rfl) ?_
      refine g_putI hX (dk DX11_go_0 43 rfl) KX5 fX11_165 (by decide) rfl (CLt hH (q := 1) (by decide)) (CC hH 1 (by decide) rfl) (Or.inl rfl) (rfl) (rfl) ?_
      refine g_aload_0 hX (dk DX11_go_0 44 rfl) ?_
      refine g_getRs (r := 1) hX (dk DX11_go_0 45 rfl) KX11 fX11_12 (by decide) rfl (CLt hH (q := 0) (by decide)) (CC hH 0 (by decide) rfl) (CR hH 0 0 1 (by decide)) ?_
      refine g_dup hX (dk DX11_go_0 46 rfl) rfl ?_
      refine g_getIv hX (dk DX11_go_0 47 rfl) KX5 fX11_168 (by decide) rfl (CLt hH (q := 1) (by decide)) (CC hH 1 (by decide) rfl) ((show _ = E 0 4 from hZ2.2.1.2.2.2)) ?_
      refine g_aload_0 hX (dk DX11_go_0 48 rfl) ?_
      refine g_getRs (r := 13) hX (dk DX11_go_0 49 rfl) KX11 fX11_26 (by decide) rfl (CLt hH (q := 0) (by decide)) (CC hH 0 (by decide) rfl) (CR hH 0 3 13 (by decide)) ?_
      refine g_getIv hX (dk DX11_go_0 50 rfl) KX0 fX11_194 (by decide) rfl (CLt hH (q := 13) (by decide)) (CC hH 13 (by decide) rfl) ((show _ = (runF E (E 0 5) (E 0 6) m).2.2.2.2.1 from k4)) ?_
      refine g_iadd hX (dk DX11_go_0 51 rfl) ?_
      refine g_putI hX (dk DX11_go_0 52 rfl) KX5 fX11_168 (by decide) rfl (CLt hH (q := 1) (by decide)) (CC hH 1 (by decide) rfl) (Or.inl rfl) (rfl) (rfl) ?_
      refine g_aload_0 hX (dk DX11_go_0 53 rfl) ?_
      refine g_getRs (r := 1) hX (dk DX11_go_0 54 rfl) KX11 fX11_12 (by decide) rfl (CLt hH (q := 0) (by decide)) (CC hH 0 (by decide) rfl) (CR hH 0 0 1 (by decide)) ?_
      refine g_aload_0 hX (dk DX11_go_0 55 rfl) ?_
      refine g_getRs (r := 13) hX (dk DX11_go_0 56 rfl) KX11 fX11_26 (by decide) rfl (CLt hH (q := 0) (by decide)) (CC hH 0 (by decide) rfl) (CR hH 0 3 13 (by decide)) ?_
      refine g_getIv hX (dk DX11_go_0 57 rfl) KX0 fX11_195 (by decide) rfl (CLt hH (q := 13) (by decide)) (CC hH 13 (by decide) rfl) ((show _ = (runF E (E 0 5) (E 0 6) m).2.1 from k1)) ?_
      refine g_putI hX (dk DX11_go_0 58 rfl) KX5 fX11_116 (by decide) rfl (CLt hH (q := 1) (by decide)) (CC hH 1 (by decide) rfl) (Or.inl rfl) (rfl) (rfl) ?_
      refine g_gen (fun W eW => ?_)
      have hgo := hZ.go (n := nI m) (R := (runF E (E 0 5) (E 0 6) m)) hE hS2 eW rfl rfl rfl rfl
      have hW16 : W 1 6 = E 0 1 := by rw [eW]; exact hZ2.1.2.1.1.2.1
      refine g_aload_0 hX (dk DX11_go_0 59 rfl) ?_
      refine g_getRs (r := 1) hX (dk DX11_go_1 0 rfl) KX11 fX11_12 (by decide) rfl (CLt hH (q := 0) (by decide)) (CC hH 0 (by decide) rfl) (CR hH 0 0 1 (by decide)) ?_
      refine g_dup hX (dk DX11_go_1 1 rfl) rfl ?_
      refine g_getIv hX (dk DX11_go_1 2 rfl) KX5 fX11_122 (by decide) rfl (CLt hH (q := 1) (by decide)) (CC hH 1 (by decide) rfl) (hW16) ?_
      refine g_iload_1 hX (dk DX11_go_1 3 rfl) ?_
      refine g_iadd hX (dk DX11_go_1 4 rfl) ?_
      refine g_putI hX (dk DX11_go_1 5 rfl) KX5 fX11_122 (by decide) rfl (CLt hH (q := 1) (by decide)) (CC hH 1 (by decide) rfl) (Or.inl rfl) (rfl) (rfl) ?_
      refine g_aload_0 hX (dk DX11_go_1 6 rfl) ?_
      refine g_getRs (r := 1) hX (dk DX11_go_1 7 rfl) KX11 fX11_12 (by decide) rfl (CLt hH (q := 0) (by decide)) (CC hH 0 (by decide) rfl) (CR hH 0 0 1 (by decide)) ?_
      refine g_getIv hX (dk DX11_go_1 8 rfl) KX5 fX11_122 (by decide) rfl (CLt hH (q := 1) (by decide)) (CC hH 1 (by decide) rfl) (up0 _ _ _ _) ?_
      refine g_ireturn hX (dk DX11_go_1 9 rfl) rfl (rfl) (by decide) (by decide) ?_
      exact qZ_of (E' := goE E (runF E (E 0 5) (E 0 6) m) (nI m)) (by unfold goS; rw [tN_nI (show m < 2 ^ 31 by omega)]; (try first | rw [if_pos hc1] | rw [if_neg hc1] | rw [if_neg (not_not_intro hc1)]); (try first | rw [if_pos hc2] | rw [if_neg hc2] | rw [if_neg (not_not_intro hc2)]); first | done | rfl) hgo
    · refine g_bipush (v := -3) hX (dk DX11_go_0 14 rfl) (by decide) ?_
      refine g_ireturn hX (dk DX11_go_0 15 rfl) rfl (rfl) (by decide) (by decide) ?_
      exact qZ_of (by unfold goS; (try first | rw [if_pos hc1] | rw [if_neg hc1] | rw [if_neg (not_not_intro hc1)]); (try first | rw [if_pos hc2] | rw [if_neg hc2] | rw [if_neg (not_not_intro hc2)]); first | done | rfl) hZ
  · refine g_bipush (v := -2) hX (dk DX11_go_0 5 rfl) (by decide) ?_
    refine g_ireturn hX (dk DX11_go_0 6 rfl) rfl (rfl) (by decide) (by decide) ?_
    exact qZ_of (by unfold goS; (try first | rw [if_pos hc1] | rw [if_neg hc1] | rw [if_neg (not_not_intro hc1)]); first | done | rfl) hZ
end
section
set_option maxRecDepth 20000 in
theorem DL_0 : dcl code [(0, .new 7, 3, 3), (3, .dup, 1, 4), (4, .invokespecial 9, 3, 7), (7, .astore_n 1, 1, 8), (8, .new 10, 3, 11), (11, .dup, 1, 12), (12, .invokespecial 12, 3, 15), (15, .astore_n 2, 1, 16), (16, .iconst 0, 1, 17), (17, .istore_n 3, 1, 18), (18, .iload_n 3, 1, 19), (19, .aload_n 0, 1, 20), (20, .arraylength, 1, 21), (21, .bipush 7, 2, 23), (23, .isub, 1, 24), (24, .if_icmp .gt 1289, 3, 27), (27, .aload_n 0, 1, 28), (28, .iload_n 3, 1, 29), (29, .iaload, 1, 30), (30, .bipush 63, 2, 32), (32, .iand, 1, 33), (33, .tableswitch 1274 0 34 #[155, 230, 263, 312, 361, 394, 427, 450, 463, 486, 519, 532, 555, 588, 631, 664, 687, 710, 733, 766, 789, 822, 835, 848, 881, 914, 927, 940, 983, 1006, 1039, 1062, 1105, 1178, 1211], 155, 188), (188, .aload_n 1, 1, 189), (189, .aload_n 0, 1, 190), (190, .iload_n 3, 1, 191), (191, .iconst 1, 1, 192), (192, .iadd, 1, 193), (193, .iaload, 1, 194), (194, .aload_n 0, 1, 195), (195, .iload_n 3, 1, 196), (196, .iconst 2, 1, 197), (197, .iadd, 1, 198), (198, .iaload, 1, 199), (199, .aload_n 0, 1, 200), (200, .iload_n 3, 1, 201), (201, .iconst 3, 1, 202), (202, .iadd, 1, 203), (203, .iaload, 1, 204), (204, .aload_n 0, 1, 205), (205, .iload_n 3, 1, 206), (206, .iconst 4, 1, 207), (207, .iadd, 1, 208), (208, .iaload, 1, 209), (209, .aload_n 0, 1, 210), (210, .iload_n 3, 1, 211), (211, .iconst 5, 1, 212), (212, .iadd, 1, 213), (213, .iaload, 1, 214), (214, .aload_n 0, 1, 215), (215, .iload_n 3, 1, 216)] := by unfold dcl; decide +kernel
set_option maxRecDepth 20000 in
theorem DL_1 : dcl code [(216, .bipush 6, 2, 218), (218, .iadd, 1, 219), (219, .iaload, 1, 220), (220, .invokevirtual 13, 3, 223), (223, .pop, 1, 224), (224, .aload_n 2, 1, 225), (225, .aload_n 0, 1, 226), (226, .iload_n 3, 1, 227), (227, .iconst 1, 1, 228), (228, .iadd, 1, 229), (229, .iaload, 1, 230), (230, .aload_n 0, 1, 231), (231, .iload_n 3, 1, 232), (232, .iconst 2, 1, 233), (233, .iadd, 1, 234), (234, .iaload, 1, 235), (235, .aload_n 0, 1, 236), (236, .iload_n 3, 1, 237), (237, .iconst 3, 1, 238), (238, .iadd, 1, 239), (239, .iaload, 1, 240), (240, .aload_n 0, 1, 241), (241, .iload_n 3, 1, 242), (242, .iconst 4, 1, 243), (243, .iadd, 1, 244), (244, .iaload, 1, 245), (245, .aload_n 0, 1, 246), (246, .iload_n 3, 1, 247), (247, .iconst 5, 1, 248), (248, .iadd, 1, 249), (249, .iaload, 1, 250), (250, .aload_n 0, 1, 251), (251, .iload_n 3, 1, 252), (252, .bipush 6, 2, 254), (254, .iadd, 1, 255), (255, .iaload, 1, 256), (256, .invokevirtual 17, 3, 259), (259, .pop, 1, 260), (260, .goto 1047, 3, 263), (263, .aload_n 1, 1, 264), (264, .aload_n 0, 1, 265), (265, .iload_n 3, 1, 266), (266, .iconst 1, 1, 267), (267, .iadd, 1, 268), (268, .iaload, 1, 269), (269, .aload_n 0, 1, 270), (270, .iload_n 3, 1, 271), (271, .iconst 2, 1, 272), (272, .iadd, 1, 273), (273, .iaload, 1, 274)] := by unfold dcl; decide +kernel
set_option maxRecDepth 20000 in
theorem DL_2 : dcl code [(274, .invokevirtual 18, 3, 277), (277, .pop, 1, 278), (278, .aload_n 2, 1, 279), (279, .aload_n 0, 1, 280), (280, .iload_n 3, 1, 281), (281, .iconst 1, 1, 282), (282, .iadd, 1, 283), (283, .iaload, 1, 284), (284, .aload_n 0, 1, 285), (285, .iload_n 3, 1, 286), (286, .iconst 2, 1, 287), (287, .iadd, 1, 288), (288, .iaload, 1, 289), (289, .invokevirtual 22, 3, 292), (292, .pop, 1, 293), (293, .goto 1014, 3, 296), (296, .aload_n 1, 1, 297), (297, .aload_n 0, 1, 298), (298, .iload_n 3, 1, 299), (299, .iconst 1, 1, 300), (300, .iadd, 1, 301), (301, .iaload, 1, 302), (302, .aload_n 0, 1, 303), (303, .iload_n 3, 1, 304), (304, .iconst 2, 1, 305), (305, .iadd, 1, 306), (306, .iaload, 1, 307), (307, .ifCond .eq 7, 3, 310), (310, .iconst 1, 1, 311), (311, .goto 4, 3, 314), (314, .iconst 0, 1, 315), (315, .invokevirtual 23, 3, 318), (318, .pop, 1, 319), (319, .aload_n 2, 1, 320), (320, .aload_n 0, 1, 321), (321, .iload_n 3, 1, 322), (322, .iconst 1, 1, 323), (323, .iadd, 1, 324), (324, .iaload, 1, 325), (325, .aload_n 0, 1, 326), (326, .iload_n 3, 1, 327), (327, .iconst 2, 1, 328), (328, .iadd, 1, 329), (329, .iaload, 1, 330), (330, .ifCond .eq 7, 3, 333), (333, .iconst 1, 1, 334), (334, .goto 4, 3, 337), (337, .iconst 0, 1, 338), (338, .invokevirtual 27, 3, 341), (341, .pop, 1, 342)] := by unfold dcl; decide +kernel
set_option maxRecDepth 20000 in
theorem DL_3 : dcl code [(342, .goto 965, 3, 345), (345, .aload_n 1, 1, 346), (346, .aload_n 0, 1, 347), (347, .iload_n 3, 1, 348), (348, .iconst 1, 1, 349), (349, .iadd, 1, 350), (350, .iaload, 1, 351), (351, .aload_n 0, 1, 352), (352, .iload_n 3, 1, 353), (353, .iconst 2, 1, 354), (354, .iadd, 1, 355), (355, .iaload, 1, 356), (356, .ifCond .eq 7, 3, 359), (359, .iconst 1, 1, 360), (360, .goto 4, 3, 363), (363, .iconst 0, 1, 364), (364, .invokevirtual 28, 3, 367), (367, .pop, 1, 368), (368, .aload_n 2, 1, 369), (369, .aload_n 0, 1, 370), (370, .iload_n 3, 1, 371), (371, .iconst 1, 1, 372), (372, .iadd, 1, 373), (373, .iaload, 1, 374), (374, .aload_n 0, 1, 375), (375, .iload_n 3, 1, 376), (376, .iconst 2, 1, 377), (377, .iadd, 1, 378), (378, .iaload, 1, 379), (379, .ifCond .eq 7, 3, 382), (382, .iconst 1, 1, 383), (383, .goto 4, 3, 386), (386, .iconst 0, 1, 387), (387, .invokevirtual 31, 3, 390), (390, .pop, 1, 391), (391, .goto 916, 3, 394), (394, .aload_n 1, 1, 395), (395, .aload_n 0, 1, 396), (396, .iload_n 3, 1, 397), (397, .iconst 1, 1, 398), (398, .iadd, 1, 399), (399, .iaload, 1, 400), (400, .aload_n 0, 1, 401), (401, .iload_n 3, 1, 402), (402, .iconst 2, 1, 403), (403, .iadd, 1, 404), (404, .iaload, 1, 405), (405, .invokevirtual 32, 3, 408), (408, .pop, 1, 409), (409, .aload_n 2, 1, 410)] := by unfold dcl; decide +kernel
set_option maxRecDepth 20000 in
theorem DL_4 : dcl code [(410, .aload_n 0, 1, 411), (411, .iload_n 3, 1, 412), (412, .iconst 1, 1, 413), (413, .iadd, 1, 414), (414, .iaload, 1, 415), (415, .aload_n 0, 1, 416), (416, .iload_n 3, 1, 417), (417, .iconst 2, 1, 418), (418, .iadd, 1, 419), (419, .iaload, 1, 420), (420, .invokevirtual 35, 3, 423), (423, .pop, 1, 424), (424, .goto 883, 3, 427), (427, .aload_n 1, 1, 428), (428, .aload_n 0, 1, 429), (429, .iload_n 3, 1, 430), (430, .iconst 1, 1, 431), (431, .iadd, 1, 432), (432, .iaload, 1, 433), (433, .aload_n 0, 1, 434), (434, .iload_n 3, 1, 435), (435, .iconst 2, 1, 436), (436, .iadd, 1, 437), (437, .iaload, 1, 438), (438, .invokevirtual 36, 3, 441), (441, .pop, 1, 442), (442, .aload_n 2, 1, 443), (443, .aload_n 0, 1, 444), (444, .iload_n 3, 1, 445), (445, .iconst 1, 1, 446), (446, .iadd, 1, 447), (447, .iaload, 1, 448), (448, .aload_n 0, 1, 449), (449, .iload_n 3, 1, 450), (450, .iconst 2, 1, 451), (451, .iadd, 1, 452), (452, .iaload, 1, 453), (453, .invokevirtual 39, 3, 456), (456, .pop, 1, 457), (457, .goto 850, 3, 460), (460, .aload_n 1, 1, 461), (461, .aload_n 0, 1, 462), (462, .iload_n 3, 1, 463), (463, .iconst 1, 1, 464), (464, .iadd, 1, 465), (465, .iaload, 1, 466), (466, .invokevirtual 40, 3, 469), (469, .pop, 1, 470), (470, .aload_n 2, 1, 471), (471, .aload_n 0, 1, 472)] := by unfold dcl; decide +kernel
set_option maxRecDepth 20000 in
theorem DL_5 : dcl code [(472, .iload_n 3, 1, 473), (473, .iconst 1, 1, 474), (474, .iadd, 1, 475), (475, .iaload, 1, 476), (476, .invokevirtual 44, 3, 479), (479, .pop, 1, 480), (480, .goto 827, 3, 483), (483, .aload_n 1, 1, 484), (484, .invokevirtual 45, 3, 487), (487, .aload_n 2, 1, 488), (488, .invokevirtual 49, 3, 491), (491, .if_icmp .eq 816, 3, 494), (494, .iconst 0, 1, 495), (495, .ireturn, 1, 496), (496, .aload_n 1, 1, 497), (497, .aload_n 0, 1, 498), (498, .iload_n 3, 1, 499), (499, .iconst 1, 1, 500), (500, .iadd, 1, 501), (501, .iaload, 1, 502), (502, .invokevirtual 50, 3, 505), (505, .pop, 1, 506), (506, .aload_n 2, 1, 507), (507, .aload_n 0, 1, 508), (508, .iload_n 3, 1, 509), (509, .iconst 1, 1, 510), (510, .iadd, 1, 511), (511, .iaload, 1, 512), (512, .invokevirtual 53, 3, 515), (515, .pop, 1, 516), (516, .goto 791, 3, 519), (519, .aload_n 1, 1, 520), (520, .aload_n 0, 1, 521), (521, .iload_n 3, 1, 522), (522, .iconst 1, 1, 523), (523, .iadd, 1, 524), (524, .iaload, 1, 525), (525, .aload_n 0, 1, 526), (526, .iload_n 3, 1, 527), (527, .iconst 2, 1, 528), (528, .iadd, 1, 529), (529, .iaload, 1, 530), (530, .invokevirtual 54, 3, 533), (533, .pop, 1, 534), (534, .aload_n 2, 1, 535), (535, .aload_n 0, 1, 536), (536, .iload_n 3, 1, 537), (537, .iconst 1, 1, 538), (538, .iadd, 1, 539), (539, .iaload, 1, 540)] := by unfold dcl; decide +kernel
set_option maxRecDepth 20000 in
theorem DL_6 : dcl code [(540, .aload_n 0, 1, 541), (541, .iload_n 3, 1, 542), (542, .iconst 2, 1, 543), (543, .iadd, 1, 544), (544, .iaload, 1, 545), (545, .invokevirtual 57, 3, 548), (548, .pop, 1, 549), (549, .goto 758, 3, 552), (552, .aload_n 1, 1, 553), (553, .invokevirtual 58, 3, 556), (556, .pop, 1, 557), (557, .aload_n 2, 1, 558), (558, .invokevirtual 61, 3, 561), (561, .pop, 1, 562), (562, .goto 745, 3, 565), (565, .aload_n 1, 1, 566), (566, .aload_n 0, 1, 567), (567, .iload_n 3, 1, 568), (568, .iconst 1, 1, 569), (569, .iadd, 1, 570), (570, .iaload, 1, 571), (571, .invokevirtual 62, 3, 574), (574, .pop, 1, 575), (575, .aload_n 2, 1, 576), (576, .aload_n 0, 1, 577), (577, .iload_n 3, 1, 578), (578, .iconst 1, 1, 579), (579, .iadd, 1, 580), (580, .iaload, 1, 581), (581, .invokevirtual 65, 3, 584), (584, .pop, 1, 585), (585, .goto 722, 3, 588), (588, .aload_n 1, 1, 589), (589, .aload_n 0, 1, 590), (590, .iload_n 3, 1, 591), (591, .iconst 1, 1, 592), (592, .iadd, 1, 593), (593, .iaload, 1, 594), (594, .aload_n 0, 1, 595), (595, .iload_n 3, 1, 596), (596, .iconst 2, 1, 597), (597, .iadd, 1, 598), (598, .iaload, 1, 599), (599, .invokevirtual 66, 3, 602), (602, .pop, 1, 603), (603, .aload_n 2, 1, 604), (604, .aload_n 0, 1, 605), (605, .iload_n 3, 1, 606), (606, .iconst 1, 1, 607), (607, .iadd, 1, 608)] := by unfold dcl; decide +kernel
set_option maxRecDepth 20000 in
theorem DL_7 : dcl code [(608, .iaload, 1, 609), (609, .aload_n 0, 1, 610), (610, .iload_n 3, 1, 611), (611, .iconst 2, 1, 612), (612, .iadd, 1, 613), (613, .iaload, 1, 614), (614, .invokevirtual 69, 3, 617), (617, .pop, 1, 618), (618, .goto 689, 3, 621), (621, .aload_n 1, 1, 622), (622, .aload_n 0, 1, 623), (623, .iload_n 3, 1, 624), (624, .iconst 1, 1, 625), (625, .iadd, 1, 626), (626, .iaload, 1, 627), (627, .aload_n 0, 1, 628), (628, .iload_n 3, 1, 629), (629, .iconst 2, 1, 630), (630, .iadd, 1, 631), (631, .iaload, 1, 632), (632, .aload_n 0, 1, 633), (633, .iload_n 3, 1, 634), (634, .iconst 3, 1, 635), (635, .iadd, 1, 636), (636, .iaload, 1, 637), (637, .invokevirtual 70, 3, 640), (640, .pop, 1, 641), (641, .aload_n 2, 1, 642), (642, .aload_n 0, 1, 643), (643, .iload_n 3, 1, 644), (644, .iconst 1, 1, 645), (645, .iadd, 1, 646), (646, .iaload, 1, 647), (647, .aload_n 0, 1, 648), (648, .iload_n 3, 1, 649), (649, .iconst 2, 1, 650), (650, .iadd, 1, 651), (651, .iaload, 1, 652), (652, .aload_n 0, 1, 653), (653, .iload_n 3, 1, 654), (654, .iconst 3, 1, 655), (655, .iadd, 1, 656), (656, .iaload, 1, 657), (657, .invokevirtual 74, 3, 660), (660, .pop, 1, 661), (661, .goto 646, 3, 664), (664, .aload_n 1, 1, 665), (665, .aload_n 0, 1, 666), (666, .iload_n 3, 1, 667), (667, .iconst 1, 1, 668)] := by unfold dcl; decide +kernel
set_option maxRecDepth 20000 in
theorem DL_8 : dcl code [(668, .iadd, 1, 669), (669, .iaload, 1, 670), (670, .aload_n 0, 1, 671), (671, .iload_n 3, 1, 672), (672, .iconst 2, 1, 673), (673, .iadd, 1, 674), (674, .iaload, 1, 675), (675, .invokevirtual 75, 3, 678), (678, .pop, 1, 679), (679, .aload_n 2, 1, 680), (680, .aload_n 0, 1, 681), (681, .iload_n 3, 1, 682), (682, .iconst 1, 1, 683), (683, .iadd, 1, 684), (684, .iaload, 1, 685), (685, .aload_n 0, 1, 686), (686, .iload_n 3, 1, 687), (687, .iconst 2, 1, 688), (688, .iadd, 1, 689), (689, .iaload, 1, 690), (690, .invokevirtual 78, 3, 693), (693, .pop, 1, 694), (694, .goto 613, 3, 697), (697, .aload_n 1, 1, 698), (698, .aload_n 0, 1, 699), (699, .iload_n 3, 1, 700), (700, .iconst 1, 1, 701), (701, .iadd, 1, 702), (702, .iaload, 1, 703), (703, .invokevirtual 79, 3, 706), (706, .pop, 1, 707), (707, .aload_n 2, 1, 708), (708, .aload_n 0, 1, 709), (709, .iload_n 3, 1, 710), (710, .iconst 1, 1, 711), (711, .iadd, 1, 712), (712, .iaload, 1, 713), (713, .invokevirtual 82, 3, 716), (716, .pop, 1, 717), (717, .goto 590, 3, 720), (720, .aload_n 1, 1, 721), (721, .aload_n 0, 1, 722), (722, .iload_n 3, 1, 723), (723, .iconst 1, 1, 724), (724, .iadd, 1, 725), (725, .iaload, 1, 726), (726, .invokevirtual 83, 3, 729), (729, .pop, 1, 730), (730, .aload_n 2, 1, 731), (731, .aload_n 0, 1, 732)] := by unfold dcl; decide +kernel
end
