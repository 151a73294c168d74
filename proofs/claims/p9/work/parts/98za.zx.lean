set_option maxRecDepth 8000 in
set_option maxHeartbeats 4000000 in
theorem zy_of {G : Gt} (hG : Gok G) {I : It} {h : Ht}  {E : It} {L : Nat → Int64} (hE : Inv E) (hZ : RZ E L I h) {d : Nat} (hd : d < cnt E) {w : Int32} : Con G (8) 0 0 mX11_of [.ref 0, .int (nI d), .int w] I h (qZ (ofS E (nI d) w) L (hn h)) := by
  refine con_intro (own := RX11) (lo0 := [some (.ref 0), some (.int (nI d)), some (.int w), none]) hG rfl pl_X11 (Nat.le_of_ble_eq_true rfl) rfl (fun X hX => ?_)
  have hY := hZ.1
  have hW := hY.wx hE
  have hH := hW.1
  have hc10 := hW.2.1.2
  have hcE := (inv_cnt hE).2
  have hd10 : d < 10 := Nat.lt_of_lt_of_le hd (inv_cnt hE).2
  have hcd : d < cN I := by rw [hY.cn]; exact hd
  have hDD := isD_mk hE hd
  obtain ⟨g1, g2, g3, g4, g5, g6, g7, g8, g9, g10⟩ := hY.d hd
  refine g_aload_0 hX (dk DX11_of_0 0 rfl) ?_
  refine g_getRs (r := 1) hX (dk DX11_of_0 1 rfl) KX11 fX11_12 (by decide) rfl (CLt hH (q := 0) (by decide)) (CC hH 0 (by decide) rfl) (CR hH 0 0 1 (by decide)) ?_
  refine g_iload_1 hX (dk DX11_of_0 2 rfl) ?_
  refine g_c2R hX sX11_of_5 (by decide) (Nat.le_of_ble_eq_true rfl) (rc0 rfl (CLt hH (by decide)) (CC hH 1 (by decide) rfl)) (by decide) (by decide) (c_X5_find hG hW (by exact hcd)) ?_
  refine g_astore_3 hX (dk DX11_of_0 4 rfl) (by decide) rfl ?_
  refine g_aload_3 hX (dk DX11_of_0 5 rfl) ?_
  refine g_ifnonnull (tgt := 17) hX (dk DX11_of_0 6 rfl) (by decide) ?_
  refine g_iload_2 hX (dk DX11_of_0 9 rfl) ?_
  refine g_tswitch (dt := 193) hX [(0, 80), (1, 85), (2, 90), (3, 95), (4, 100), (5, 105), (6, 110), (7, 122), (8, 134), (9, 143), (10, 164), (11, 180)] (dk DX11_of_0 10 rfl) (by decide +kernel) ?_
  refine ⟨fun hc1 => ?_, fun hc1n => ?_⟩
  · show GG _ _ _ _ _ _ _ _ _ _ _ _ _
    refine g_aload_3 hX (dk DX11_of_0 11 rfl) ?_
    refine g_c1I hX (sD_X11_of_81 _ (by rw [g4]; exact kcl_dc _)) (by decide) (Nat.le_of_ble_eq_true rfl) (rc0 rfl g3 rfl) (by decide) (by decide) (cD_kind hG g3 (by rw [g4]; exact kcl_dc _)) ?_
    refine g_nmI (E 1 d) (by rw [g4]; obtain ⟨⟨x, hx, ex⟩, -⟩ := inv_d hE hd; rw [ex]; exact knd_e x (by omega)) ?_
    refine g_ireturn hX (dk DX11_of_0 13 rfl) rfl (rfl) (by decide) (by decide) ?_
    first
    | exact qZ_of (by unfold ofS; rw [if_neg (not_not_intro hDD)]; (try rw [tN_nI (by omega)]); (try first | rw [if_pos hc1] | rw [if_neg hc1] | rw [if_neg (not_not_intro hc1)]); first | done | rfl | exact ofb _ _ _) hZ
    | exact qZ_of (by unfold ofS; rw [if_neg (not_not_intro hDD)]; (try rw [tN_nI (by omega)]); (try first | rw [if_pos hc1] | rw [if_neg hc1] | rw [if_neg (not_not_intro hc1)]); first | done | rfl) (hZ.sc hE hS)
  refine ⟨fun hc2 => ?_, fun hc2n => ?_⟩
  · show GG _ _ _ _ _ _ _ _ _ _ _ _ _
    refine g_aload_3 hX (dk DX11_of_0 14 rfl) ?_
    refine g_getD (v := _) hX (dk DX11_of_0 15 rfl) fX11_94 (by decide) g3 (by rw [g4]; exact kcl_dc _) (g6) ?_
    refine g_ireturn hX (dk DX11_of_0 16 rfl) rfl (rfl) (by decide) (by decide) ?_
    first
    | exact qZ_of (by unfold ofS; rw [if_neg (not_not_intro hDD)]; (try rw [tN_nI (by omega)]); (try first | rw [if_pos hc1n] | rw [if_neg hc1n] | rw [if_neg (not_not_intro hc1n)]); (try first | rw [if_pos hc2] | rw [if_neg hc2] | rw [if_neg (not_not_intro hc2)]); first | done | rfl | exact ofb _ _ _) hZ
    | exact qZ_of (by unfold ofS; rw [if_neg (not_not_intro hDD)]; (try rw [tN_nI (by omega)]); (try first | rw [if_pos hc1n] | rw [if_neg hc1n] | rw [if_neg (not_not_intro hc1n)]); (try first | rw [if_pos hc2] | rw [if_neg hc2] | rw [if_neg (not_not_intro hc2)]); first | done | rfl) (hZ.sc hE hS)
  refine ⟨fun hc3 => ?_, fun hc3n => ?_⟩
  · show GG _ _ _ _ _ _ _ _ _ _ _ _ _
    refine g_aload_3 hX (dk DX11_of_0 17 rfl) ?_
    refine g_getD (v := _) hX (dk DX11_of_0 18 rfl) fX11_97 (by decide) g3 (by rw [g4]; exact kcl_dc _) (g7) ?_
    refine g_ireturn hX (dk DX11_of_0 19 rfl) rfl (rfl) (by decide) (by decide) ?_
    first
    | exact qZ_of (by unfold ofS; rw [if_neg (not_not_intro hDD)]; (try rw [tN_nI (by omega)]); (try first | rw [if_pos hc1n] | rw [if_neg hc1n] | rw [if_neg (not_not_intro hc1n)]); (try first | rw [if_pos hc2n] | rw [if_neg hc2n] | rw [if_neg (not_not_intro hc2n)]); (try first | rw [if_pos hc3] | rw [if_neg hc3] | rw [if_neg (not_not_intro hc3)]); first | done | rfl | exact ofb _ _ _) hZ
    | exact qZ_of (by unfold ofS; rw [if_neg (not_not_intro hDD)]; (try rw [tN_nI (by omega)]); (try first | rw [if_pos hc1n] | rw [if_neg hc1n] | rw [if_neg (not_not_intro hc1n)]); (try first | rw [if_pos hc2n] | rw [if_neg hc2n] | rw [if_neg (not_not_intro hc2n)]); (try first | rw [if_pos hc3] | rw [if_neg hc3] | rw [if_neg (not_not_intro hc3)]); first | done | rfl) (hZ.sc hE hS)
  refine ⟨fun hc4 => ?_, fun hc4n => ?_⟩
  · show GG _ _ _ _ _ _ _ _ _ _ _ _ _
    refine g_aload_3 hX (dk DX11_of_0 20 rfl) ?_
    refine g_getD (v := _) hX (dk DX11_of_0 21 rfl) fX11_100 (by decide) g3 (by rw [g4]; exact kcl_dc _) (g8) ?_
    refine g_ireturn hX (dk DX11_of_0 22 rfl) rfl (rfl) (by decide) (by decide) ?_
    first
    | exact qZ_of (by unfold ofS; rw [if_neg (not_not_intro hDD)]; (try rw [tN_nI (by omega)]); (try first | rw [if_pos hc1n] | rw [if_neg hc1n] | rw [if_neg (not_not_intro hc1n)]); (try first | rw [if_pos hc2n] | rw [if_neg hc2n] | rw [if_neg (not_not_intro hc2n)]); (try first | rw [if_pos hc3n] | rw [if_neg hc3n] | rw [if_neg (not_not_intro hc3n)]); (try first | rw [if_pos hc4] | rw [if_neg hc4] | rw [if_neg (not_not_intro hc4)]); first | done | rfl | exact ofb _ _ _) hZ
    | exact qZ_of (by unfold ofS; rw [if_neg (not_not_intro hDD)]; (try rw [tN_nI (by omega)]); (try first | rw [if_pos hc1n] | rw [if_neg hc1n] | rw [if_neg (not_not_intro hc1n)]); (try first | rw [if_pos hc2n] | rw [if_neg hc2n] | rw [if_neg (not_not_intro hc2n)]); (try first | rw [if_pos hc3n] | rw [if_neg hc3n] | rw [if_neg (not_not_intro hc3n)]); (try first | rw [if_pos hc4] | rw [if_neg hc4] | rw [if_neg (not_not_intro hc4)]); first | done | rfl) (hZ.sc hE hS)
  refine ⟨fun hc5 => ?_, fun hc5n => ?_⟩
  · show GG _ _ _ _ _ _ _ _ _ _ _ _ _
    refine g_aload_3 hX (dk DX11_of_0 23 rfl) ?_
    refine g_getD (v := _) hX (dk DX11_of_0 24 rfl) fX11_103 (by decide) g3 (by rw [g4]; exact kcl_dc _) (g9) ?_
    refine g_ireturn hX (dk DX11_of_0 25 rfl) rfl (rfl) (by decide) (by decide) ?_
    first
    | exact qZ_of (by unfold ofS; rw [if_neg (not_not_intro hDD)]; (try rw [tN_nI (by omega)]); (try first | rw [if_pos hc1n] | rw [if_neg hc1n] | rw [if_neg (not_not_intro hc1n)]); (try first | rw [if_pos hc2n] | rw [if_neg hc2n] | rw [if_neg (not_not_intro hc2n)]); (try first | rw [if_pos hc3n] | rw [if_neg hc3n] | rw [if_neg (not_not_intro hc3n)]); (try first | rw [if_pos hc4n] | rw [if_neg hc4n] | rw [if_neg (not_not_intro hc4n)]); (try first | rw [if_pos hc5] | rw [if_neg hc5] | rw [if_neg (not_not_intro hc5)]); first | done | rfl | exact ofb _ _ _) hZ
    | exact qZ_of (by unfold ofS; rw [if_neg (not_not_intro hDD)]; (try rw [tN_nI (by omega)]); (try first | rw [if_pos hc1n] | rw [if_neg hc1n] | rw [if_neg (not_not_intro hc1n)]); (try first | rw [if_pos hc2n] | rw [if_neg hc2n] | rw [if_neg (not_not_intro hc2n)]); (try first | rw [if_pos hc3n] | rw [if_neg hc3n] | rw [if_neg (not_not_intro hc3n)]); (try first | rw [if_pos hc4n] | rw [if_neg hc4n] | rw [if_neg (not_not_intro hc4n)]); (try first | rw [if_pos hc5] | rw [if_neg hc5] | rw [if_neg (not_not_intro hc5)]); first | done | rfl) (hZ.sc hE hS)
  refine ⟨fun hc6 => ?_, fun hc6n => ?_⟩
  · show GG _ _ _ _ _ _ _ _ _ _ _ _ _
    refine g_aload_3 hX (dk DX11_of_0 26 rfl) ?_
    refine g_getD (v := _) hX (dk DX11_of_0 27 rfl) fX11_106 (by decide) g3 (by rw [g4]; exact kcl_dc _) (g10) ?_
    refine g_ireturn hX (dk DX11_of_0 28 rfl) rfl (rfl) (by decide) (by decide) ?_
    first
    | exact qZ_of (by unfold ofS; rw [if_neg (not_not_intro hDD)]; (try rw [tN_nI (by omega)]); (try first | rw [if_pos hc1n] | rw [if_neg hc1n] | rw [if_neg (not_not_intro hc1n)]); (try first | rw [if_pos hc2n] | rw [if_neg hc2n] | rw [if_neg (not_not_intro hc2n)]); (try first | rw [if_pos hc3n] | rw [if_neg hc3n] | rw [if_neg (not_not_intro hc3n)]); (try first | rw [if_pos hc4n] | rw [if_neg hc4n] | rw [if_neg (not_not_intro hc4n)]); (try first | rw [if_pos hc5n] | rw [if_neg hc5n] | rw [if_neg (not_not_intro hc5n)]); (try first | rw [if_pos hc6] | rw [if_neg hc6] | rw [if_neg (not_not_intro hc6)]); first | done | rfl | exact ofb _ _ _) hZ
    | exact qZ_of (by unfold ofS; rw [if_neg (not_not_intro hDD)]; (try rw [tN_nI (by omega)]); (try first | rw [if_pos hc1n] | rw [if_neg hc1n] | rw [if_neg (not_not_intro hc1n)]); (try first | rw [if_pos hc2n] | rw [if_neg hc2n] | rw [if_neg (not_not_intro hc2n)]); (try first | rw [if_pos hc3n] | rw [if_neg hc3n] | rw [if_neg (not_not_intro hc3n)]); (try first | rw [if_pos hc4n] | rw [if_neg hc4n] | rw [if_neg (not_not_intro hc4n)]); (try first | rw [if_pos hc5n] | rw [if_neg hc5n] | rw [if_neg (not_not_intro hc5n)]); (try first | rw [if_pos hc6] | rw [if_neg hc6] | rw [if_neg (not_not_intro hc6)]); first | done | rfl) (hZ.sc hE hS)
  refine ⟨fun hc7 => ?_, fun hc7n => ?_⟩
  · show GG _ _ _ _ _ _ _ _ _ _ _ _ _
    refine g_aload_0 hX (dk DX11_of_0 29 rfl) ?_
    refine g_getRs (r := 1) hX (dk DX11_of_0 30 rfl) KX11 fX11_12 (by decide) rfl (CLt hH (q := 0) (by decide)) (CC hH 0 (by decide) rfl) (CR hH 0 0 1 (by decide)) ?_
    refine g_getIv hX (dk DX11_of_0 31 rfl) KX5 fX11_109 (by decide) rfl (CLt hH (q := 1) (by decide)) (CC hH 1 (by decide) rfl) (hZ.1.2.1.1.2.2.1) ?_
    refine g_iload_1 hX (dk DX11_of_0 32 rfl) ?_
    refine g_c2I hX sX11_of_118 (by decide) (Nat.le_of_ble_eq_true rfl) rcN (by decide) (by decide) (c_X11_bit hG ) ?_
    refine g_ireturn hX (dk DX11_of_0 34 rfl) rfl (rfl) (by decide) (by decide) ?_
    first
    | exact qZ_of (by unfold ofS; rw [if_neg (not_not_intro hDD)]; (try rw [tN_nI (by omega)]); (try first | rw [if_pos hc1n] | rw [if_neg hc1n] | rw [if_neg (not_not_intro hc1n)]); (try first | rw [if_pos hc2n] | rw [if_neg hc2n] | rw [if_neg (not_not_intro hc2n)]); (try first | rw [if_pos hc3n] | rw [if_neg hc3n] | rw [if_neg (not_not_intro hc3n)]); (try first | rw [if_pos hc4n] | rw [if_neg hc4n] | rw [if_neg (not_not_intro hc4n)]); (try first | rw [if_pos hc5n] | rw [if_neg hc5n] | rw [if_neg (not_not_intro hc5n)]); (try first | rw [if_pos hc6n] | rw [if_neg hc6n] | rw [if_neg (not_not_intro hc6n)]); (try first | rw [if_pos hc7] | rw [if_neg hc7] | rw [if_neg (not_not_intro hc7)]); first | done | rfl | exact ofb _ _ _) hZ
    | exact qZ_of (by unfold ofS; rw [if_neg (not_not_intro hDD)]; (try rw [tN_nI (by omega)]); (try first | rw [if_pos hc1n] | rw [if_neg hc1n] | rw [if_neg (not_not_intro hc1n)]); (try first | rw [if_pos hc2n] | rw [if_neg hc2n] | rw [if_neg (not_not_intro hc2n)]); (try first | rw [if_pos hc3n] | rw [if_neg hc3n] | rw [if_neg (not_not_intro hc3n)]); (try first | rw [if_pos hc4n] | rw [if_neg hc4n] | rw [if_neg (not_not_intro hc4n)]); (try first | rw [if_pos hc5n] | rw [if_neg hc5n] | rw [if_neg (not_not_intro hc5n)]); (try first | rw [if_pos hc6n] | rw [if_neg hc6n] | rw [if_neg (not_not_intro hc6n)]); (try first | rw [if_pos hc7] | rw [if_neg hc7] | rw [if_neg (not_not_intro hc7)]); first | done | rfl) (hZ.sc hE hS)
  refine ⟨fun hc8 => ?_, fun hc8n => ?_⟩
  · show GG _ _ _ _ _ _ _ _ _ _ _ _ _
    refine g_aload_0 hX (dk DX11_of_0 35 rfl) ?_
    refine g_getRs (r := 1) hX (dk DX11_of_0 36 rfl) KX11 fX11_12 (by decide) rfl (CLt hH (q := 0) (by decide)) (CC hH 0 (by decide) rfl) (CR hH 0 0 1 (by decide)) ?_
    refine g_getIv hX (dk DX11_of_0 37 rfl) KX5 fX11_116 (by decide) rfl (CLt hH (q := 1) (by decide)) (CC hH 1 (by decide) rfl) (hZ.2.1.1) ?_
    refine g_iload_1 hX (dk DX11_of_0 38 rfl) ?_
    refine g_c2I hX sX11_of_130 (by decide) (Nat.le_of_ble_eq_true rfl) rcN (by decide) (by decide) (c_X11_bit hG ) ?_
    refine g_ireturn hX (dk DX11_of_0 40 rfl) rfl (rfl) (by decide) (by decide) ?_
    first
    | exact qZ_of (by unfold ofS; rw [if_neg (not_not_intro hDD)]; (try rw [tN_nI (by omega)]); (try first | rw [if_pos hc1n] | rw [if_neg hc1n] | rw [if_neg (not_not_intro hc1n)]); (try first | rw [if_pos hc2n] | rw [if_neg hc2n] | rw [if_neg (not_not_intro hc2n)]); (try first | rw [if_pos hc3n] | rw [if_neg hc3n] | rw [if_neg (not_not_intro hc3n)]); (try first | rw [if_pos hc4n] | rw [if_neg hc4n] | rw [if_neg (not_not_intro hc4n)]); (try first | rw [if_pos hc5n] | rw [if_neg hc5n] | rw [if_neg (not_not_intro hc5n)]); (try first | rw [if_pos hc6n] | rw [if_neg hc6n] | rw [if_neg (not_not_intro hc6n)]); (try first | rw [if_pos hc7n] | rw [if_neg hc7n] | rw [if_neg (not_not_intro hc7n)]); (try first | rw [if_pos hc8] | rw [if_neg hc8] | rw [if_neg (not_not_intro hc8)]); first | done | rfl | exact ofb _ _ _) hZ
    | exact qZ_of (by unfold ofS; rw [if_neg (not_not_intro hDD)]; (try rw [tN_nI (by omega)]); (try first | rw [if_pos hc1n] | rw [if_neg hc1n] | rw [if_neg (not_not_intro hc1n)]); (try first | rw [if_pos hc2n] | rw [if_neg hc2n] | rw [if_neg (not_not_intro hc2n)]); (try first | rw [if_pos hc3n] | rw [if_neg hc3n] | rw [if_neg (not_not_intro hc3n)]); (try first | rw [if_pos hc4n] | rw [if_neg hc4n] | rw [if_neg (not_not_intro hc4n)]); (try first | rw [if_pos hc5n] | rw [if_neg hc5n] | rw [if_neg (not_not_intro hc5n)]); (try first | rw [if_pos hc6n] | rw [if_neg hc6n] | rw [if_neg (not_not_intro hc6n)]); (try first | rw [if_pos hc7n] | rw [if_neg hc7n] | rw [if_neg (not_not_intro hc7n)]); (try first | rw [if_pos hc8] | rw [if_neg hc8] | rw [if_neg (not_not_intro hc8)]); first | done | rfl) (hZ.sc hE hS)
  refine ⟨fun hc9 => ?_, fun hc9n => ?_⟩
  · show GG _ _ _ _ _ _ _ _ _ _ _ _ _
    refine g_aload_0 hX (dk DX11_of_0 41 rfl) ?_
    refine g_getRs (r := 13) hX (dk DX11_of_0 42 rfl) KX11 fX11_26 (by decide) rfl (CLt hH (q := 0) (by decide)) (CC hH 0 (by decide) rfl) (CR hH 0 3 13 (by decide)) ?_
    refine g_aload_3 hX (dk DX11_of_0 43 rfl) ?_
    refine g_c2q hX sX11_of_139 (by decide) (Nat.le_of_ble_eq_true rfl) (rc0 rfl (CLt hH (by decide)) (CC hH 13 (by decide) rfl)) (by decide) (by decide) (e_saidOf hG hE hZ hd) ?_
    rintro _ J _ ⟨rfl, hS, rfl⟩
    obtain ⟨-, -, -, -, -, -, -, -, -, k10⟩ := (hZ.sc hE hS).1.d hd
    refine g_ireturn hX (dk DX11_of_0 45 rfl) rfl (rfl) (by decide) (by decide) ?_
    first
    | exact qZ_of (by unfold ofS; rw [if_neg (not_not_intro hDD)]; (try rw [tN_nI (by omega)]); (try first | rw [if_pos hc1n] | rw [if_neg hc1n] | rw [if_neg (not_not_intro hc1n)]); (try first | rw [if_pos hc2n] | rw [if_neg hc2n] | rw [if_neg (not_not_intro hc2n)]); (try first | rw [if_pos hc3n] | rw [if_neg hc3n] | rw [if_neg (not_not_intro hc3n)]); (try first | rw [if_pos hc4n] | rw [if_neg hc4n] | rw [if_neg (not_not_intro hc4n)]); (try first | rw [if_pos hc5n] | rw [if_neg hc5n] | rw [if_neg (not_not_intro hc5n)]); (try first | rw [if_pos hc6n] | rw [if_neg hc6n] | rw [if_neg (not_not_intro hc6n)]); (try first | rw [if_pos hc7n] | rw [if_neg hc7n] | rw [if_neg (not_not_intro hc7n)]); (try first | rw [if_pos hc8n] | rw [if_neg hc8n] | rw [if_neg (not_not_intro hc8n)]); (try first | rw [if_pos hc9] | rw [if_neg hc9] | rw [if_neg (not_not_intro hc9)]); first | done | rfl | exact ofb _ _ _) hZ
    | exact qZ_of (by unfold ofS; rw [if_neg (not_not_intro hDD)]; (try rw [tN_nI (by omega)]); (try first | rw [if_pos hc1n] | rw [if_neg hc1n] | rw [if_neg (not_not_intro hc1n)]); (try first | rw [if_pos hc2n] | rw [if_neg hc2n] | rw [if_neg (not_not_intro hc2n)]); (try first | rw [if_pos hc3n] | rw [if_neg hc3n] | rw [if_neg (not_not_intro hc3n)]); (try first | rw [if_pos hc4n] | rw [if_neg hc4n] | rw [if_neg (not_not_intro hc4n)]); (try first | rw [if_pos hc5n] | rw [if_neg hc5n] | rw [if_neg (not_not_intro hc5n)]); (try first | rw [if_pos hc6n] | rw [if_neg hc6n] | rw [if_neg (not_not_intro hc6n)]); (try first | rw [if_pos hc7n] | rw [if_neg hc7n] | rw [if_neg (not_not_intro hc7n)]); (try first | rw [if_pos hc8n] | rw [if_neg hc8n] | rw [if_neg (not_not_intro hc8n)]); (try first | rw [if_pos hc9] | rw [if_neg hc9] | rw [if_neg (not_not_intro hc9)]); first | done | rfl) (hZ.sc hE hS)
  refine ⟨fun hc10 => ?_, fun hc10n => ?_⟩
  · show GG _ _ _ _ _ _ _ _ _ _ _ _ _
    refine g_aload_0 hX (dk DX11_of_0 46 rfl) ?_
    refine g_getRs (r := 13) hX (dk DX11_of_0 47 rfl) KX11 fX11_26 (by decide) rfl (CLt hH (q := 0) (by decide)) (CC hH 0 (by decide) rfl) (CR hH 0 3 13 (by decide)) ?_
    refine g_aload_3 hX (dk DX11_of_0 48 rfl) ?_
    refine g_c2q hX sX11_of_148 (by decide) (Nat.le_of_ble_eq_true rfl) (rc0 rfl (CLt hH (by decide)) (CC hH 13 (by decide) rfl)) (by decide) (by decide) (e_saidOf hG hE hZ hd) ?_
    rintro _ J _ ⟨rfl, hS, rfl⟩
    obtain ⟨-, -, -, -, -, -, -, -, -, k10⟩ := (hZ.sc hE hS).1.d hd
    refine g_aload_3 hX (dk DX11_of_0 50 rfl) ?_
    refine g_getD (v := _) hX (dk DX11_of_0 51 rfl) fX11_106 (by decide) g3 (by rw [g4]; exact kcl_dc _) (k10) ?_
    refine g_icmp_lt (tgt := 162) hX (dk DX11_of_0 52 rfl) (by decide) (fun hc11 => ?_) (fun hc11 => ?_)
    · refine g_iconst (v := 0) hX (dk DX11_of_0 55 rfl) (by decide) ?_
      refine g_ireturn hX (dk DX11_of_0 56 rfl) rfl (rfl) (by decide) (by decide) ?_
      first
      | exact qZ_of (by unfold ofS; rw [if_neg (not_not_intro hDD)]; (try rw [tN_nI (by omega)]); (try first | rw [if_pos hc1n] | rw [if_neg hc1n] | rw [if_neg (not_not_intro hc1n)]); (try first | rw [if_pos hc2n] | rw [if_neg hc2n] | rw [if_neg (not_not_intro hc2n)]); (try first | rw [if_pos hc3n] | rw [if_neg hc3n] | rw [if_neg (not_not_intro hc3n)]); (try first | rw [if_pos hc4n] | rw [if_neg hc4n] | rw [if_neg (not_not_intro hc4n)]); (try first | rw [if_pos hc5n] | rw [if_neg hc5n] | rw [if_neg (not_not_intro hc5n)]); (try first | rw [if_pos hc6n] | rw [if_neg hc6n] | rw [if_neg (not_not_intro hc6n)]); (try first | rw [if_pos hc7n] | rw [if_neg hc7n] | rw [if_neg (not_not_intro hc7n)]); (try first | rw [if_pos hc8n] | rw [if_neg hc8n] | rw [if_neg (not_not_intro hc8n)]); (try first | rw [if_pos hc9n] | rw [if_neg hc9n] | rw [if_neg (not_not_intro hc9n)]); (try first | rw [if_pos hc10] | rw [if_neg hc10] | rw [if_neg (not_not_intro hc10)]); (try first | rw [if_pos hc11] | rw [if_neg hc11] | rw [if_neg (not_not_intro hc11)]); first | done | rfl | exact ofb _ _ _) hZ
      | exact qZ_of (by unfold ofS; rw [if_neg (not_not_intro hDD)]; (try rw [tN_nI (by omega)]); (try first | rw [if_pos hc1n] | rw [if_neg hc1n] | rw [if_neg (not_not_intro hc1n)]); (try first | rw [if_pos hc2n] | rw [if_neg hc2n] | rw [if_neg (not_not_intro hc2n)]); (try first | rw [if_pos hc3n] | rw [if_neg hc3n] | rw [if_neg (not_not_intro hc3n)]); (try first | rw [if_pos hc4n] | rw [if_neg hc4n] | rw [if_neg (not_not_intro hc4n)]); (try first | rw [if_pos hc5n] | rw [if_neg hc5n] | rw [if_neg (not_not_intro hc5n)]); (try first | rw [if_pos hc6n] | rw [if_neg hc6n] | rw [if_neg (not_not_intro hc6n)]); (try first | rw [if_pos hc7n] | rw [if_neg hc7n] | rw [if_neg (not_not_intro hc7n)]); (try first | rw [if_pos hc8n] | rw [if_neg hc8n] | rw [if_neg (not_not_intro hc8n)]); (try first | rw [if_pos hc9n] | rw [if_neg hc9n] | rw [if_neg (not_not_intro hc9n)]); (try first | rw [if_pos hc10] | rw [if_neg hc10] | rw [if_neg (not_not_intro hc10)]); (try first | rw [if_pos hc11] | rw [if_neg hc11] | rw [if_neg (not_not_intro hc11)]); first | done | rfl) (hZ.sc hE hS)
    · refine g_iconst (v := 1) hX (dk DX11_of_0 53 rfl) (by decide) ?_
      refine g_goto (tgt := 163) hX (dk DX11_of_0 54 rfl) (by decide) ?_
      refine g_ireturn hX (dk DX11_of_0 56 rfl) rfl (rfl) (by decide) (by decide) ?_
      first
      | exact qZ_of (by unfold ofS; rw [if_neg (not_not_intro hDD)]; (try rw [tN_nI (by omega)]); (try first | rw [if_pos hc1n] | rw [if_neg hc1n] | rw [if_neg (not_not_intro hc1n)]); (try first | rw [if_pos hc2n] | rw [if_neg hc2n] | rw [if_neg (not_not_intro hc2n)]); (try first | rw [if_pos hc3n] | rw [if_neg hc3n] | rw [if_neg (not_not_intro hc3n)]); (try first | rw [if_pos hc4n] | rw [if_neg hc4n] | rw [if_neg (not_not_intro hc4n)]); (try first | rw [if_pos hc5n] | rw [if_neg hc5n] | rw [if_neg (not_not_intro hc5n)]); (try first | rw [if_pos hc6n] | rw [if_neg hc6n] | rw [if_neg (not_not_intro hc6n)]); (try first | rw [if_pos hc7n] | rw [if_neg hc7n] | rw [if_neg (not_not_intro hc7n)]); (try first | rw [if_pos hc8n] | rw [if_neg hc8n] | rw [if_neg (not_not_intro hc8n)]); (try first | rw [if_pos hc9n] | rw [if_neg hc9n] | rw [if_neg (not_not_intro hc9n)]); (try first | rw [if_pos hc10] | rw [if_neg hc10] | rw [if_neg (not_not_intro hc10)]); (try first | rw [if_pos hc11] | rw [if_neg hc11] | rw [if_neg (not_not_intro hc11)]); first | done | rfl | exact ofb _ _ _) hZ
      | exact qZ_of (by unfold ofS; rw [if_neg (not_not_intro hDD)]; (try rw [tN_nI (by omega)]); (try first | rw [if_pos hc1n] | rw [if_neg hc1n] | rw [if_neg (not_not_intro hc1n)]); (try first | rw [if_pos hc2n] | rw [if_neg hc2n] | rw [if_neg (not_not_intro hc2n)]); (try first | rw [if_pos hc3n] | rw [if_neg hc3n] | rw [if_neg (not_not_intro hc3n)]); (try first | rw [if_pos hc4n] | rw [if_neg hc4n] | rw [if_neg (not_not_intro hc4n)]); (try first | rw [if_pos hc5n] | rw [if_neg hc5n] | rw [if_neg (not_not_intro hc5n)]); (try first | rw [if_pos hc6n] | rw [if_neg hc6n] | rw [if_neg (not_not_intro hc6n)]); (try first | rw [if_pos hc7n] | rw [if_neg hc7n] | rw [if_neg (not_not_intro hc7n)]); (try first | rw [if_pos hc8n] | rw [if_neg hc8n] | rw [if_neg (not_not_intro hc8n)]); (try first | rw [if_pos hc9n] | rw [if_neg hc9n] | rw [if_neg (not_not_intro hc9n)]); (try first | rw [if_pos hc10] | rw [if_neg hc10] | rw [if_neg (not_not_intro hc10)]); (try first | rw [if_pos hc11] | rw [if_neg hc11] | rw [if_neg (not_not_intro hc11)]); first | done | rfl) (hZ.sc hE hS)
  refine ⟨fun hc12 => ?_, fun hc12n => ?_⟩
  · show GG _ _ _ _ _ _ _ _ _ _ _ _ _
    refine g_aload_0 hX (dk DX11_of_0 57 rfl) ?_
    refine g_getRs (r := 1) hX (dk DX11_of_0 58 rfl) KX11 fX11_12 (by decide) rfl (CLt hH (q := 0) (by decide)) (CC hH 0 (by decide) rfl) (CR hH 0 0 1 (by decide)) ?_
    refine g_aload_3 hX (dk DX11_of_0 59 rfl) ?_
    refine g_aload_0 hX (dk DX11_of_1 0 rfl) ?_
    refine g_getRs (r := 1) hX (dk DX11_of_1 1 rfl) KX11 fX11_12 (by decide) rfl (CLt hH (q := 0) (by decide)) (CC hH 0 (by decide) rfl) (CR hH 0 0 1 (by decide)) ?_
    refine g_getIv hX (dk DX11_of_1 2 rfl) KX5 fX11_122 (by decide) rfl (CLt hH (q := 1) (by decide)) (CC hH 1 (by decide) rfl) (hY.2.1.1.2.1) ?_
    refine g_c3I hX sX11_of_176 (by decide) (Nat.le_of_ble_eq_true rfl) (rc0 rfl (CLt hH (by decide)) (CC hH 1 (by decide) rfl)) (by decide) (by decide) (c_X5_dearIn hG hW g3 (by rw [g4]; exact kcl_dc _)) ?_
    refine g_nmI (dearF E d (E 0 1)) (dear_e hE hZ hd) ?_
    refine g_ireturn hX (dk DX11_of_1 4 rfl) rfl (rfl) (by decide) (by decide) ?_
    first
    | exact qZ_of (by unfold ofS; rw [if_neg (not_not_intro hDD)]; (try rw [tN_nI (by omega)]); (try first | rw [if_pos hc1n] | rw [if_neg hc1n] | rw [if_neg (not_not_intro hc1n)]); (try first | rw [if_pos hc2n] | rw [if_neg hc2n] | rw [if_neg (not_not_intro hc2n)]); (try first | rw [if_pos hc3n] | rw [if_neg hc3n] | rw [if_neg (not_not_intro hc3n)]); (try first | rw [if_pos hc4n] | rw [if_neg hc4n] | rw [if_neg (not_not_intro hc4n)]); (try first | rw [if_pos hc5n] | rw [if_neg hc5n] | rw [if_neg (not_not_intro hc5n)]); (try first | rw [if_pos hc6n] | rw [if_neg hc6n] | rw [if_neg (not_not_intro hc6n)]); (try first | rw [if_pos hc7n] | rw [if_neg hc7n] | rw [if_neg (not_not_intro hc7n)]); (try first | rw [if_pos hc8n] | rw [if_neg hc8n] | rw [if_neg (not_not_intro hc8n)]); (try first | rw [if_pos hc9n] | rw [if_neg hc9n] | rw [if_neg (not_not_intro hc9n)]); (try first | rw [if_pos hc10n] | rw [if_neg hc10n] | rw [if_neg (not_not_intro hc10n)]); (try first | rw [if_pos hc12] | rw [if_neg hc12] | rw [if_neg (not_not_intro hc12)]); first | done | rfl | exact ofb _ _ _) hZ
    | exact qZ_of (by unfold ofS; rw [if_neg (not_not_intro hDD)]; (try rw [tN_nI (by omega)]); (try first | rw [if_pos hc1n] | rw [if_neg hc1n] | rw [if_neg (not_not_intro hc1n)]); (try first | rw [if_pos hc2n] | rw [if_neg hc2n] | rw [if_neg (not_not_intro hc2n)]); (try first | rw [if_pos hc3n] | rw [if_neg hc3n] | rw [if_neg (not_not_intro hc3n)]); (try first | rw [if_pos hc4n] | rw [if_neg hc4n] | rw [if_neg (not_not_intro hc4n)]); (try first | rw [if_pos hc5n] | rw [if_neg hc5n] | rw [if_neg (not_not_intro hc5n)]); (try first | rw [if_pos hc6n] | rw [if_neg hc6n] | rw [if_neg (not_not_intro hc6n)]); (try first | rw [if_pos hc7n] | rw [if_neg hc7n] | rw [if_neg (not_not_intro hc7n)]); (try first | rw [if_pos hc8n] | rw [if_neg hc8n] | rw [if_neg (not_not_intro hc8n)]); (try first | rw [if_pos hc9n] | rw [if_neg hc9n] | rw [if_neg (not_not_intro hc9n)]); (try first | rw [if_pos hc10n] | rw [if_neg hc10n] | rw [if_neg (not_not_intro hc10n)]); (try first | rw [if_pos hc12] | rw [if_neg hc12] | rw [if_neg (not_not_intro hc12)]); first | done | rfl) (hZ.sc hE hS)
  refine ⟨fun hc13 => ?_, fun hc13n => ?_⟩
  · show GG _ _ _ _ _ _ _ _ _ _ _ _ _
    refine g_aload_0 hX (dk DX11_of_1 5 rfl) ?_
    refine g_getRs (r := 1) hX (dk DX11_of_1 6 rfl) KX11 fX11_12 (by decide) rfl (CLt hH (q := 0) (by decide)) (CC hH 0 (by decide) rfl) (CR hH 0 0 1 (by decide)) ?_
    refine g_getRs (r := 3) hX (dk DX11_of_1 7 rfl) KX5 fX11_129 (by decide) rfl (CLt hH (q := 1) (by decide)) (CC hH 1 (by decide) rfl) (CR hH 1 1 3 (by decide)) ?_
    refine g_aload_3 hX (dk DX11_of_1 8 rfl) ?_
    refine g_getD (v := (nI d)) hX (dk DX11_of_1 9 rfl) fX11_132 (by decide) g3 (by rw [g4]; exact kcl_dc _) (g5) ?_
    refine v_iaload hX (dk DX11_of_1 10 rfl) (CLt hH (q := 3) (by decide)) (CS hH 3 (by decide) rfl) (⟨rfl, hd10, by decide⟩) (hY.2.1.2.1 d hd10) ?_
    refine g_ireturn hX (dk DX11_of_1 11 rfl) rfl (rfl) (by decide) (by decide) ?_
    first
    | exact qZ_of (by unfold ofS; rw [if_neg (not_not_intro hDD)]; (try rw [tN_nI (by omega)]); (try first | rw [if_pos hc1n] | rw [if_neg hc1n] | rw [if_neg (not_not_intro hc1n)]); (try first | rw [if_pos hc2n] | rw [if_neg hc2n] | rw [if_neg (not_not_intro hc2n)]); (try first | rw [if_pos hc3n] | rw [if_neg hc3n] | rw [if_neg (not_not_intro hc3n)]); (try first | rw [if_pos hc4n] | rw [if_neg hc4n] | rw [if_neg (not_not_intro hc4n)]); (try first | rw [if_pos hc5n] | rw [if_neg hc5n] | rw [if_neg (not_not_intro hc5n)]); (try first | rw [if_pos hc6n] | rw [if_neg hc6n] | rw [if_neg (not_not_intro hc6n)]); (try first | rw [if_pos hc7n] | rw [if_neg hc7n] | rw [if_neg (not_not_intro hc7n)]); (try first | rw [if_pos hc8n] | rw [if_neg hc8n] | rw [if_neg (not_not_intro hc8n)]); (try first | rw [if_pos hc9n] | rw [if_neg hc9n] | rw [if_neg (not_not_intro hc9n)]); (try first | rw [if_pos hc10n] | rw [if_neg hc10n] | rw [if_neg (not_not_intro hc10n)]); (try first | rw [if_pos hc12n] | rw [if_neg hc12n] | rw [if_neg (not_not_intro hc12n)]); (try first | rw [if_pos hc13] | rw [if_neg hc13] | rw [if_neg (not_not_intro hc13)]); first | done | rfl | exact ofb _ _ _) hZ
    | exact qZ_of (by unfold ofS; rw [if_neg (not_not_intro hDD)]; (try rw [tN_nI (by omega)]); (try first | rw [if_pos hc1n] | rw [if_neg hc1n] | rw [if_neg (not_not_intro hc1n)]); (try first | rw [if_pos hc2n] | rw [if_neg hc2n] | rw [if_neg (not_not_intro hc2n)]); (try first | rw [if_pos hc3n] | rw [if_neg hc3n] | rw [if_neg (not_not_intro hc3n)]); (try first | rw [if_pos hc4n] | rw [if_neg hc4n] | rw [if_neg (not_not_intro hc4n)]); (try first | rw [if_pos hc5n] | rw [if_neg hc5n] | rw [if_neg (not_not_intro hc5n)]); (try first | rw [if_pos hc6n] | rw [if_neg hc6n] | rw [if_neg (not_not_intro hc6n)]); (try first | rw [if_pos hc7n] | rw [if_neg hc7n] | rw [if_neg (not_not_intro hc7n)]); (try first | rw [if_pos hc8n] | rw [if_neg hc8n] | rw [if_neg (not_not_intro hc8n)]); (try first | rw [if_pos hc9n] | rw [if_neg hc9n] | rw [if_neg (not_not_intro hc9n)]); (try first | rw [if_pos hc10n] | rw [if_neg hc10n] | rw [if_neg (not_not_intro hc10n)]); (try first | rw [if_pos hc12n] | rw [if_neg hc12n] | rw [if_neg (not_not_intro hc12n)]); (try first | rw [if_pos hc13] | rw [if_neg hc13] | rw [if_neg (not_not_intro hc13)]); first | done | rfl) (hZ.sc hE hS)
  show GG _ _ _ _ _ _ _ _ _ _ _ _ _
  refine g_sipush (v := -10001) hX (dk DX11_of_1 12 rfl) (by decide) ?_
  refine g_ireturn hX (dk DX11_of_1 13 rfl) rfl (rfl) (by decide) (by decide) ?_
  first
  | exact qZ_of (by unfold ofS; rw [if_neg (not_not_intro hDD)]; (try rw [tN_nI (by omega)]); (try first | rw [if_pos hc1n] | rw [if_neg hc1n] | rw [if_neg (not_not_intro hc1n)]); (try first | rw [if_pos hc2n] | rw [if_neg hc2n] | rw [if_neg (not_not_intro hc2n)]); (try first | rw [if_pos hc3n] | rw [if_neg hc3n] | rw [if_neg (not_not_intro hc3n)]); (try first | rw [if_pos hc4n] | rw [if_neg hc4n] | rw [if_neg (not_not_intro hc4n)]); (try first | rw [if_pos hc5n] | rw [if_neg hc5n] | rw [if_neg (not_not_intro hc5n)]); (try first | rw [if_pos hc6n] | rw [if_neg hc6n] | rw [if_neg (not_not_intro hc6n)]); (try first | rw [if_pos hc7n] | rw [if_neg hc7n] | rw [if_neg (not_not_intro hc7n)]); (try first | rw [if_pos hc8n] | rw [if_neg hc8n] | rw [if_neg (not_not_intro hc8n)]); (try first | rw [if_pos hc9n] | rw [if_neg hc9n] | rw [if_neg (not_not_intro hc9n)]); (try first | rw [if_pos hc10n] | rw [if_neg hc10n] | rw [if_neg (not_not_intro hc10n)]); (try first | rw [if_pos hc12n] | rw [if_neg hc12n] | rw [if_neg (not_not_intro hc12n)]); (try first | rw [if_pos hc13n] | rw [if_neg hc13n] | rw [if_neg (not_not_intro hc13n)]); first | done | rfl | exact ofb _ _ _) hZ
  | exact qZ_of (by unfold ofS; rw [if_neg (not_not_intro hDD)]; (try rw [tN_nI (by omega)]); (try first | rw [if_pos hc1n] | rw [if_neg hc1n] | rw [if_neg (not_not_intro hc1n)]); (try first | rw [if_pos hc2n] | rw [if_neg hc2n] | rw [if_neg (not_not_intro hc2n)]); (try first | rw [if_pos hc3n] | rw [if_neg hc3n] | rw [if_neg (not_not_intro hc3n)]); (try first | rw [if_pos hc4n] | rw [if_neg hc4n] | rw [if_neg (not_not_intro hc4n)]); (try first | rw [if_pos hc5n] | rw [if_neg hc5n] | rw [if_neg (not_not_intro hc5n)]); (try first | rw [if_pos hc6n] | rw [if_neg hc6n] | rw [if_neg (not_not_intro hc6n)]); (try first | rw [if_pos hc7n] | rw [if_neg hc7n] | rw [if_neg (not_not_intro hc7n)]); (try first | rw [if_pos hc8n] | rw [if_neg hc8n] | rw [if_neg (not_not_intro hc8n)]); (try first | rw [if_pos hc9n] | rw [if_neg hc9n] | rw [if_neg (not_not_intro hc9n)]); (try first | rw [if_pos hc10n] | rw [if_neg hc10n] | rw [if_neg (not_not_intro hc10n)]); (try first | rw [if_pos hc12n] | rw [if_neg hc12n] | rw [if_neg (not_not_intro hc12n)]); (try first | rw [if_pos hc13n] | rw [if_neg hc13n] | rw [if_neg (not_not_intro hc13n)]); first | done | rfl) (hZ.sc hE hS)

set_option maxRecDepth 8000 in
set_option maxHeartbeats 4000000 in
theorem zz_of {G : Gt} (hG : Gok G) {I : It} {h : Ht}  {E : It} {L : Nat → Int64} (hE : Inv E) (hZ : RZ E L I h) {a : Int32} (hno : ¬ isD E a) {w : Int32} : Con G (8) 0 0 mX11_of [.ref 0, .int a, .int w] I h (qZ (ofS E a w) L (hn h)) := by
  refine con_intro (own := RX11) (lo0 := [some (.ref 0), some (.int a), some (.int w), none]) hG rfl pl_X11 (Nat.le_of_ble_eq_true rfl) rfl (fun X hX => ?_)
  have hY := hZ.1
  have hW := hY.wx hE
  have hH := hW.1
  have hc10 := hW.2.1.2
  have hcE := (inv_cnt hE).2
  refine g_aload_0 hX (dk DX11_of_0 0 rfl) ?_
  refine g_getRs (r := 1) hX (dk DX11_of_0 1 rfl) KX11 fX11_12 (by decide) rfl (CLt hH (q := 0) (by decide)) (CC hH 0 (by decide) rfl) (CR hH 0 0 1 (by decide)) ?_
  refine g_iload_1 hX (dk DX11_of_0 2 rfl) ?_
  refine g_c2R hX sX11_of_5 (by decide) (Nat.le_of_ble_eq_true rfl) (rc0 rfl (CLt hH (by decide)) (CC hH 1 (by decide) rfl)) (by decide) (by decide) (c_X5_find0 hG hW (hY.no hE hno)) ?_
  refine g_astoreN_3 hX (dk DX11_of_0 4 rfl) (by decide) rfl ?_
  refine g_aloadN_3 hX (dk DX11_of_0 5 rfl) ?_
  refine g_ifnonnullN hX (dk DX11_of_0 6 rfl) ?_
  refine g_sipush (v := -10001) hX (dk DX11_of_0 7 rfl) (by decide) ?_
  refine g_ireturn hX (dk DX11_of_0 8 rfl) rfl (rfl) (by decide) (by decide) ?_
  exact qZ_of (by unfold ofS; rw [if_pos hno]) hZ

theorem zx_of {G : Gt} (hG : Gok G) {I : It} {h : Ht} {E : It} {L : Nat → Int64} (hE : Inv E) (hZ : RZ E L I h) {a : Int32} {w : Int32} : Con G 8 0 0 mX11_of [.ref 0, .int a, .int w] I h (qZ (ofS E a w) L (hn h)) := by
  by_cases hh : isD E a
  · obtain ⟨d, hd, rfl⟩ := isD_of hE hh
    exact zy_of hG hE hZ hd (w := w)
  · exact zz_of hG hE hZ hh (w := w)
