set_option maxRecDepth 8000 in
set_option maxHeartbeats 4000000 in
theorem zy_learn {G : Gt} (hG : Gok G) {I : It} {h : Ht}  {E : It} {L : Nat → Int64} (hE : Inv E) (hZ : RZ E L I h) {d : Nat} (hd : d < cnt E) {z : Int32} : Con G (3) 0 0 mX11_learn [.ref 0, .int (nI d), .int z] I h (qZ (learnS E (nI d) z) L (hn h)) := by
  refine con_intro (own := RX11) (lo0 := [some (.ref 0), some (.int (nI d)), some (.int z), none]) hG rfl pl_X11 (Nat.le_of_ble_eq_true rfl) rfl (fun X hX => ?_)
  have hY := hZ.1
  have hW := hY.wx hE
  have hH := hW.1
  have hc10 := hW.2.1.2
  have hcE := (inv_cnt hE).2
  have hd10 : d < 10 := Nat.lt_of_lt_of_le hd (inv_cnt hE).2
  have hcd : d < cN I := by rw [hY.cn]; exact hd
  have hDD := isD_mk hE hd
  obtain ⟨g1, g2, g3, g4, g5, g6, g7, g8, g9, g10⟩ := hY.d hd
  refine g_aload_0 hX (dk DX11_learn 0 rfl) ?_
  refine g_getRs (r := 1) hX (dk DX11_learn 1 rfl) KX11 fX11_12 (by decide) rfl (CLt hH (q := 0) (by decide)) (CC hH 0 (by decide) rfl) (CR hH 0 0 1 (by decide)) ?_
  refine g_iload_1 hX (dk DX11_learn 2 rfl) ?_
  refine g_c2R hX sX11_learn_5 (by decide) (Nat.le_of_ble_eq_true rfl) (rc0 rfl (CLt hH (by decide)) (CC hH 1 (by decide) rfl)) (by decide) (by decide) (c_X5_find hG hW (by exact hcd)) ?_
  refine g_ifnonnull (tgt := 13) hX (dk DX11_learn 4 rfl) (by decide) ?_
  refine g_aload_0 hX (dk DX11_learn 7 rfl) ?_
  refine g_getRs (r := 1) hX (dk DX11_learn 8 rfl) KX11 fX11_12 (by decide) rfl (CLt hH (q := 0) (by decide)) (CC hH 0 (by decide) rfl) (CR hH 0 0 1 (by decide)) ?_
  refine g_getIv hX (dk DX11_learn 9 rfl) KX5 fX11_116 (by decide) rfl (CLt hH (q := 1) (by decide)) (CC hH 1 (by decide) rfl) (hZ.2.1.1) ?_
  refine g_iload_1 hX (dk DX11_learn 10 rfl) ?_
  refine g_c2I hX sX11_learn_21 (by decide) (Nat.le_of_ble_eq_true rfl) rcN (by decide) (by decide) (c_X11_bit hG ) ?_
  refine g_istore_3 hX (dk DX11_learn 12 rfl) (by decide) rfl ?_
  refine g_aload_0 hX (dk DX11_learn 13 rfl) ?_
  refine g_getRs (r := 1) hX (dk DX11_learn 14 rfl) KX11 fX11_12 (by decide) rfl (CLt hH (q := 0) (by decide)) (CC hH 0 (by decide) rfl) (CR hH 0 0 1 (by decide)) ?_
  refine g_aload_0 hX (dk DX11_learn 15 rfl) ?_
  refine g_getRs (r := 1) hX (dk DX11_learn 16 rfl) KX11 fX11_12 (by decide) rfl (CLt hH (q := 0) (by decide)) (CC hH 0 (by decide) rfl) (CR hH 0 0 1 (by decide)) ?_
  refine g_getIv hX (dk DX11_learn 17 rfl) KX5 fX11_116 (by decide) rfl (CLt hH (q := 1) (by decide)) (CC hH 1 (by decide) rfl) (hZ.2.1.1) ?_
  refine g_iload_1 hX (dk DX11_learn 18 rfl) ?_
  refine g_iload_2 hX (dk DX11_learn 19 rfl) ?_
  refine g_c3I hX sX11_learn_38 (by decide) (Nat.le_of_ble_eq_true rfl) rcN (by decide) (by decide) (c_X11_withBit hG ) ?_
  refine g_putI hX (dk DX11_learn 21 rfl) KX5 fX11_116 (by decide) rfl (CLt hH (q := 1) (by decide)) (CC hH 1 (by decide) rfl) (Or.inl rfl) (rfl) (rfl) ?_
  refine g_iload_3 hX (dk DX11_learn 22 rfl) ?_
  refine g_ireturn hX (dk DX11_learn 23 rfl) rfl (rfl) (by decide) (by decide) ?_
  exact qZ_of (learn_z hDD) (by exact hZ.wK)

set_option maxRecDepth 8000 in
set_option maxHeartbeats 4000000 in
theorem zz_learn {G : Gt} (hG : Gok G) {I : It} {h : Ht}  {E : It} {L : Nat → Int64} (hE : Inv E) (hZ : RZ E L I h) {a : Int32} (hno : ¬ isD E a) {z : Int32} : Con G (3) 0 0 mX11_learn [.ref 0, .int a, .int z] I h (qZ (learnS E a z) L (hn h)) := by
  refine con_intro (own := RX11) (lo0 := [some (.ref 0), some (.int a), some (.int z), none]) hG rfl pl_X11 (Nat.le_of_ble_eq_true rfl) rfl (fun X hX => ?_)
  have hY := hZ.1
  have hW := hY.wx hE
  have hH := hW.1
  have hc10 := hW.2.1.2
  have hcE := (inv_cnt hE).2
  refine g_aload_0 hX (dk DX11_learn 0 rfl) ?_
  refine g_getRs (r := 1) hX (dk DX11_learn 1 rfl) KX11 fX11_12 (by decide) rfl (CLt hH (q := 0) (by decide)) (CC hH 0 (by decide) rfl) (CR hH 0 0 1 (by decide)) ?_
  refine g_iload_1 hX (dk DX11_learn 2 rfl) ?_
  refine g_c2R hX sX11_learn_5 (by decide) (Nat.le_of_ble_eq_true rfl) (rc0 rfl (CLt hH (by decide)) (CC hH 1 (by decide) rfl)) (by decide) (by decide) (c_X5_find0 hG hW (hY.no hE hno)) ?_
  refine g_ifnonnullN hX (dk DX11_learn 4 rfl) ?_
  refine g_iconst (v := -1) hX (dk DX11_learn 5 rfl) (by decide) ?_
  refine g_ireturn hX (dk DX11_learn 6 rfl) rfl (rfl) (by decide) (by decide) ?_
  exact qZ_of (by unfold learnS; rw [if_pos hno]) hZ

theorem zx_learn {G : Gt} (hG : Gok G) {I : It} {h : Ht} {E : It} {L : Nat → Int64} (hE : Inv E) (hZ : RZ E L I h) {a : Int32} {z : Int32} : Con G 3 0 0 mX11_learn [.ref 0, .int a, .int z] I h (qZ (learnS E a z) L (hn h)) := by
  by_cases hh : isD E a
  · obtain ⟨d, hd, rfl⟩ := isD_of hE hh
    exact zy_learn hG hE hZ hd (z := z)
  · exact zz_learn hG hE hZ hh (z := z)
set_option maxRecDepth 8000 in
set_option maxHeartbeats 4000000 in
theorem zx_told {G : Gt} (hG : Gok G) {I : It} {h : Ht}  {E : It} {L : Nat → Int64} (hE : Inv E) (hZ : RZ E L I h) {w : Int32} : Con G (3) 0 0 mX11_told [.ref 0, .int w] I h (qZ (toldS E w) L (hn h)) := by
  refine con_intro (own := RX11) (lo0 := [some (.ref 0), some (.int w)]) hG rfl pl_X11 (Nat.le_of_ble_eq_true rfl) rfl (fun X hX => ?_)
  have hY := hZ.1
  have hW := hY.wx hE
  have hH := hW.1
  have hc10 := hW.2.1.2
  have hcE := (inv_cnt hE).2
  refine g_iload_1 hX (dk DX11_told 0 rfl) ?_
  refine g_tswitch (dt := 88) hX [(0, 40), (1, 48), (2, 56), (3, 64), (4, 72), (5, 80)] (dk DX11_told 1 rfl) (by decide +kernel) ?_
  refine ⟨fun hc1 => ?_, fun hc1n => ?_⟩
  · show GG _ _ _ _ _ _ _ _ _ _ _ _ _
    refine g_aload_0 hX (dk DX11_told 2 rfl) ?_
    refine g_getRs (r := 1) hX (dk DX11_told 3 rfl) KX11 fX11_12 (by decide) rfl (CLt hH (q := 0) (by decide)) (CC hH 0 (by decide) rfl) (CR hH 0 0 1 (by decide)) ?_
    refine g_c1I hX sX11_told_44 (by decide) (Nat.le_of_ble_eq_true rfl) (rc0 rfl (CLt hH (by decide)) (CC hH 1 (by decide) rfl)) (by decide) (by decide) (c_X5_callsAtFirst hG hW) ?_
    refine g_nmI (callF E) (ca_e hE hZ).1 ?_
    refine g_ireturn hX (dk DX11_told 5 rfl) rfl (rfl) (by decide) (by decide) ?_
    exact qZ_of (by unfold toldS; rw [if_neg (fun z => absurd z.1 (by rw [show w = 0 by assumption]; decide))]; (try first | rw [if_pos hc1] | rw [if_neg hc1] | rw [if_neg (not_not_intro hc1)]); first | done | rfl) hZ
  refine ⟨fun hc2 => ?_, fun hc2n => ?_⟩
  · show GG _ _ _ _ _ _ _ _ _ _ _ _ _
    refine g_aload_0 hX (dk DX11_told 6 rfl) ?_
    refine g_getRs (r := 1) hX (dk DX11_told 7 rfl) KX11 fX11_12 (by decide) rfl (CLt hH (q := 0) (by decide)) (CC hH 0 (by decide) rfl) (CR hH 0 0 1 (by decide)) ?_
    refine g_c1I hX sX11_told_52 (by decide) (Nat.le_of_ble_eq_true rfl) (rc0 rfl (CLt hH (by decide)) (CC hH 1 (by decide) rfl)) (by decide) (by decide) (c_X5_callsFading hG hW) ?_
    refine g_nmI (fadeF E) (ca_e hE hZ).2 ?_
    refine g_ireturn hX (dk DX11_told 9 rfl) rfl (rfl) (by decide) (by decide) ?_
    exact qZ_of (by unfold toldS; rw [if_neg (fun z => absurd z.1 (by rw [show w = 1 by assumption]; decide))]; (try first | rw [if_pos hc1n] | rw [if_neg hc1n] | rw [if_neg (not_not_intro hc1n)]); (try first | rw [if_pos hc2] | rw [if_neg hc2] | rw [if_neg (not_not_intro hc2)]); first | done | rfl) hZ
  refine ⟨fun hc3 => ?_, fun hc3n => ?_⟩
  · show GG _ _ _ _ _ _ _ _ _ _ _ _ _
    refine g_aload_0 hX (dk DX11_told 10 rfl) ?_
    refine g_getRs (r := 1) hX (dk DX11_told 11 rfl) KX11 fX11_12 (by decide) rfl (CLt hH (q := 0) (by decide)) (CC hH 0 (by decide) rfl) (CR hH 0 0 1 (by decide)) ?_
    refine g_getIv hX (dk DX11_told 12 rfl) KX5 fX11_122 (by decide) rfl (CLt hH (q := 1) (by decide)) (CC hH 1 (by decide) rfl) (hY.2.1.1.2.1) ?_
    refine g_ireturn hX (dk DX11_told 13 rfl) rfl (rfl) (by decide) (by decide) ?_
    exact qZ_of (by unfold toldS; rw [if_neg (fun z => absurd z.1 (by rw [show w = 2 by assumption]; decide))]; (try first | rw [if_pos hc1n] | rw [if_neg hc1n] | rw [if_neg (not_not_intro hc1n)]); (try first | rw [if_pos hc2n] | rw [if_neg hc2n] | rw [if_neg (not_not_intro hc2n)]); (try first | rw [if_pos hc3] | rw [if_neg hc3] | rw [if_neg (not_not_intro hc3)]); first | done | rfl) hZ
  refine ⟨fun hc4 => ?_, fun hc4n => ?_⟩
  · show GG _ _ _ _ _ _ _ _ _ _ _ _ _
    refine g_aload_0 hX (dk DX11_told 14 rfl) ?_
    refine g_getRs (r := 1) hX (dk DX11_told 15 rfl) KX11 fX11_12 (by decide) rfl (CLt hH (q := 0) (by decide)) (CC hH 0 (by decide) rfl) (CR hH 0 0 1 (by decide)) ?_
    refine g_getIv hX (dk DX11_told 16 rfl) KX5 fX11_162 (by decide) rfl (CLt hH (q := 1) (by decide)) (CC hH 1 (by decide) rfl) (hZ.2.1.2.1) ?_
    refine g_ireturn hX (dk DX11_told 17 rfl) rfl (rfl) (by decide) (by decide) ?_
    exact qZ_of (by unfold toldS; rw [if_neg (fun z => absurd z.1 (by rw [show w = 3 by assumption]; decide))]; (try first | rw [if_pos hc1n] | rw [if_neg hc1n] | rw [if_neg (not_not_intro hc1n)]); (try first | rw [if_pos hc2n] | rw [if_neg hc2n] | rw [if_neg (not_not_intro hc2n)]); (try first | rw [if_pos hc3n] | rw [if_neg hc3n] | rw [if_neg (not_not_intro hc3n)]); (try first | rw [if_pos hc4] | rw [if_neg hc4] | rw [if_neg (not_not_intro hc4)]); first | done | rfl) hZ
  refine ⟨fun hc5 => ?_, fun hc5n => ?_⟩
  · show GG _ _ _ _ _ _ _ _ _ _ _ _ _
    refine g_aload_0 hX (dk DX11_told 18 rfl) ?_
    refine g_getRs (r := 1) hX (dk DX11_told 19 rfl) KX11 fX11_12 (by decide) rfl (CLt hH (q := 0) (by decide)) (CC hH 0 (by decide) rfl) (CR hH 0 0 1 (by decide)) ?_
    refine g_getIv hX (dk DX11_told 20 rfl) KX5 fX11_165 (by decide) rfl (CLt hH (q := 1) (by decide)) (CC hH 1 (by decide) rfl) (hZ.2.1.2.2.1) ?_
    refine g_ireturn hX (dk DX11_told 21 rfl) rfl (rfl) (by decide) (by decide) ?_
    exact qZ_of (by unfold toldS; rw [if_neg (fun z => absurd z.1 (by rw [show w = 4 by assumption]; decide))]; (try first | rw [if_pos hc1n] | rw [if_neg hc1n] | rw [if_neg (not_not_intro hc1n)]); (try first | rw [if_pos hc2n] | rw [if_neg hc2n] | rw [if_neg (not_not_intro hc2n)]); (try first | rw [if_pos hc3n] | rw [if_neg hc3n] | rw [if_neg (not_not_intro hc3n)]); (try first | rw [if_pos hc4n] | rw [if_neg hc4n] | rw [if_neg (not_not_intro hc4n)]); (try first | rw [if_pos hc5] | rw [if_neg hc5] | rw [if_neg (not_not_intro hc5)]); first | done | rfl) hZ
  refine ⟨fun hc6 => ?_, fun hc6n => ?_⟩
  · show GG _ _ _ _ _ _ _ _ _ _ _ _ _
    refine g_aload_0 hX (dk DX11_told 22 rfl) ?_
    refine g_getRs (r := 1) hX (dk DX11_told 23 rfl) KX11 fX11_12 (by decide) rfl (CLt hH (q := 0) (by decide)) (CC hH 0 (by decide) rfl) (CR hH 0 0 1 (by decide)) ?_
    refine g_getIv hX (dk DX11_told 24 rfl) KX5 fX11_168 (by decide) rfl (CLt hH (q := 1) (by decide)) (CC hH 1 (by decide) rfl) (hZ.2.1.2.2.2) ?_
    refine g_ireturn hX (dk DX11_told 25 rfl) rfl (rfl) (by decide) (by decide) ?_
    exact qZ_of (by unfold toldS; rw [if_neg (fun z => absurd z.1 (by rw [show w = 5 by assumption]; decide))]; (try first | rw [if_pos hc1n] | rw [if_neg hc1n] | rw [if_neg (not_not_intro hc1n)]); (try first | rw [if_pos hc2n] | rw [if_neg hc2n] | rw [if_neg (not_not_intro hc2n)]); (try first | rw [if_pos hc3n] | rw [if_neg hc3n] | rw [if_neg (not_not_intro hc3n)]); (try first | rw [if_pos hc4n] | rw [if_neg hc4n] | rw [if_neg (not_not_intro hc4n)]); (try first | rw [if_pos hc5n] | rw [if_neg hc5n] | rw [if_neg (not_not_intro hc5n)]); (try first | rw [if_pos hc6] | rw [if_neg hc6] | rw [if_neg (not_not_intro hc6)]); first | done | rfl) hZ
  show GG _ _ _ _ _ _ _ _ _ _ _ _ _
  refine g_iload_1 hX (dk DX11_told 26 rfl) ?_
  refine g_bipush (v := 10) hX (dk DX11_told 27 rfl) (by decide) ?_
  refine g_bipush (v := 13) hX (dk DX11_told 28 rfl) (by decide) ?_
  refine g_c3I hX sX11_told_93 (by decide) (Nat.le_of_ble_eq_true rfl) rcN (by decide) (by decide) (c_X11_isNot hG ) ?_
  refine g_ifb_eq (tgt := 103) hX (dk DX11_told 30 rfl) (by decide) (fun hc8 => ?_) (fun hc8 => ?_)
  · have hw := Decidable.not_not.mp hc8
    obtain ⟨y, hy1, hy2, rfl⟩ := in1_of (c := 10) (b := 13) (by decide) (by decide) hw
    refine g_aload_0 hX (dk DX11_told 33 rfl) ?_
    refine g_getRs (r := 1) hX (dk DX11_told 34 rfl) KX11 fX11_12 (by decide) rfl (CLt hH (q := 0) (by decide)) (CC hH 0 (by decide) rfl) (CR hH 0 0 1 (by decide)) ?_
    refine g_getRs (r := 4) hX (dk DX11_told 35 rfl) KX5 fX11_139 (by decide) rfl (CLt hH (q := 1) (by decide)) (CC hH 1 (by decide) rfl) (CR hH 1 5 4 (by decide)) ?_
    refine g_iload_1 hX (dk DX11_told 36 rfl) ?_
    refine g_bipush (v := 10) hX (dk DX11_told 37 rfl) (by decide) ?_
    refine g_isub hX (dk DX11_told 38 rfl) ?_
    refine g_nmI (nI (y - 10)) (pk_sub (a := y) (b := 10) hy1) ?_
    refine v_iaload hX (dk DX11_told 39 rfl) (CLt hH (q := 4) (by decide)) (CS hH 4 (by decide) rfl) (⟨rfl, by omega, by decide⟩) (hY.2.1.2.2.1 (y - 10) (by omega)) ?_
    refine g_ireturn hX (dk DX11_told 40 rfl) rfl (rfl) (by decide) (by decide) ?_
    first
    | exact qZ_of (by unfold toldS; rw [if_pos hw, show nI y - 10 = nI (y - 10) from pk_sub (a := y) (b := 10) hy1, tN_nI (by omega)]) hZ
    | exact qZ_of (by unfold toldS; (try first | rw [if_pos hc1n] | rw [if_neg hc1n] | rw [if_neg (not_not_intro hc1n)]); (try first | rw [if_pos hc2n] | rw [if_neg hc2n] | rw [if_neg (not_not_intro hc2n)]); (try first | rw [if_pos hc3n] | rw [if_neg hc3n] | rw [if_neg (not_not_intro hc3n)]); (try first | rw [if_pos hc4n] | rw [if_neg hc4n] | rw [if_neg (not_not_intro hc4n)]); (try first | rw [if_pos hc5n] | rw [if_neg hc5n] | rw [if_neg (not_not_intro hc5n)]); (try first | rw [if_pos hc6n] | rw [if_neg hc6n] | rw [if_neg (not_not_intro hc6n)]); (try first | rw [if_pos hc8] | rw [if_neg hc8] | rw [if_neg (not_not_intro hc8)]); first | done | rfl) hZ
  · refine g_iconst (v := -1) hX (dk DX11_told 31 rfl) (by decide) ?_
    refine g_goto (tgt := 115) hX (dk DX11_told 32 rfl) (by decide) ?_
    refine g_ireturn hX (dk DX11_told 40 rfl) rfl (rfl) (by decide) (by decide) ?_
    first
    | exact qZ_of (by unfold toldS; rw [if_pos hw, show nI y - 10 = nI (y - 10) from pk_sub (a := y) (b := 10) hy1, tN_nI (by omega)]) hZ
    | exact qZ_of (by unfold toldS; (try first | rw [if_pos hc1n] | rw [if_neg hc1n] | rw [if_neg (not_not_intro hc1n)]); (try first | rw [if_pos hc2n] | rw [if_neg hc2n] | rw [if_neg (not_not_intro hc2n)]); (try first | rw [if_pos hc3n] | rw [if_neg hc3n] | rw [if_neg (not_not_intro hc3n)]); (try first | rw [if_pos hc4n] | rw [if_neg hc4n] | rw [if_neg (not_not_intro hc4n)]); (try first | rw [if_pos hc5n] | rw [if_neg hc5n] | rw [if_neg (not_not_intro hc5n)]); (try first | rw [if_pos hc6n] | rw [if_neg hc6n] | rw [if_neg (not_not_intro hc6n)]); (try first | rw [if_pos hc8] | rw [if_neg hc8] | rw [if_neg (not_not_intro hc8)]); first | done | rfl) hZ

set_option maxRecDepth 8000 in
set_option maxHeartbeats 4000000 in
theorem zy_said {G : Gt} (hG : Gok G) {I : It} {h : Ht}  {E : It} {L : Nat → Int64} (hE : Inv E) (hZ : RZ E L I h) {d : Nat} (hd : d < cnt E) {y : Int32} : Con G (6) 0 0 mX11_said [.ref 0, .int (nI d), .int y] I h (qZ (saidS E (nI d) y) L (hn h)) := by
  refine con_intro (own := RX11) (lo0 := [some (.ref 0), some (.int (nI d)), some (.int y), none]) hG rfl pl_X11 (Nat.le_of_ble_eq_true rfl) rfl (fun X hX => ?_)
  have hY := hZ.1
  have hW := hY.wx hE
  have hH := hW.1
  have hc10 := hW.2.1.2
  have hcE := (inv_cnt hE).2
  have hd10 : d < 10 := Nat.lt_of_lt_of_le hd (inv_cnt hE).2
  have hcd : d < cN I := by rw [hY.cn]; exact hd
  have hDD := isD_mk hE hd
  obtain ⟨g1, g2, g3, g4, g5, g6, g7, g8, g9, g10⟩ := hY.d hd
  refine g_aload_0 hX (dk DX11_said 0 rfl) ?_
  refine g_getRs (r := 1) hX (dk DX11_said 1 rfl) KX11 fX11_12 (by decide) rfl (CLt hH (q := 0) (by decide)) (CC hH 0 (by decide) rfl) (CR hH 0 0 1 (by decide)) ?_
  refine g_iload_1 hX (dk DX11_said 2 rfl) ?_
  refine g_c2R hX sX11_said_5 (by decide) (Nat.le_of_ble_eq_true rfl) (rc0 rfl (CLt hH (by decide)) (CC hH 1 (by decide) rfl)) (by decide) (by decide) (c_X5_find hG hW (by exact hcd)) ?_
  refine g_astore_3 hX (dk DX11_said 4 rfl) (by decide) rfl ?_
  refine g_aload_3 hX (dk DX11_said 5 rfl) ?_
  refine g_ifnullR hX (dk DX11_said 6 rfl) ?_
  refine g_iload_2 hX (dk DX11_said 7 rfl) ?_
  refine g_iconst (v := 0) hX (dk DX11_said 8 rfl) (by decide) ?_
  refine g_iconst (v := 3) hX (dk DX11_said 9 rfl) (by decide) ?_
  refine g_c3I hX sX11_said_16 (by decide) (Nat.le_of_ble_eq_true rfl) rcN (by decide) (by decide) (c_X11_isNot hG ) ?_
  refine g_ifb_eq (tgt := 24) hX (dk DX11_said 11 rfl) (by decide) (fun hc1 => ?_) (fun hc1 => ?_)
  · refine g_aload_0 hX (dk DX11_said 14 rfl) ?_
    refine g_getRs (r := 1) hX (dk DX11_said 15 rfl) KX11 fX11_12 (by decide) rfl (CLt hH (q := 0) (by decide)) (CC hH 0 (by decide) rfl) (CR hH 0 0 1 (by decide)) ?_
    refine g_aload_3 hX (dk DX11_said 16 rfl) ?_
    refine g_iload_2 hX (dk DX11_said 17 rfl) ?_
    refine g_c3I hX sX11_said_30 (by decide) (Nat.le_of_ble_eq_true rfl) (rc0 rfl (CLt hH (by decide)) (CC hH 1 (by decide) rfl)) (by decide) (by decide) (c_X5_saidBy hG hW g3 (by rw [g4]; exact kcl_dc _)) ?_
    refine g_nmI (sayF E d y) (say_e hE hZ hd) ?_
    refine g_ireturn hX (dk DX11_said 19 rfl) rfl (rfl) (by decide) (by decide) ?_
    exact qZ_of (by unfold saidS; rw [if_neg (not_not_intro hDD)]; (try rw [tN_nI (by omega)]); (try first | rw [if_pos hc1] | rw [if_neg hc1] | rw [if_neg (not_not_intro hc1)]); first | done | rfl) hZ
  · refine g_iconst (v := -1) hX (dk DX11_said 12 rfl) (by decide) ?_
    refine g_ireturn hX (dk DX11_said 13 rfl) rfl (rfl) (by decide) (by decide) ?_
    exact qZ_of (by unfold saidS; rw [if_neg (not_not_intro hDD)]; (try rw [tN_nI (by omega)]); (try first | rw [if_pos hc1] | rw [if_neg hc1] | rw [if_neg (not_not_intro hc1)]); first | done | rfl) hZ

set_option maxRecDepth 8000 in
set_option maxHeartbeats 4000000 in
theorem zz_said {G : Gt} (hG : Gok G) {I : It} {h : Ht}  {E : It} {L : Nat → Int64} (hE : Inv E) (hZ : RZ E L I h) {a : Int32} (hno : ¬ isD E a) {y : Int32} : Con G (6) 0 0 mX11_said [.ref 0, .int a, .int y] I h (qZ (saidS E a y) L (hn h)) := by
  refine con_intro (own := RX11) (lo0 := [some (.ref 0), some (.int a), some (.int y), none]) hG rfl pl_X11 (Nat.le_of_ble_eq_true rfl) rfl (fun X hX => ?_)
  have hY := hZ.1
  have hW := hY.wx hE
  have hH := hW.1
  have hc10 := hW.2.1.2
  have hcE := (inv_cnt hE).2
  refine g_aload_0 hX (dk DX11_said 0 rfl) ?_
  refine g_getRs (r := 1) hX (dk DX11_said 1 rfl) KX11 fX11_12 (by decide) rfl (CLt hH (q := 0) (by decide)) (CC hH 0 (by decide) rfl) (CR hH 0 0 1 (by decide)) ?_
  refine g_iload_1 hX (dk DX11_said 2 rfl) ?_
  refine g_c2R hX sX11_said_5 (by decide) (Nat.le_of_ble_eq_true rfl) (rc0 rfl (CLt hH (by decide)) (CC hH 1 (by decide) rfl)) (by decide) (by decide) (c_X5_find0 hG hW (hY.no hE hno)) ?_
  refine g_astoreN_3 hX (dk DX11_said 4 rfl) (by decide) rfl ?_
  refine g_aloadN_3 hX (dk DX11_said 5 rfl) ?_
  refine g_ifnull (tgt := 22) hX (dk DX11_said 6 rfl) (by decide) ?_
  refine g_iconst (v := -1) hX (dk DX11_said 12 rfl) (by decide) ?_
  refine g_ireturn hX (dk DX11_said 13 rfl) rfl (rfl) (by decide) (by decide) ?_
  exact qZ_of (by unfold saidS; rw [if_pos hno]) hZ

theorem zx_said {G : Gt} (hG : Gok G) {I : It} {h : Ht} {E : It} {L : Nat → Int64} (hE : Inv E) (hZ : RZ E L I h) {a : Int32} {y : Int32} : Con G 6 0 0 mX11_said [.ref 0, .int a, .int y] I h (qZ (saidS E a y) L (hn h)) := by
  by_cases hh : isD E a
  · obtain ⟨d, hd, rfl⟩ := isD_of hE hh
    exact zy_said hG hE hZ hd (y := y)
  · exact zz_said hG hE hZ hh (y := y)
set_option maxRecDepth 8000 in
set_option maxHeartbeats 4000000 in
theorem zx_feed {G : Gt} (hG : Gok G) {I : It} {h : Ht}  {E : It} {L : Nat → Int64} (hE : Inv E) (hZ : RZ E L I h) {s : Int32} : Con G (2) 0 0 mX11_feed [.ref 0, .int s] I h (qZ (feedS E s) L (hn h)) := by
  refine con_intro (own := RX11) (lo0 := [some (.ref 0), some (.int s)]) hG rfl pl_X11 (Nat.le_of_ble_eq_true rfl) rfl (fun X hX => ?_)
  have hY := hZ.1
  have hW := hY.wx hE
  have hH := hW.1
  have hc10 := hW.2.1.2
  have hcE := (inv_cnt hE).2
  refine g_iload_1 hX (dk DX11_feed 0 rfl) ?_
  refine g_iconst (v := 0) hX (dk DX11_feed 1 rfl) (by decide) ?_
  refine g_bipush (v := 127) hX (dk DX11_feed 2 rfl) (by decide) ?_
  refine g_c3I hX sX11_feed_4 (by decide) (Nat.le_of_ble_eq_true rfl) rcN (by decide) (by decide) (c_X11_isNot hG ) ?_
  refine g_ifb_eq (tgt := 13) hX (dk DX11_feed 4 rfl) (by decide) (fun hc1 => ?_) (fun hc1 => ?_)
  · obtain ⟨q, hq, rfl⟩ := in_of (b := 127) (by decide) (Decidable.not_not.mp hc1)
    refine g_aload_0 hX (dk DX11_feed 7 rfl) ?_
    refine g_getI hX (dk DX11_feed 8 rfl) KX11 fX11_142 (by decide) rfl (CLt hH (q := 0) (by decide)) (CC hH 0 (by decide) rfl) ?_
    refine g_aload_0 hX (dk DX11_feed 9 rfl) ?_
    refine g_getRs (r := 31) hX (dk DX11_feed 10 rfl) KX11 fX11_36 (by decide) rfl (CLt hH (q := 0) (by decide)) (CC hH 0 (by decide) rfl) (CR hH 0 6 31 (by decide)) ?_
    refine g_alen (v := 100) hX (dk DX11_feed 11 rfl) (CLt hH (q := 31) (by decide)) (CS hH 31 (by decide) rfl) (by decide) (i0 := 2) rfl (by decide) ?_
    refine g_icmp_lt (tgt := 28) hX (dk DX11_feed 12 rfl) (by decide) (fun hc2 => ?_) (fun hc2 => ?_)
    · obtain ⟨sg, hsg, esg⟩ := hY.2.2.2.2.2.2.2.2
      obtain ⟨eE, ef⟩ := fed_s hZ esg hsg
      have hlt := hc2
      rw [esg] at hlt
      have hs1 := lt_nI (b := 100) (by omega) (by decide) hlt
      refine g_aload_0 hX (dk DX11_feed 15 rfl) ?_
      refine g_getRs (r := 31) hX (dk DX11_feed 16 rfl) KX11 fX11_36 (by decide) rfl (CLt hH (q := 0) (by decide)) (CC hH 0 (by decide) rfl) (CR hH 0 6 31 (by decide)) ?_
      refine g_aload_0 hX (dk DX11_feed 17 rfl) ?_
      refine g_getIv hX (dk DX11_feed 18 rfl) KX11 fX11_142 (by decide) rfl (CLt hH (q := 0) (by decide)) (CC hH 0 (by decide) rfl) (esg) ?_
      refine g_iload_1 hX (dk DX11_feed 19 rfl) ?_
      refine g_i2b hX (dk DX11_feed 20 rfl) ?_
      refine i_bastore hX (dk DX11_feed 21 rfl) (CLt hH (q := 31) (by decide)) (CS hH 31 (by decide) rfl) (⟨rfl, hs1, by decide⟩) ?_
      refine g_aload_0 hX (dk DX11_feed 22 rfl) ?_
      refine g_dup hX (dk DX11_feed 23 rfl) rfl ?_
      refine g_getIv hX (dk DX11_feed 24 rfl) KX11 fX11_142 (by decide) rfl (CLt hH (q := 0) (by decide)) (CC hH 0 (by decide) rfl) ((show I 0 7 = nI sg from esg)) ?_
      refine g_iconst (v := 1) hX (dk DX11_feed 25 rfl) (by decide) ?_
      refine g_iadd hX (dk DX11_feed 26 rfl) ?_
      refine g_nmI (nI (sg + 1)) (nI_1 sg) ?_
      refine g_putI hX (dk DX11_feed 27 rfl) KX11 fX11_142 (by decide) rfl (CLt hH (q := 0) (by decide)) (CC hH 0 (by decide) rfl) (Or.inl rfl) (rfl) (rfl) ?_
      refine g_aload_0 hX (dk DX11_feed 28 rfl) ?_
      refine g_getIv hX (dk DX11_feed 29 rfl) KX11 fX11_142 (by decide) rfl (CLt hH (q := 0) (by decide)) (CC hH 0 (by decide) rfl) (up0 _ _ _ _) ?_
      refine g_ireturn hX (dk DX11_feed 30 rfl) rfl (rfl) (by decide) (by decide) ?_
      exact qZ_of (E' := upI (upI E 9 (tN (E 0 17)) (nI q)) 0 17 (E 0 17 + 1)) (by unfold feedS; (try first | rw [if_pos hc1] | rw [if_neg hc1] | rw [if_neg (not_not_intro hc1)]); (try first | rw [if_pos hc2] | rw [if_neg hc2] | rw [if_neg (not_not_intro hc2)]); rw [if_neg (by rw [eE]; intro z; exact absurd ((nI_eq (b := 100) (by omega) (by decide)).mp z) (by omega)), eE, nI_1]) (by rw [nb_127 q hq]; exact hZ.feed hs1 esg)
    · obtain ⟨sg, hsg, esg⟩ := hY.2.2.2.2.2.2.2.2
      obtain ⟨eE, ef⟩ := fed_s hZ esg hsg
      have hge := hc2
      refine g_bipush (v := -4) hX (dk DX11_feed 13 rfl) (by decide) ?_
      refine g_ireturn hX (dk DX11_feed 14 rfl) rfl (rfl) (by decide) (by decide) ?_
      exact qZ_of (by unfold feedS; (try first | rw [if_pos hc1] | rw [if_neg hc1] | rw [if_neg (not_not_intro hc1)]); (try first | rw [if_pos hc2] | rw [if_neg hc2] | rw [if_neg (not_not_intro hc2)]); rw [if_pos (by rw [eE]; rw [esg] at hge; have := (nI_leI (a := 100) (b := sg) (by decide) (by omega)).mp (Int32.not_lt.mp hge); rw [show sg = 100 by omega]; rfl)]) hZ
  · refine g_bipush (v := -2) hX (dk DX11_feed 5 rfl) (by decide) ?_
    refine g_ireturn hX (dk DX11_feed 6 rfl) rfl (rfl) (by decide) (by decide) ?_
    exact qZ_of (by unfold feedS; (try first | rw [if_pos hc1] | rw [if_neg hc1] | rw [if_neg (not_not_intro hc1)]); first | done | rfl) hZ

set_option maxRecDepth 8000 in
set_option maxHeartbeats 4000000 in
theorem zx_count {G : Gt} (hG : Gok G) {I : It} {h : Ht}  {E : It} {L : Nat → Int64} (hE : Inv E) (hZ : RZ E L I h) {w : Int32} : Con G (2) 0 0 mX11_count [.ref 0, .int w] I h (qZ (countS E w) L (hn h)) := by
  refine con_intro (own := RX11) (lo0 := [some (.ref 0), some (.int w)]) hG rfl pl_X11 (Nat.le_of_ble_eq_true rfl) rfl (fun X hX => ?_)
  have hY := hZ.1
  have hW := hY.wx hE
  have hH := hW.1
  have hc10 := hW.2.1.2
  have hcE := (inv_cnt hE).2
  refine g_iload_1 hX (dk DX11_count 0 rfl) ?_
  refine g_tswitch (dt := 85) hX [(0, 40), (1, 48), (2, 53), (3, 61), (4, 66), (5, 74)] (dk DX11_count 1 rfl) (by decide +kernel) ?_
  refine ⟨fun hc1 => ?_, fun hc1n => ?_⟩
  · show GG _ _ _ _ _ _ _ _ _ _ _ _ _
    refine g_aload_0 hX (dk DX11_count 2 rfl) ?_
    refine g_getRs (r := 1) hX (dk DX11_count 3 rfl) KX11 fX11_12 (by decide) rfl (CLt hH (q := 0) (by decide)) (CC hH 0 (by decide) rfl) (CR hH 0 0 1 (by decide)) ?_
    refine g_getIv hX (dk DX11_count 4 rfl) KX5 fX11_72 (by decide) rfl (CLt hH (q := 1) (by decide)) (CC hH 1 (by decide) rfl) (hY.2.1.1.1) ?_
    refine g_ireturn hX (dk DX11_count 5 rfl) rfl (rfl) (by decide) (by decide) ?_
    exact qZ_of (by unfold countS; (try first | rw [if_pos hc1] | rw [if_neg hc1] | rw [if_neg (not_not_intro hc1)]); first | done | rfl) hZ
  refine ⟨fun hc2 => ?_, fun hc2n => ?_⟩
  · show GG _ _ _ _ _ _ _ _ _ _ _ _ _
    refine g_aload_0 hX (dk DX11_count 6 rfl) ?_
    refine g_getIv hX (dk DX11_count 7 rfl) KX11 fX11_145 (by decide) rfl (CLt hH (q := 0) (by decide)) (CC hH 0 (by decide) rfl) (hZ.2.2.2.2.1.1) ?_
    refine g_ireturn hX (dk DX11_count 8 rfl) rfl (rfl) (by decide) (by decide) ?_
    exact qZ_of (by unfold countS; (try first | rw [if_pos hc1n] | rw [if_neg hc1n] | rw [if_neg (not_not_intro hc1n)]); (try first | rw [if_pos hc2] | rw [if_neg hc2] | rw [if_neg (not_not_intro hc2)]); first | done | rfl) hZ
  refine ⟨fun hc3 => ?_, fun hc3n => ?_⟩
  · show GG _ _ _ _ _ _ _ _ _ _ _ _ _
    refine g_aload_0 hX (dk DX11_count 9 rfl) ?_
    refine g_getRs (r := 1) hX (dk DX11_count 10 rfl) KX11 fX11_12 (by decide) rfl (CLt hH (q := 0) (by decide)) (CC hH 0 (by decide) rfl) (CR hH 0 0 1 (by decide)) ?_
    refine g_getIv hX (dk DX11_count 11 rfl) KX5 fX11_231 (by decide) rfl (CLt hH (q := 1) (by decide)) (CC hH 1 (by decide) rfl) (hY.2.1.1.2.2.2) ?_
    refine g_ireturn hX (dk DX11_count 12 rfl) rfl (rfl) (by decide) (by decide) ?_
    exact qZ_of (by unfold countS; (try first | rw [if_pos hc1n] | rw [if_neg hc1n] | rw [if_neg (not_not_intro hc1n)]); (try first | rw [if_pos hc2n] | rw [if_neg hc2n] | rw [if_neg (not_not_intro hc2n)]); (try first | rw [if_pos hc3] | rw [if_neg hc3] | rw [if_neg (not_not_intro hc3)]); first | done | rfl) hZ
  refine ⟨fun hc4 => ?_, fun hc4n => ?_⟩
  · show GG _ _ _ _ _ _ _ _ _ _ _ _ _
    refine g_aload_0 hX (dk DX11_count 13 rfl) ?_
    refine g_getIv hX (dk DX11_count 14 rfl) KX11 fX11_142 (by decide) rfl (CLt hH (q := 0) (by decide)) (CC hH 0 (by decide) rfl) (hZ.2.2.2.2.2.1) ?_
    refine g_ireturn hX (dk DX11_count 15 rfl) rfl (rfl) (by decide) (by decide) ?_
    exact qZ_of (by unfold countS; (try first | rw [if_pos hc1n] | rw [if_neg hc1n] | rw [if_neg (not_not_intro hc1n)]); (try first | rw [if_pos hc2n] | rw [if_neg hc2n] | rw [if_neg (not_not_intro hc2n)]); (try first | rw [if_pos hc3n] | rw [if_neg hc3n] | rw [if_neg (not_not_intro hc3n)]); (try first | rw [if_pos hc4] | rw [if_neg hc4] | rw [if_neg (not_not_intro hc4)]); first | done | rfl) hZ
  refine ⟨fun hc5 => ?_, fun hc5n => ?_⟩
  · show GG _ _ _ _ _ _ _ _ _ _ _ _ _
    refine g_aload_0 hX (dk DX11_count 16 rfl) ?_
    refine g_getRs (r := 32) hX (dk DX11_count 17 rfl) KX11 fX11_43 (by decide) rfl (CLt hH (q := 0) (by decide)) (CC hH 0 (by decide) rfl) (CR hH 0 8 32 (by decide)) ?_
    refine g_getIv hX (dk DX11_count 18 rfl) KX7 fX11_258 (by decide) rfl (CLt hH (q := 32) (by decide)) (CC hH 32 (by decide) rfl) (hY.2.2.2.2.2.1.1) ?_
    refine g_ireturn hX (dk DX11_count 19 rfl) rfl (rfl) (by decide) (by decide) ?_
    exact qZ_of (by unfold countS; (try first | rw [if_pos hc1n] | rw [if_neg hc1n] | rw [if_neg (not_not_intro hc1n)]); (try first | rw [if_pos hc2n] | rw [if_neg hc2n] | rw [if_neg (not_not_intro hc2n)]); (try first | rw [if_pos hc3n] | rw [if_neg hc3n] | rw [if_neg (not_not_intro hc3n)]); (try first | rw [if_pos hc4n] | rw [if_neg hc4n] | rw [if_neg (not_not_intro hc4n)]); (try first | rw [if_pos hc5] | rw [if_neg hc5] | rw [if_neg (not_not_intro hc5)]); first | done | rfl) hZ
  refine ⟨fun hc6 => ?_, fun hc6n => ?_⟩
  · show GG _ _ _ _ _ _ _ _ _ _ _ _ _
    refine g_aload_0 hX (dk DX11_count 20 rfl) ?_
    refine g_getRs (r := 1) hX (dk DX11_count 21 rfl) KX11 fX11_12 (by decide) rfl (CLt hH (q := 0) (by decide)) (CC hH 0 (by decide) rfl) (CR hH 0 0 1 (by decide)) ?_
    refine g_getIv hX (dk DX11_count 22 rfl) KX5 fX11_116 (by decide) rfl (CLt hH (q := 1) (by decide)) (CC hH 1 (by decide) rfl) (hZ.2.1.1) ?_
    refine g_c1q hX sX11_count_81 (by decide) (Nat.le_of_ble_eq_true rfl) rcN (by decide) (by decide) (c_J6_bitCount_0f7a4 hG) ?_
    rintro y9 I9 h9 ⟨hy, rfl, rfl⟩
    obtain ⟨m9, hm9, em9⟩ := kb_lt (inv_kn hE) hcE
    refine g_nmI (onesI (E 0 5)) (by rw [hy m9 hm9 em9]; unfold onesI; rw [em9, tN_nI (by omega)]) ?_
    refine g_ireturn hX (dk DX11_count 24 rfl) rfl (rfl) (by decide) (by decide) ?_
    exact qZ_of (by unfold countS; (try first | rw [if_pos hc1n] | rw [if_neg hc1n] | rw [if_neg (not_not_intro hc1n)]); (try first | rw [if_pos hc2n] | rw [if_neg hc2n] | rw [if_neg (not_not_intro hc2n)]); (try first | rw [if_pos hc3n] | rw [if_neg hc3n] | rw [if_neg (not_not_intro hc3n)]); (try first | rw [if_pos hc4n] | rw [if_neg hc4n] | rw [if_neg (not_not_intro hc4n)]); (try first | rw [if_pos hc5n] | rw [if_neg hc5n] | rw [if_neg (not_not_intro hc5n)]); (try first | rw [if_pos hc6] | rw [if_neg hc6] | rw [if_neg (not_not_intro hc6)]); first | done | rfl) hZ
  show GG _ _ _ _ _ _ _ _ _ _ _ _ _
  refine g_bipush (v := -2) hX (dk DX11_count 25 rfl) (by decide) ?_
  refine g_ireturn hX (dk DX11_count 26 rfl) rfl (rfl) (by decide) (by decide) ?_
  exact qZ_of (by unfold countS; (try first | rw [if_pos hc1n] | rw [if_neg hc1n] | rw [if_neg (not_not_intro hc1n)]); (try first | rw [if_pos hc2n] | rw [if_neg hc2n] | rw [if_neg (not_not_intro hc2n)]); (try first | rw [if_pos hc3n] | rw [if_neg hc3n] | rw [if_neg (not_not_intro hc3n)]); (try first | rw [if_pos hc4n] | rw [if_neg hc4n] | rw [if_neg (not_not_intro hc4n)]); (try first | rw [if_pos hc5n] | rw [if_neg hc5n] | rw [if_neg (not_not_intro hc5n)]); (try first | rw [if_pos hc6n] | rw [if_neg hc6n] | rw [if_neg (not_not_intro hc6n)]); first | done | rfl) hZ

