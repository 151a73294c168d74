set_option maxRecDepth 8000 in
set_option maxHeartbeats 4000000 in
theorem x_told {G : Gt} (hG : Gok G) {I : It} {h : Ht}  {E : It} {L : Nat → Int64} (hE : Inv E) (hY : RY E L I h) {w : Int32} : Con G (3) 0 0 mX11_told [.ref 0, .int w] I h (qW E L (hn h)) := by
  refine con_intro (own := RX11) (lo0 := [some (.ref 0), some (.int w)]) hG rfl pl_X11 (Nat.le_of_ble_eq_true rfl) rfl (fun X hX => ?_)
  have hW := hY.wx hE
  have hH := hW.1
  have hc10 := hW.2.1.2
  refine g_iload_1 hX (dk DX11_told 0 rfl) ?_
  refine g_tswitch (dt := 88) hX [(0, 40), (1, 48), (2, 56), (3, 64), (4, 72), (5, 80)] (dk DX11_told 1 rfl) (by decide +kernel) ?_
  refine ⟨fun hc1 => ?_, fun hc1n => ?_⟩
  · show GG _ _ _ _ _ _ _ _ _ _ _ _ _
    refine g_aload_0 hX (dk DX11_told 2 rfl) ?_
    refine g_getRs (r := 1) hX (dk DX11_told 3 rfl) KX11 fX11_12 (by decide) rfl (CLt hH (q := 0) (by decide)) (CC hH 0 (by decide) rfl) (CR hH 0 0 1 (by decide)) ?_
    refine g_c1I hX sX11_told_44 (by decide) (Nat.le_of_ble_eq_true rfl) (rc0 rfl (CLt hH (by decide)) (CC hH 1 (by decide) rfl)) (by decide) (by decide) (c_X5_callsAtFirst hG hW) ?_
    refine g_ireturn hX (dk DX11_told 5 rfl) rfl (rfl) (by decide) (by decide) ?_
    exact qW_of hY
  refine ⟨fun hc2 => ?_, fun hc2n => ?_⟩
  · show GG _ _ _ _ _ _ _ _ _ _ _ _ _
    refine g_aload_0 hX (dk DX11_told 6 rfl) ?_
    refine g_getRs (r := 1) hX (dk DX11_told 7 rfl) KX11 fX11_12 (by decide) rfl (CLt hH (q := 0) (by decide)) (CC hH 0 (by decide) rfl) (CR hH 0 0 1 (by decide)) ?_
    refine g_c1I hX sX11_told_52 (by decide) (Nat.le_of_ble_eq_true rfl) (rc0 rfl (CLt hH (by decide)) (CC hH 1 (by decide) rfl)) (by decide) (by decide) (c_X5_callsFading hG hW) ?_
    refine g_ireturn hX (dk DX11_told 9 rfl) rfl (rfl) (by decide) (by decide) ?_
    exact qW_of hY
  refine ⟨fun hc3 => ?_, fun hc3n => ?_⟩
  · show GG _ _ _ _ _ _ _ _ _ _ _ _ _
    refine g_aload_0 hX (dk DX11_told 10 rfl) ?_
    refine g_getRs (r := 1) hX (dk DX11_told 11 rfl) KX11 fX11_12 (by decide) rfl (CLt hH (q := 0) (by decide)) (CC hH 0 (by decide) rfl) (CR hH 0 0 1 (by decide)) ?_
    refine g_getI hX (dk DX11_told 12 rfl) KX5 fX11_122 (by decide) rfl (CLt hH (q := 1) (by decide)) (CC hH 1 (by decide) rfl) ?_
    refine g_ireturn hX (dk DX11_told 13 rfl) rfl (rfl) (by decide) (by decide) ?_
    exact qW_of hY
  refine ⟨fun hc4 => ?_, fun hc4n => ?_⟩
  · show GG _ _ _ _ _ _ _ _ _ _ _ _ _
    refine g_aload_0 hX (dk DX11_told 14 rfl) ?_
    refine g_getRs (r := 1) hX (dk DX11_told 15 rfl) KX11 fX11_12 (by decide) rfl (CLt hH (q := 0) (by decide)) (CC hH 0 (by decide) rfl) (CR hH 0 0 1 (by decide)) ?_
    refine g_getI hX (dk DX11_told 16 rfl) KX5 fX11_162 (by decide) rfl (CLt hH (q := 1) (by decide)) (CC hH 1 (by decide) rfl) ?_
    refine g_ireturn hX (dk DX11_told 17 rfl) rfl (rfl) (by decide) (by decide) ?_
    exact qW_of hY
  refine ⟨fun hc5 => ?_, fun hc5n => ?_⟩
  · show GG _ _ _ _ _ _ _ _ _ _ _ _ _
    refine g_aload_0 hX (dk DX11_told 18 rfl) ?_
    refine g_getRs (r := 1) hX (dk DX11_told 19 rfl) KX11 fX11_12 (by decide) rfl (CLt hH (q := 0) (by decide)) (CC hH 0 (by decide) rfl) (CR hH 0 0 1 (by decide)) ?_
    refine g_getI hX (dk DX11_told 20 rfl) KX5 fX11_165 (by decide) rfl (CLt hH (q := 1) (by decide)) (CC hH 1 (by decide) rfl) ?_
    refine g_ireturn hX (dk DX11_told 21 rfl) rfl (rfl) (by decide) (by decide) ?_
    exact qW_of hY
  refine ⟨fun hc6 => ?_, fun hc6n => ?_⟩
  · show GG _ _ _ _ _ _ _ _ _ _ _ _ _
    refine g_aload_0 hX (dk DX11_told 22 rfl) ?_
    refine g_getRs (r := 1) hX (dk DX11_told 23 rfl) KX11 fX11_12 (by decide) rfl (CLt hH (q := 0) (by decide)) (CC hH 0 (by decide) rfl) (CR hH 0 0 1 (by decide)) ?_
    refine g_getI hX (dk DX11_told 24 rfl) KX5 fX11_168 (by decide) rfl (CLt hH (q := 1) (by decide)) (CC hH 1 (by decide) rfl) ?_
    refine g_ireturn hX (dk DX11_told 25 rfl) rfl (rfl) (by decide) (by decide) ?_
    exact qW_of hY
  show GG _ _ _ _ _ _ _ _ _ _ _ _ _
  refine g_iload_1 hX (dk DX11_told 26 rfl) ?_
  refine g_bipush (v := 10) hX (dk DX11_told 27 rfl) (by decide) ?_
  refine g_bipush (v := 13) hX (dk DX11_told 28 rfl) (by decide) ?_
  refine g_c3I hX sX11_told_93 (by decide) (Nat.le_of_ble_eq_true rfl) rcN (by decide) (by decide) (c_X11_isNot hG ) ?_
  refine g_ifb_eq (tgt := 103) hX (dk DX11_told 30 rfl) (by decide) (fun hc8 => ?_) (fun hc8 => ?_)
  · have hw := Decidable.not_not.mp hc8
    obtain ⟨y, hy1, hy2, rfl⟩ := in1_of (c := 10) (b := 13) (by decide) (by decide) hw
    refine g_aload_0 hX (dk DX11_told 33 rfl) ?_
    refine g_getRs (r := 1) hX (dk DX11_told 34 rfl) KX11 fX11_12 (by decide) rfl (CLt hH (q := 0) (by decide)) (CC hH 0 (by decide) rfl) (CR hH 0 0 1 (by decide)) ?_
    refine g_getRs (r := 4) hX (dk DX11_told 35 rfl) KX5 fX11_139 (by decide) rfl (CLt hH (q := 1) (by decide)) (CC hH 1 (by decide) rfl) (CR hH 1 5 4 (by decide)) ?_
    refine g_iload_1 hX (dk DX11_told 36 rfl) ?_
    refine g_bipush (v := 10) hX (dk DX11_told 37 rfl) (by decide) ?_
    refine g_isub hX (dk DX11_told 38 rfl) ?_
    refine g_nmI (nI (y - 10)) (pk_sub (a := y) (b := 10) hy1) ?_
    refine i_iaload hX (dk DX11_told 39 rfl) (CLt hH (q := 4) (by decide)) (CS hH 4 (by decide) rfl) (⟨rfl, by omega, by decide⟩) ?_
    refine g_ireturn hX (dk DX11_told 40 rfl) rfl (rfl) (by decide) (by decide) ?_
    exact qW_of hY
  · refine g_iconst (v := -1) hX (dk DX11_told 31 rfl) (by decide) ?_
    refine g_goto (tgt := 115) hX (dk DX11_told 32 rfl) (by decide) ?_
    refine g_ireturn hX (dk DX11_told 40 rfl) rfl (rfl) (by decide) (by decide) ?_
    exact qW_of hY

set_option maxRecDepth 8000 in
set_option maxHeartbeats 4000000 in
theorem y_said {G : Gt} (hG : Gok G) {I : It} {h : Ht}  {E : It} {L : Nat → Int64} (hE : Inv E) (hY : RY E L I h) {d : Nat} (hd : d < cnt E) {y : Int32} : Con G (6) 0 0 mX11_said [.ref 0, .int (nI d), .int y] I h (qW E L (hn h)) := by
  refine con_intro (own := RX11) (lo0 := [some (.ref 0), some (.int (nI d)), some (.int y), none]) hG rfl pl_X11 (Nat.le_of_ble_eq_true rfl) rfl (fun X hX => ?_)
  have hW := hY.wx hE
  have hH := hW.1
  have hc10 := hW.2.1.2
  have hd10 : d < 10 := Nat.lt_of_lt_of_le hd (inv_cnt hE).2
  have hcd : d < cN I := by rw [hY.cn]; exact hd
  have hDD := isD_mk hE hd
  obtain ⟨g1, g2, g3, g4, g5, g6, g7, g8, g9, g10⟩ := hY.d hd
  refine g_aload_0 hX (dk DX11_said 0 rfl) ?_
  refine g_getRs (r := 1) hX (dk DX11_said 1 rfl) KX11 fX11_12 (by decide) rfl (CLt hH (q := 0) (by decide)) (CC hH 0 (by decide) rfl) (CR hH 0 0 1 (by decide)) ?_
  refine g_iload_1 hX (dk DX11_said 2 rfl) ?_
  refine g_c2R hX sX11_said_5 (by decide) (Nat.le_of_ble_eq_true rfl) (rc0 rfl (CLt hH (by decide)) (CC hH 1 (by decide) rfl)) (by decide) (by decide) (c_X5_find hG hW (by exact hcd)) ?_
  refine g_astore_3 hX (dk DX11_said 4 rfl) (by decide) rfl ?_
  refine g_aload_3 hX (dk DX11_said 5 rfl) ?_
  refine g_ifnullR hX (dk DX11_said 6 rfl) ?_
  refine g_iload_2 hX (dk DX11_said 7 rfl) ?_
  refine g_iconst (v := 0) hX (dk DX11_said 8 rfl) (by decide) ?_
  refine g_iconst (v := 3) hX (dk DX11_said 9 rfl) (by decide) ?_
  refine g_c3I hX sX11_said_16 (by decide) (Nat.le_of_ble_eq_true rfl) rcN (by decide) (by decide) (c_X11_isNot hG ) ?_
  refine g_ifb_eq (tgt := 24) hX (dk DX11_said 11 rfl) (by decide) (fun hc1 => ?_) (fun hc1 => ?_)
  · refine g_aload_0 hX (dk DX11_said 14 rfl) ?_
    refine g_getRs (r := 1) hX (dk DX11_said 15 rfl) KX11 fX11_12 (by decide) rfl (CLt hH (q := 0) (by decide)) (CC hH 0 (by decide) rfl) (CR hH 0 0 1 (by decide)) ?_
    refine g_aload_3 hX (dk DX11_said 16 rfl) ?_
    refine g_iload_2 hX (dk DX11_said 17 rfl) ?_
    refine g_c3I hX sX11_said_30 (by decide) (Nat.le_of_ble_eq_true rfl) (rc0 rfl (CLt hH (by decide)) (CC hH 1 (by decide) rfl)) (by decide) (by decide) (c_X5_saidBy hG hW g3 (by rw [g4]; exact kcl_dc _)) ?_
    refine g_ireturn hX (dk DX11_said 19 rfl) rfl (rfl) (by decide) (by decide) ?_
    exact qW_of hY
  · refine g_iconst (v := -1) hX (dk DX11_said 12 rfl) (by decide) ?_
    refine g_ireturn hX (dk DX11_said 13 rfl) rfl (rfl) (by decide) (by decide) ?_
    exact qW_of hY

set_option maxRecDepth 8000 in
set_option maxHeartbeats 4000000 in
theorem z_said {G : Gt} (hG : Gok G) {I : It} {h : Ht}  {E : It} {L : Nat → Int64} (hE : Inv E) (hY : RY E L I h) {a : Int32} (hno : ¬ isD E a) {y : Int32} : Con G (6) 0 0 mX11_said [.ref 0, .int a, .int y] I h (qW E L (hn h)) := by
  refine con_intro (own := RX11) (lo0 := [some (.ref 0), some (.int a), some (.int y), none]) hG rfl pl_X11 (Nat.le_of_ble_eq_true rfl) rfl (fun X hX => ?_)
  have hW := hY.wx hE
  have hH := hW.1
  have hc10 := hW.2.1.2
  refine g_aload_0 hX (dk DX11_said 0 rfl) ?_
  refine g_getRs (r := 1) hX (dk DX11_said 1 rfl) KX11 fX11_12 (by decide) rfl (CLt hH (q := 0) (by decide)) (CC hH 0 (by decide) rfl) (CR hH 0 0 1 (by decide)) ?_
  refine g_iload_1 hX (dk DX11_said 2 rfl) ?_
  refine g_c2R hX sX11_said_5 (by decide) (Nat.le_of_ble_eq_true rfl) (rc0 rfl (CLt hH (by decide)) (CC hH 1 (by decide) rfl)) (by decide) (by decide) (c_X5_find0 hG hW (hY.no hE hno)) ?_
  refine g_astoreN_3 hX (dk DX11_said 4 rfl) (by decide) rfl ?_
  refine g_aloadN_3 hX (dk DX11_said 5 rfl) ?_
  refine g_ifnull (tgt := 22) hX (dk DX11_said 6 rfl) (by decide) ?_
  refine g_iconst (v := -1) hX (dk DX11_said 12 rfl) (by decide) ?_
  refine g_ireturn hX (dk DX11_said 13 rfl) rfl (rfl) (by decide) (by decide) ?_
  exact qW_of hY

theorem x_said {G : Gt} (hG : Gok G) {I : It} {h : Ht} {E : It} {L : Nat → Int64} (hE : Inv E) (hY : RY E L I h) {a : Int32} {y : Int32} : Con G 6 0 0 mX11_said [.ref 0, .int a, .int y] I h (qW E L (hn h)) := by
  by_cases hh : isD E a
  · obtain ⟨d, hd, rfl⟩ := isD_of hE hh
    exact y_said hG hE hY hd (y := y)
  · exact z_said hG hE hY hh (y := y)
set_option maxRecDepth 8000 in
set_option maxHeartbeats 4000000 in
theorem x_feed {G : Gt} (hG : Gok G) {I : It} {h : Ht}  {E : It} {L : Nat → Int64} (hE : Inv E) (hY : RY E L I h) {s : Int32} : Con G (2) 0 0 mX11_feed [.ref 0, .int s] I h (qW E L (hn h)) := by
  refine con_intro (own := RX11) (lo0 := [some (.ref 0), some (.int s)]) hG rfl pl_X11 (Nat.le_of_ble_eq_true rfl) rfl (fun X hX => ?_)
  have hW := hY.wx hE
  have hH := hW.1
  have hc10 := hW.2.1.2
  refine g_iload_1 hX (dk DX11_feed 0 rfl) ?_
  refine g_iconst (v := 0) hX (dk DX11_feed 1 rfl) (by decide) ?_
  refine g_bipush (v := 127) hX (dk DX11_feed 2 rfl) (by decide) ?_
  refine g_c3I hX sX11_feed_4 (by decide) (Nat.le_of_ble_eq_true rfl) rcN (by decide) (by decide) (c_X11_isNot hG ) ?_
  refine g_ifb_eq (tgt := 13) hX (dk DX11_feed 4 rfl) (by decide) (fun hc1 => ?_) (fun hc1 => ?_)
  · refine g_aload_0 hX (dk DX11_feed 7 rfl) ?_
    refine g_getI hX (dk DX11_feed 8 rfl) KX11 fX11_142 (by decide) rfl (CLt hH (q := 0) (by decide)) (CC hH 0 (by decide) rfl) ?_
    refine g_aload_0 hX (dk DX11_feed 9 rfl) ?_
    refine g_getRs (r := 31) hX (dk DX11_feed 10 rfl) KX11 fX11_36 (by decide) rfl (CLt hH (q := 0) (by decide)) (CC hH 0 (by decide) rfl) (CR hH 0 6 31 (by decide)) ?_
    refine g_alen (v := 100) hX (dk DX11_feed 11 rfl) (CLt hH (q := 31) (by decide)) (CS hH 31 (by decide) rfl) (by decide) (i0 := 2) rfl (by decide) ?_
    refine g_icmp_lt (tgt := 28) hX (dk DX11_feed 12 rfl) (by decide) (fun hc2 => ?_) (fun hc2 => ?_)
    · obtain ⟨sg, hsg, esg⟩ := hY.2.2.2.2.2.2.2.2
      have hix := kp_ix (b := 100) (by decide) ⟨sg, hsg, esg⟩ (fun z => absurd hc2 (Int32.not_lt.mpr z))
      have hlt := hc2
      refine g_aload_0 hX (dk DX11_feed 15 rfl) ?_
      refine g_getRs (r := 31) hX (dk DX11_feed 16 rfl) KX11 fX11_36 (by decide) rfl (CLt hH (q := 0) (by decide)) (CC hH 0 (by decide) rfl) (CR hH 0 6 31 (by decide)) ?_
      refine g_aload_0 hX (dk DX11_feed 17 rfl) ?_
      refine g_getI hX (dk DX11_feed 18 rfl) KX11 fX11_142 (by decide) rfl (CLt hH (q := 0) (by decide)) (CC hH 0 (by decide) rfl) ?_
      refine g_iload_1 hX (dk DX11_feed 19 rfl) ?_
      refine g_i2b hX (dk DX11_feed 20 rfl) ?_
      refine i_bastore hX (dk DX11_feed 21 rfl) (CLt hH (q := 31) (by decide)) (CS hH 31 (by decide) rfl) (hix) ?_
      refine g_aload_0 hX (dk DX11_feed 22 rfl) ?_
      refine g_dup hX (dk DX11_feed 23 rfl) rfl ?_
      refine g_getI hX (dk DX11_feed 24 rfl) KX11 fX11_142 (by decide) rfl (CLt hH (q := 0) (by decide)) (CC hH 0 (by decide) rfl) ?_
      refine g_iconst (v := 1) hX (dk DX11_feed 25 rfl) (by decide) ?_
      refine g_iadd hX (dk DX11_feed 26 rfl) ?_
      refine g_putI hX (dk DX11_feed 27 rfl) KX11 fX11_142 (by decide) rfl (CLt hH (q := 0) (by decide)) (CC hH 0 (by decide) rfl) (Or.inl rfl) (rfl) (rfl) ?_
      refine g_aload_0 hX (dk DX11_feed 28 rfl) ?_
      refine g_getI hX (dk DX11_feed 29 rfl) KX11 fX11_142 (by decide) rfl (CLt hH (q := 0) (by decide)) (CC hH 0 (by decide) rfl) ?_
      refine g_ireturn hX (dk DX11_feed 30 rfl) rfl (rfl) (by decide) (by decide) ?_
      exact qW_of (feed_w hY hsg esg hlt)
    · refine g_bipush (v := -4) hX (dk DX11_feed 13 rfl) (by decide) ?_
      refine g_ireturn hX (dk DX11_feed 14 rfl) rfl (rfl) (by decide) (by decide) ?_
      exact qW_of hY
  · refine g_bipush (v := -2) hX (dk DX11_feed 5 rfl) (by decide) ?_
    refine g_ireturn hX (dk DX11_feed 6 rfl) rfl (rfl) (by decide) (by decide) ?_
    exact qW_of hY

set_option maxRecDepth 8000 in
set_option maxHeartbeats 4000000 in
theorem x_count {G : Gt} (hG : Gok G) {I : It} {h : Ht}  {E : It} {L : Nat → Int64} (hE : Inv E) (hY : RY E L I h) {w : Int32} : Con G (2) 0 0 mX11_count [.ref 0, .int w] I h (qW E L (hn h)) := by
  refine con_intro (own := RX11) (lo0 := [some (.ref 0), some (.int w)]) hG rfl pl_X11 (Nat.le_of_ble_eq_true rfl) rfl (fun X hX => ?_)
  have hW := hY.wx hE
  have hH := hW.1
  have hc10 := hW.2.1.2
  refine g_iload_1 hX (dk DX11_count 0 rfl) ?_
  refine g_tswitch (dt := 85) hX [(0, 40), (1, 48), (2, 53), (3, 61), (4, 66), (5, 74)] (dk DX11_count 1 rfl) (by decide +kernel) ?_
  refine ⟨fun hc1 => ?_, fun hc1n => ?_⟩
  · show GG _ _ _ _ _ _ _ _ _ _ _ _ _
    refine g_aload_0 hX (dk DX11_count 2 rfl) ?_
    refine g_getRs (r := 1) hX (dk DX11_count 3 rfl) KX11 fX11_12 (by decide) rfl (CLt hH (q := 0) (by decide)) (CC hH 0 (by decide) rfl) (CR hH 0 0 1 (by decide)) ?_
    refine g_getI hX (dk DX11_count 4 rfl) KX5 fX11_72 (by decide) rfl (CLt hH (q := 1) (by decide)) (CC hH 1 (by decide) rfl) ?_
    refine g_ireturn hX (dk DX11_count 5 rfl) rfl (rfl) (by decide) (by decide) ?_
    exact qW_of hY
  refine ⟨fun hc2 => ?_, fun hc2n => ?_⟩
  · show GG _ _ _ _ _ _ _ _ _ _ _ _ _
    refine g_aload_0 hX (dk DX11_count 6 rfl) ?_
    refine g_getI hX (dk DX11_count 7 rfl) KX11 fX11_145 (by decide) rfl (CLt hH (q := 0) (by decide)) (CC hH 0 (by decide) rfl) ?_
    refine g_ireturn hX (dk DX11_count 8 rfl) rfl (rfl) (by decide) (by decide) ?_
    exact qW_of hY
  refine ⟨fun hc3 => ?_, fun hc3n => ?_⟩
  · show GG _ _ _ _ _ _ _ _ _ _ _ _ _
    refine g_aload_0 hX (dk DX11_count 9 rfl) ?_
    refine g_getRs (r := 1) hX (dk DX11_count 10 rfl) KX11 fX11_12 (by decide) rfl (CLt hH (q := 0) (by decide)) (CC hH 0 (by decide) rfl) (CR hH 0 0 1 (by decide)) ?_
    refine g_getI hX (dk DX11_count 11 rfl) KX5 fX11_231 (by decide) rfl (CLt hH (q := 1) (by decide)) (CC hH 1 (by decide) rfl) ?_
    refine g_ireturn hX (dk DX11_count 12 rfl) rfl (rfl) (by decide) (by decide) ?_
    exact qW_of hY
  refine ⟨fun hc4 => ?_, fun hc4n => ?_⟩
  · show GG _ _ _ _ _ _ _ _ _ _ _ _ _
    refine g_aload_0 hX (dk DX11_count 13 rfl) ?_
    refine g_getI hX (dk DX11_count 14 rfl) KX11 fX11_142 (by decide) rfl (CLt hH (q := 0) (by decide)) (CC hH 0 (by decide) rfl) ?_
    refine g_ireturn hX (dk DX11_count 15 rfl) rfl (rfl) (by decide) (by decide) ?_
    exact qW_of hY
  refine ⟨fun hc5 => ?_, fun hc5n => ?_⟩
  · show GG _ _ _ _ _ _ _ _ _ _ _ _ _
    refine g_aload_0 hX (dk DX11_count 16 rfl) ?_
    refine g_getRs (r := 32) hX (dk DX11_count 17 rfl) KX11 fX11_43 (by decide) rfl (CLt hH (q := 0) (by decide)) (CC hH 0 (by decide) rfl) (CR hH 0 8 32 (by decide)) ?_
    refine g_getI hX (dk DX11_count 18 rfl) KX7 fX11_258 (by decide) rfl (CLt hH (q := 32) (by decide)) (CC hH 32 (by decide) rfl) ?_
    refine g_ireturn hX (dk DX11_count 19 rfl) rfl (rfl) (by decide) (by decide) ?_
    exact qW_of hY
  refine ⟨fun hc6 => ?_, fun hc6n => ?_⟩
  · show GG _ _ _ _ _ _ _ _ _ _ _ _ _
    refine g_aload_0 hX (dk DX11_count 20 rfl) ?_
    refine g_getRs (r := 1) hX (dk DX11_count 21 rfl) KX11 fX11_12 (by decide) rfl (CLt hH (q := 0) (by decide)) (CC hH 0 (by decide) rfl) (CR hH 0 0 1 (by decide)) ?_
    refine g_getI hX (dk DX11_count 22 rfl) KX5 fX11_116 (by decide) rfl (CLt hH (q := 1) (by decide)) (CC hH 1 (by decide) rfl) ?_
    refine g_c1q hX sX11_count_81 (by decide) (Nat.le_of_ble_eq_true rfl) rcN (by decide) (by decide) (c_J6_bitCount_0f7a4 hG) ?_
    rintro _ _ _ ⟨-, rfl, rfl⟩
    refine g_ireturn hX (dk DX11_count 24 rfl) rfl (rfl) (by decide) (by decide) ?_
    exact qW_of hY
  show GG _ _ _ _ _ _ _ _ _ _ _ _ _
  refine g_bipush (v := -2) hX (dk DX11_count 25 rfl) (by decide) ?_
  refine g_ireturn hX (dk DX11_count 26 rfl) rfl (rfl) (by decide) (by decide) ?_
  exact qW_of hY

set_option maxRecDepth 8000 in
set_option maxHeartbeats 4000000 in
theorem y_of {G : Gt} (hG : Gok G) {I : It} {h : Ht}  {E : It} {L : Nat → Int64} (hE : Inv E) (hY : RY E L I h) {d : Nat} (hd : d < cnt E) {w : Int32} : Con G (8) 0 0 mX11_of [.ref 0, .int (nI d), .int w] I h (qW E L (hn h)) := by
  refine con_intro (own := RX11) (lo0 := [some (.ref 0), some (.int (nI d)), some (.int w), none]) hG rfl pl_X11 (Nat.le_of_ble_eq_true rfl) rfl (fun X hX => ?_)
  have hW := hY.wx hE
  have hH := hW.1
  have hc10 := hW.2.1.2
  have hd10 : d < 10 := Nat.lt_of_lt_of_le hd (inv_cnt hE).2
  have hcd : d < cN I := by rw [hY.cn]; exact hd
  have hDD := isD_mk hE hd
  obtain ⟨g1, g2, g3, g4, g5, g6, g7, g8, g9, g10⟩ := hY.d hd
  refine g_aload_0 hX (dk DX11_of_0 0 rfl) ?_
  refine g_getRs (r := 1) hX (dk DX11_of_0 1 rfl) KX11 fX11_12 (by decide) rfl (CLt hH (q := 0) (by decide)) (CC hH 0 (by decide) rfl) (CR hH 0 0 1 (by decide)) ?_
  refine g_iload_1 hX (dk DX11_of_0 2 rfl) ?_
  refine g_c2R hX sX11_of_5 (by decide) (Nat.le_of_ble_eq_true rfl) (rc0 rfl (CLt hH (by decide)) (CC hH 1 (by decide) rfl)) (by decide) (by decide) (c_X5_find hG hW (by exact hcd)) ?_
  refine g_astore_3 hX (dk DX11_of_0 4 rfl) (by decide) rfl ?_
  refine g_aload_3 hX (dk DX11_of_0 5 rfl) ?_
  refine g_ifnonnull (tgt := 17) hX (dk DX11_of_0 6 rfl) (by decide) ?_
  refine g_iload_2 hX (dk DX11_of_0 9 rfl) ?_
  refine g_tswitch (dt := 193) hX [(0, 80), (1, 85), (2, 90), (3, 95), (4, 100), (5, 105), (6, 110), (7, 122), (8, 134), (9, 143), (10, 164), (11, 180)] (dk DX11_of_0 10 rfl) (by decide +kernel) ?_
  refine ⟨fun hc1 => ?_, fun hc1n => ?_⟩
  · show GG _ _ _ _ _ _ _ _ _ _ _ _ _
    refine g_aload_3 hX (dk DX11_of_0 11 rfl) ?_
    refine g_c1I hX (sD_X11_of_81 _ (by rw [g4]; exact kcl_dc _)) (by decide) (Nat.le_of_ble_eq_true rfl) (rc0 rfl g3 rfl) (by decide) (by decide) (cD_kind hG g3 (by rw [g4]; exact kcl_dc _)) ?_
    refine g_ireturn hX (dk DX11_of_0 13 rfl) rfl (rfl) (by decide) (by decide) ?_
    first
    | exact qW_of hY
    | exact qW_of (hY.sc hS)
  refine ⟨fun hc2 => ?_, fun hc2n => ?_⟩
  · show GG _ _ _ _ _ _ _ _ _ _ _ _ _
    refine g_aload_3 hX (dk DX11_of_0 14 rfl) ?_
    refine g_getD (v := _) hX (dk DX11_of_0 15 rfl) fX11_94 (by decide) g3 (by rw [g4]; exact kcl_dc _) (rfl) ?_
    refine g_ireturn hX (dk DX11_of_0 16 rfl) rfl (rfl) (by decide) (by decide) ?_
    first
    | exact qW_of hY
    | exact qW_of (hY.sc hS)
  refine ⟨fun hc3 => ?_, fun hc3n => ?_⟩
  · show GG _ _ _ _ _ _ _ _ _ _ _ _ _
    refine g_aload_3 hX (dk DX11_of_0 17 rfl) ?_
    refine g_getD (v := _) hX (dk DX11_of_0 18 rfl) fX11_97 (by decide) g3 (by rw [g4]; exact kcl_dc _) (rfl) ?_
    refine g_ireturn hX (dk DX11_of_0 19 rfl) rfl (rfl) (by decide) (by decide) ?_
    first
    | exact qW_of hY
    | exact qW_of (hY.sc hS)
  refine ⟨fun hc4 => ?_, fun hc4n => ?_⟩
  · show GG _ _ _ _ _ _ _ _ _ _ _ _ _
    refine g_aload_3 hX (dk DX11_of_0 20 rfl) ?_
    refine g_getD (v := _) hX (dk DX11_of_0 21 rfl) fX11_100 (by decide) g3 (by rw [g4]; exact kcl_dc _) (rfl) ?_
    refine g_ireturn hX (dk DX11_of_0 22 rfl) rfl (rfl) (by decide) (by decide) ?_
    first
    | exact qW_of hY
    | exact qW_of (hY.sc hS)
  refine ⟨fun hc5 => ?_, fun hc5n => ?_⟩
  · show GG _ _ _ _ _ _ _ _ _ _ _ _ _
    refine g_aload_3 hX (dk DX11_of_0 23 rfl) ?_
    refine g_getD (v := _) hX (dk DX11_of_0 24 rfl) fX11_103 (by decide) g3 (by rw [g4]; exact kcl_dc _) (rfl) ?_
    refine g_ireturn hX (dk DX11_of_0 25 rfl) rfl (rfl) (by decide) (by decide) ?_
    first
    | exact qW_of hY
    | exact qW_of (hY.sc hS)
  refine ⟨fun hc6 => ?_, fun hc6n => ?_⟩
  · show GG _ _ _ _ _ _ _ _ _ _ _ _ _
    refine g_aload_3 hX (dk DX11_of_0 26 rfl) ?_
    refine g_getD (v := _) hX (dk DX11_of_0 27 rfl) fX11_106 (by decide) g3 (by rw [g4]; exact kcl_dc _) (rfl) ?_
    refine g_ireturn hX (dk DX11_of_0 28 rfl) rfl (rfl) (by decide) (by decide) ?_
    first
    | exact qW_of hY
    | exact qW_of (hY.sc hS)
  refine ⟨fun hc7 => ?_, fun hc7n => ?_⟩
  · show GG _ _ _ _ _ _ _ _ _ _ _ _ _
    refine g_aload_0 hX (dk DX11_of_0 29 rfl) ?_
    refine g_getRs (r := 1) hX (dk DX11_of_0 30 rfl) KX11 fX11_12 (by decide) rfl (CLt hH (q := 0) (by decide)) (CC hH 0 (by decide) rfl) (CR hH 0 0 1 (by decide)) ?_
    refine g_getI hX (dk DX11_of_0 31 rfl) KX5 fX11_109 (by decide) rfl (CLt hH (q := 1) (by decide)) (CC hH 1 (by decide) rfl) ?_
    refine g_iload_1 hX (dk DX11_of_0 32 rfl) ?_
    refine g_c2I hX sX11_of_118 (by decide) (Nat.le_of_ble_eq_true rfl) rcN (by decide) (by decide) (c_X11_bit hG ) ?_
    refine g_ireturn hX (dk DX11_of_0 34 rfl) rfl (rfl) (by decide) (by decide) ?_
    first
    | exact qW_of hY
    | exact qW_of (hY.sc hS)
  refine ⟨fun hc8 => ?_, fun hc8n => ?_⟩
  · show GG _ _ _ _ _ _ _ _ _ _ _ _ _
    refine g_aload_0 hX (dk DX11_of_0 35 rfl) ?_
    refine g_getRs (r := 1) hX (dk DX11_of_0 36 rfl) KX11 fX11_12 (by decide) rfl (CLt hH (q := 0) (by decide)) (CC hH 0 (by decide) rfl) (CR hH 0 0 1 (by decide)) ?_
    refine g_getI hX (dk DX11_of_0 37 rfl) KX5 fX11_116 (by decide) rfl (CLt hH (q := 1) (by decide)) (CC hH 1 (by decide) rfl) ?_
    refine g_iload_1 hX (dk DX11_of_0 38 rfl) ?_
    refine g_c2I hX sX11_of_130 (by decide) (Nat.le_of_ble_eq_true rfl) rcN (by decide) (by decide) (c_X11_bit hG ) ?_
    refine g_ireturn hX (dk DX11_of_0 40 rfl) rfl (rfl) (by decide) (by decide) ?_
    first
    | exact qW_of hY
    | exact qW_of (hY.sc hS)
  refine ⟨fun hc9 => ?_, fun hc9n => ?_⟩
  · show GG _ _ _ _ _ _ _ _ _ _ _ _ _
    refine g_aload_0 hX (dk DX11_of_0 41 rfl) ?_
    refine g_getRs (r := 13) hX (dk DX11_of_0 42 rfl) KX11 fX11_26 (by decide) rfl (CLt hH (q := 0) (by decide)) (CC hH 0 (by decide) rfl) (CR hH 0 3 13 (by decide)) ?_
    refine g_aload_3 hX (dk DX11_of_0 43 rfl) ?_
    refine g_c2q hX sX11_of_139 (by decide) (Nat.le_of_ble_eq_true rfl) (rc0 rfl (CLt hH (by decide)) (CC hH 13 (by decide) rfl)) (by decide) (by decide) (w_X0_saidOf hG hW hd10 g3 g2 (by rw [g4]; exact kcl_dc _) g5) ?_
    rintro _ J _ ⟨hS, rfl⟩
    refine g_ireturn hX (dk DX11_of_0 45 rfl) rfl (rfl) (by decide) (by decide) ?_
    first
    | exact qW_of hY
    | exact qW_of (hY.sc hS)
  refine ⟨fun hc10 => ?_, fun hc10n => ?_⟩
  · show GG _ _ _ _ _ _ _ _ _ _ _ _ _
    refine g_aload_0 hX (dk DX11_of_0 46 rfl) ?_
    refine g_getRs (r := 13) hX (dk DX11_of_0 47 rfl) KX11 fX11_26 (by decide) rfl (CLt hH (q := 0) (by decide)) (CC hH 0 (by decide) rfl) (CR hH 0 3 13 (by decide)) ?_
    refine g_aload_3 hX (dk DX11_of_0 48 rfl) ?_
    refine g_c2q hX sX11_of_148 (by decide) (Nat.le_of_ble_eq_true rfl) (rc0 rfl (CLt hH (by decide)) (CC hH 13 (by decide) rfl)) (by decide) (by decide) (w_X0_saidOf hG hW hd10 g3 g2 (by rw [g4]; exact kcl_dc _) g5) ?_
    rintro _ J _ ⟨hS, rfl⟩
    refine g_aload_3 hX (dk DX11_of_0 50 rfl) ?_
    refine g_getD (v := _) hX (dk DX11_of_0 51 rfl) fX11_106 (by decide) g3 (by rw [g4]; exact kcl_dc _) (rfl) ?_
    refine g_icmp_lt (tgt := 162) hX (dk DX11_of_0 52 rfl) (by decide) (fun hc11 => ?_) (fun hc11 => ?_)
    · refine g_iconst (v := 0) hX (dk DX11_of_0 55 rfl) (by decide) ?_
      refine g_ireturn hX (dk DX11_of_0 56 rfl) rfl (rfl) (by decide) (by decide) ?_
      first
      | exact qW_of hY
      | exact qW_of (hY.sc hS)
    · refine g_iconst (v := 1) hX (dk DX11_of_0 53 rfl) (by decide) ?_
      refine g_goto (tgt := 163) hX (dk DX11_of_0 54 rfl) (by decide) ?_
      refine g_ireturn hX (dk DX11_of_0 56 rfl) rfl (rfl) (by decide) (by decide) ?_
      first
      | exact qW_of hY
      | exact qW_of (hY.sc hS)
  refine ⟨fun hc12 => ?_, fun hc12n => ?_⟩
  · show GG _ _ _ _ _ _ _ _ _ _ _ _ _
    refine g_aload_0 hX (dk DX11_of_0 57 rfl) ?_
    refine g_getRs (r := 1) hX (dk DX11_of_0 58 rfl) KX11 fX11_12 (by decide) rfl (CLt hH (q := 0) (by decide)) (CC hH 0 (by decide) rfl) (CR hH 0 0 1 (by decide)) ?_
    refine g_aload_3 hX (dk DX11_of_0 59 rfl) ?_
    refine g_aload_0 hX (dk DX11_of_1 0 rfl) ?_
    refine g_getRs (r := 1) hX (dk DX11_of_1 1 rfl) KX11 fX11_12 (by decide) rfl (CLt hH (q := 0) (by decide)) (CC hH 0 (by decide) rfl) (CR hH 0 0 1 (by decide)) ?_
    refine g_getI hX (dk DX11_of_1 2 rfl) KX5 fX11_122 (by decide) rfl (CLt hH (q := 1) (by decide)) (CC hH 1 (by decide) rfl) ?_
    refine g_c3I hX sX11_of_176 (by decide) (Nat.le_of_ble_eq_true rfl) (rc0 rfl (CLt hH (by decide)) (CC hH 1 (by decide) rfl)) (by decide) (by decide) (c_X5_dearIn hG hW g3 (by rw [g4]; exact kcl_dc _)) ?_
    refine g_ireturn hX (dk DX11_of_1 4 rfl) rfl (rfl) (by decide) (by decide) ?_
    first
    | exact qW_of hY
    | exact qW_of (hY.sc hS)
  refine ⟨fun hc13 => ?_, fun hc13n => ?_⟩
  · show GG _ _ _ _ _ _ _ _ _ _ _ _ _
    refine g_aload_0 hX (dk DX11_of_1 5 rfl) ?_
    refine g_getRs (r := 1) hX (dk DX11_of_1 6 rfl) KX11 fX11_12 (by decide) rfl (CLt hH (q := 0) (by decide)) (CC hH 0 (by decide) rfl) (CR hH 0 0 1 (by decide)) ?_
    refine g_getRs (r := 3) hX (dk DX11_of_1 7 rfl) KX5 fX11_129 (by decide) rfl (CLt hH (q := 1) (by decide)) (CC hH 1 (by decide) rfl) (CR hH 1 1 3 (by decide)) ?_
    refine g_aload_3 hX (dk DX11_of_1 8 rfl) ?_
    refine g_getD (v := (nI d)) hX (dk DX11_of_1 9 rfl) fX11_132 (by decide) g3 (by rw [g4]; exact kcl_dc _) (g5) ?_
    refine i_iaload hX (dk DX11_of_1 10 rfl) (CLt hH (q := 3) (by decide)) (CS hH 3 (by decide) rfl) (⟨rfl, hd10, by decide⟩) ?_
    refine g_ireturn hX (dk DX11_of_1 11 rfl) rfl (rfl) (by decide) (by decide) ?_
    first
    | exact qW_of hY
    | exact qW_of (hY.sc hS)
  show GG _ _ _ _ _ _ _ _ _ _ _ _ _
  refine g_sipush (v := -10001) hX (dk DX11_of_1 12 rfl) (by decide) ?_
  refine g_ireturn hX (dk DX11_of_1 13 rfl) rfl (rfl) (by decide) (by decide) ?_
  first
  | exact qW_of hY
  | exact qW_of (hY.sc hS)

set_option maxRecDepth 8000 in
set_option maxHeartbeats 4000000 in
theorem z_of {G : Gt} (hG : Gok G) {I : It} {h : Ht}  {E : It} {L : Nat → Int64} (hE : Inv E) (hY : RY E L I h) {a : Int32} (hno : ¬ isD E a) {w : Int32} : Con G (8) 0 0 mX11_of [.ref 0, .int a, .int w] I h (qW E L (hn h)) := by
  refine con_intro (own := RX11) (lo0 := [some (.ref 0), some (.int a), some (.int w), none]) hG rfl pl_X11 (Nat.le_of_ble_eq_true rfl) rfl (fun X hX => ?_)
  have hW := hY.wx hE
  have hH := hW.1
  have hc10 := hW.2.1.2
  refine g_aload_0 hX (dk DX11_of_0 0 rfl) ?_
  refine g_getRs (r := 1) hX (dk DX11_of_0 1 rfl) KX11 fX11_12 (by decide) rfl (CLt hH (q := 0) (by decide)) (CC hH 0 (by decide) rfl) (CR hH 0 0 1 (by decide)) ?_
  refine g_iload_1 hX (dk DX11_of_0 2 rfl) ?_
  refine g_c2R hX sX11_of_5 (by decide) (Nat.le_of_ble_eq_true rfl) (rc0 rfl (CLt hH (by decide)) (CC hH 1 (by decide) rfl)) (by decide) (by decide) (c_X5_find0 hG hW (hY.no hE hno)) ?_
  refine g_astoreN_3 hX (dk DX11_of_0 4 rfl) (by decide) rfl ?_
  refine g_aloadN_3 hX (dk DX11_of_0 5 rfl) ?_
  refine g_ifnonnullN hX (dk DX11_of_0 6 rfl) ?_
  refine g_sipush (v := -10001) hX (dk DX11_of_0 7 rfl) (by decide) ?_
  refine g_ireturn hX (dk DX11_of_0 8 rfl) rfl (rfl) (by decide) (by decide) ?_
  exact qW_of hY

theorem x_of {G : Gt} (hG : Gok G) {I : It} {h : Ht} {E : It} {L : Nat → Int64} (hE : Inv E) (hY : RY E L I h) {a : Int32} {w : Int32} : Con G 8 0 0 mX11_of [.ref 0, .int a, .int w] I h (qW E L (hn h)) := by
  by_cases hh : isD E a
  · obtain ⟨d, hd, rfl⟩ := isD_of hE hh
    exact y_of hG hE hY hd (w := w)
  · exact z_of hG hE hY hh (w := w)
