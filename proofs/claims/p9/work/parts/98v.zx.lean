set_option maxRecDepth 8000 in
set_option maxHeartbeats 4000000 in
theorem zy_list {G : Gt} (hG : Gok G) {I : It} {h : Ht}  {E : It} {L : Nat → Int64} (hE : Inv E) (hZ : RZ E L I h) {w : Int32} {d : Nat} (hd : d < cnt E) : Con G (3) 0 0 mX11_list [.ref 0, .int w, .int (nI d)] I h (qZ (listS E w (nI d)) L (hn h)) := by
  refine con_intro (own := RX11) (lo0 := [some (.ref 0), some (.int w), some (.int (nI d))]) hG rfl pl_X11 (Nat.le_of_ble_eq_true rfl) rfl (fun X hX => ?_)
  have hY := hZ.1
  have hW := hY.wx hE
  have hH := hW.1
  have hc10 := hW.2.1.2
  have hcE := (inv_cnt hE).2
  have hd10 : d < 10 := Nat.lt_of_lt_of_le hd (inv_cnt hE).2
  have hcd : d < cN I := by rw [hY.cn]; exact hd
  have hDD := isD_mk hE hd
  obtain ⟨g1, g2, g3, g4, g5, g6, g7, g8, g9, g10⟩ := hY.d hd
  obtain ⟨r, hr12, er⟩ := inv_rows hE
  have er2 : I 1 12 = nI r := hY.2.1.1.2.2.2.trans er
  refine g_iload_1 hX (dk DX11_list 0 rfl) ?_
  refine g_iconst (v := -1) hX (dk DX11_list 1 rfl) (by decide) ?_
  refine g_icmp_ne (tgt := 15) hX (dk DX11_list 2 rfl) (by decide) (fun hc1 => ?_) (fun hc1 => ?_)
  · refine g_iload_1 hX (dk DX11_list 9 rfl) ?_
    refine g_iconst (v := 0) hX (dk DX11_list 10 rfl) (by decide) ?_
    refine g_bipush (v := 99) hX (dk DX11_list 11 rfl) (by decide) ?_
    refine g_c3I hX sX11_list_19 (by decide) (Nat.le_of_ble_eq_true rfl) rcN (by decide) (by decide) (c_X11_isNot hG ) ?_
    refine g_ifb_eq (tgt := 28) hX (dk DX11_list 13 rfl) (by decide) (fun hc2 => ?_) (fun hc2 => ?_)
    · refine g_aload_0 hX (dk DX11_list 16 rfl) ?_
      refine g_getRs (r := 1) hX (dk DX11_list 17 rfl) KX11 fX11_12 (by decide) rfl (CLt hH (q := 0) (by decide)) (CC hH 0 (by decide) rfl) (CR hH 0 0 1 (by decide)) ?_
      refine g_iload_2 hX (dk DX11_list 18 rfl) ?_
      refine g_c2R hX sX11_list_33 (by decide) (Nat.le_of_ble_eq_true rfl) (rc0 rfl (CLt hH (by decide)) (CC hH 1 (by decide) rfl)) (by decide) (by decide) (c_X5_find hG hW (by exact hcd)) ?_
      refine g_ifnonnull (tgt := 41) hX (dk DX11_list 20 rfl) (by decide) ?_
      refine g_aload_0 hX (dk DX11_list 23 rfl) ?_
      refine g_getRs (r := 1) hX (dk DX11_list 24 rfl) KX11 fX11_12 (by decide) rfl (CLt hH (q := 0) (by decide)) (CC hH 0 (by decide) rfl) (CR hH 0 0 1 (by decide)) ?_
      refine g_getIv hX (dk DX11_list 25 rfl) KX5 fX11_231 (by decide) rfl (CLt hH (q := 1) (by decide)) (CC hH 1 (by decide) rfl) (er2) ?_
      refine g_bipush (v := 12) hX (dk DX11_list 26 rfl) (by decide) ?_
      refine g_icmp_lt (tgt := 58) hX (dk DX11_list 27 rfl) (by decide) (fun hc3 => ?_) (fun hc3 => ?_)
      · have hlt := hc3
        refine g_aload_0 hX (dk DX11_list 30 rfl) ?_
        refine g_getRs (r := 1) hX (dk DX11_list 31 rfl) KX11 fX11_12 (by decide) rfl (CLt hH (q := 0) (by decide)) (CC hH 0 (by decide) rfl) (CR hH 0 0 1 (by decide)) ?_
        refine g_aload_0 hX (dk DX11_list 32 rfl) ?_
        refine g_getRs (r := 1) hX (dk DX11_list 33 rfl) KX11 fX11_12 (by decide) rfl (CLt hH (q := 0) (by decide)) (CC hH 0 (by decide) rfl) (CR hH 0 0 1 (by decide)) ?_
        refine g_getI hX (dk DX11_list 34 rfl) KX5 fX11_122 (by decide) rfl (CLt hH (q := 1) (by decide)) (CC hH 1 (by decide) rfl) ?_
        refine g_iload_1 hX (dk DX11_list 35 rfl) ?_
        refine g_iadd hX (dk DX11_list 36 rfl) ?_
        refine g_iload_2 hX (dk DX11_list 37 rfl) ?_
        refine g_c3I hX sX11_list_72 (by decide) (Nat.le_of_ble_eq_true rfl) (rc0 rfl (CLt hH (by decide)) (CC hH 1 (by decide) rfl)) (by decide) (by decide) (c_X5_addRow hG hW er2 (lt_nI (b := 12) (by omega) (by decide) hlt)) ?_
        refine g_ireturn hX (dk DX11_list 39 rfl) rfl (rfl) (by decide) (by decide) ?_
        first
        | exact qZ_of (E' := upI (upI (upI E 23 r w) 24 r (nI d)) 0 44 (nI (r + 1))) (by unfold listS; (try first | rw [if_pos hc1] | rw [if_neg hc1] | rw [if_neg (not_not_intro hc1)]); (try first | rw [if_pos hc2] | rw [if_neg hc2] | rw [if_neg (not_not_intro hc2)]); (try first | rw [if_pos hc3] | rw [if_neg hc3] | rw [if_neg (not_not_intro hc3)]); rw [if_neg (not_not_intro hDD), if_neg (show ¬ E 0 44 = 12 from fun z => by rw [er] at z; rw [z] at hlt; exact absurd hlt (by decide)), er, tN_nI (by omega), nI_1]) (by exact ((((hZ.ua (a := 5) (by decide)).ua (a := 6) (by decide)).cc (a := 23) (by decide)).cc (a := 24) (by decide)).wR)
        | exact qZ_of (by unfold listS; (try first | rw [if_pos hc1] | rw [if_neg hc1] | rw [if_neg (not_not_intro hc1)]); (try first | rw [if_pos hc2] | rw [if_neg hc2] | rw [if_neg (not_not_intro hc2)]); (try first | rw [if_pos hc3] | rw [if_neg hc3] | rw [if_neg (not_not_intro hc3)]); rw [if_neg (not_not_intro hDD), if_pos (show E 0 44 = 12 from by rw [er]; exact r_12 hr12 (by assumption))]) hZ
      · refine g_bipush (v := -4) hX (dk DX11_list 28 rfl) (by decide) ?_
        refine g_goto (tgt := 75) hX (dk DX11_list 29 rfl) (by decide) ?_
        refine g_ireturn hX (dk DX11_list 39 rfl) rfl (rfl) (by decide) (by decide) ?_
        first
        | exact qZ_of (E' := upI (upI (upI E 23 r w) 24 r (nI d)) 0 44 (nI (r + 1))) (by unfold listS; (try first | rw [if_pos hc1] | rw [if_neg hc1] | rw [if_neg (not_not_intro hc1)]); (try first | rw [if_pos hc2] | rw [if_neg hc2] | rw [if_neg (not_not_intro hc2)]); (try first | rw [if_pos hc3] | rw [if_neg hc3] | rw [if_neg (not_not_intro hc3)]); rw [if_neg (not_not_intro hDD), if_neg (show ¬ E 0 44 = 12 from fun z => by rw [er] at z; rw [z] at hlt; exact absurd hlt (by decide)), er, tN_nI (by omega), nI_1]) (by exact ((((hZ.ua (a := 5) (by decide)).ua (a := 6) (by decide)).cc (a := 23) (by decide)).cc (a := 24) (by decide)).wR)
        | exact qZ_of (by unfold listS; (try first | rw [if_pos hc1] | rw [if_neg hc1] | rw [if_neg (not_not_intro hc1)]); (try first | rw [if_pos hc2] | rw [if_neg hc2] | rw [if_neg (not_not_intro hc2)]); (try first | rw [if_pos hc3] | rw [if_neg hc3] | rw [if_neg (not_not_intro hc3)]); rw [if_neg (not_not_intro hDD), if_pos (show E 0 44 = 12 from by rw [er]; exact r_12 hr12 (by assumption))]) hZ
    · refine g_bipush (v := -2) hX (dk DX11_list 14 rfl) (by decide) ?_
      refine g_ireturn hX (dk DX11_list 15 rfl) rfl (rfl) (by decide) (by decide) ?_
      exact qZ_of (by unfold listS; (try first | rw [if_pos hc1] | rw [if_neg hc1] | rw [if_neg (not_not_intro hc1)]); (try first | rw [if_pos hc2] | rw [if_neg hc2] | rw [if_neg (not_not_intro hc2)]); first | done | rfl) hZ
  · refine g_aload_0 hX (dk DX11_list 3 rfl) ?_
    refine g_getRs (r := 1) hX (dk DX11_list 4 rfl) KX11 fX11_12 (by decide) rfl (CLt hH (q := 0) (by decide)) (CC hH 0 (by decide) rfl) (CR hH 0 0 1 (by decide)) ?_
    refine g_iconst (v := 0) hX (dk DX11_list 5 rfl) (by decide) ?_
    refine g_putI hX (dk DX11_list 6 rfl) KX5 fX11_231 (by decide) rfl (CLt hH (q := 1) (by decide)) (CC hH 1 (by decide) rfl) (Or.inl rfl) (rfl) (rfl) ?_
    refine g_iconst (v := 0) hX (dk DX11_list 7 rfl) (by decide) ?_
    refine g_ireturn hX (dk DX11_list 8 rfl) rfl (rfl) (by decide) (by decide) ?_
    exact qZ_of (by unfold listS; rw [if_pos (by assumption)]) (by exact hZ.wR)

set_option maxRecDepth 8000 in
set_option maxHeartbeats 4000000 in
theorem zz_list {G : Gt} (hG : Gok G) {I : It} {h : Ht}  {E : It} {L : Nat → Int64} (hE : Inv E) (hZ : RZ E L I h) {w a : Int32} (hno : ¬ isD E a) : Con G (3) 0 0 mX11_list [.ref 0, .int w, .int a] I h (qZ (listS E w a) L (hn h)) := by
  refine con_intro (own := RX11) (lo0 := [some (.ref 0), some (.int w), some (.int a)]) hG rfl pl_X11 (Nat.le_of_ble_eq_true rfl) rfl (fun X hX => ?_)
  have hY := hZ.1
  have hW := hY.wx hE
  have hH := hW.1
  have hc10 := hW.2.1.2
  have hcE := (inv_cnt hE).2
  obtain ⟨r, hr12, er⟩ := inv_rows hE
  have er2 : I 1 12 = nI r := hY.2.1.1.2.2.2.trans er
  refine g_iload_1 hX (dk DX11_list 0 rfl) ?_
  refine g_iconst (v := -1) hX (dk DX11_list 1 rfl) (by decide) ?_
  refine g_icmp_ne (tgt := 15) hX (dk DX11_list 2 rfl) (by decide) (fun hc1 => ?_) (fun hc1 => ?_)
  · refine g_iload_1 hX (dk DX11_list 9 rfl) ?_
    refine g_iconst (v := 0) hX (dk DX11_list 10 rfl) (by decide) ?_
    refine g_bipush (v := 99) hX (dk DX11_list 11 rfl) (by decide) ?_
    refine g_c3I hX sX11_list_19 (by decide) (Nat.le_of_ble_eq_true rfl) rcN (by decide) (by decide) (c_X11_isNot hG ) ?_
    refine g_ifb_eq (tgt := 28) hX (dk DX11_list 13 rfl) (by decide) (fun hc2 => ?_) (fun hc2 => ?_)
    · refine g_aload_0 hX (dk DX11_list 16 rfl) ?_
      refine g_getRs (r := 1) hX (dk DX11_list 17 rfl) KX11 fX11_12 (by decide) rfl (CLt hH (q := 0) (by decide)) (CC hH 0 (by decide) rfl) (CR hH 0 0 1 (by decide)) ?_
      refine g_iload_2 hX (dk DX11_list 18 rfl) ?_
      refine g_c2R hX sX11_list_33 (by decide) (Nat.le_of_ble_eq_true rfl) (rc0 rfl (CLt hH (by decide)) (CC hH 1 (by decide) rfl)) (by decide) (by decide) (c_X5_find0 hG hW (hY.no hE hno)) ?_
      refine g_ifnonnullN hX (dk DX11_list 20 rfl) ?_
      refine g_iconst (v := -1) hX (dk DX11_list 21 rfl) (by decide) ?_
      refine g_ireturn hX (dk DX11_list 22 rfl) rfl (rfl) (by decide) (by decide) ?_
      exact qZ_of (by unfold listS; (try first | rw [if_pos hc1] | rw [if_neg hc1] | rw [if_neg (not_not_intro hc1)]); (try first | rw [if_pos hc2] | rw [if_neg hc2] | rw [if_neg (not_not_intro hc2)]); rw [if_pos hno]) hZ
    · refine g_bipush (v := -2) hX (dk DX11_list 14 rfl) (by decide) ?_
      refine g_ireturn hX (dk DX11_list 15 rfl) rfl (rfl) (by decide) (by decide) ?_
      exact qZ_of (by unfold listS; (try first | rw [if_pos hc1] | rw [if_neg hc1] | rw [if_neg (not_not_intro hc1)]); (try first | rw [if_pos hc2] | rw [if_neg hc2] | rw [if_neg (not_not_intro hc2)]); first | done | rfl) hZ
  · refine g_aload_0 hX (dk DX11_list 3 rfl) ?_
    refine g_getRs (r := 1) hX (dk DX11_list 4 rfl) KX11 fX11_12 (by decide) rfl (CLt hH (q := 0) (by decide)) (CC hH 0 (by decide) rfl) (CR hH 0 0 1 (by decide)) ?_
    refine g_iconst (v := 0) hX (dk DX11_list 5 rfl) (by decide) ?_
    refine g_putI hX (dk DX11_list 6 rfl) KX5 fX11_231 (by decide) rfl (CLt hH (q := 1) (by decide)) (CC hH 1 (by decide) rfl) (Or.inl rfl) (rfl) (rfl) ?_
    refine g_iconst (v := 0) hX (dk DX11_list 7 rfl) (by decide) ?_
    refine g_ireturn hX (dk DX11_list 8 rfl) rfl (rfl) (by decide) (by decide) ?_
    exact qZ_of (by unfold listS; rw [if_pos (by assumption)]) (by exact hZ.wR)

theorem zx_list {G : Gt} (hG : Gok G) {I : It} {h : Ht} {E : It} {L : Nat → Int64} (hE : Inv E) (hZ : RZ E L I h) {w a : Int32} : Con G 3 0 0 mX11_list [.ref 0, .int w, .int a] I h (qZ (listS E w a) L (hn h)) := by
  by_cases hh : isD E a
  · obtain ⟨d, hd, rfl⟩ := isD_of hE hh
    exact zy_list hG hE hZ hd
  · exact zz_list hG hE hZ hh
set_option maxRecDepth 8000 in
set_option maxHeartbeats 4000000 in
theorem zx_image {G : Gt} (hG : Gok G) {I : It} {h : Ht}  {E : It} {L : Nat → Int64} (hE : Inv E) (hZ : RZ E L I h)  : Con G (3) 0 0 mX11_image [.ref 0] I h (qZ (imageS E) L (hn h)) := by
  refine con_intro (own := RX11) (lo0 := [some (.ref 0)]) hG rfl pl_X11 (Nat.le_of_ble_eq_true rfl) rfl (fun X hX => ?_)
  have hY := hZ.1
  have hW := hY.wx hE
  have hH := hW.1
  have hc10 := hW.2.1.2
  have hcE := (inv_cnt hE).2
  refine g_aload_0 hX (dk DX11_image 0 rfl) ?_
  refine g_getRs (r := 7) hX (dk DX11_image 1 rfl) KX11 fX11_18 (by decide) rfl (CLt hH (q := 0) (by decide)) (CC hH 0 (by decide) rfl) (CR hH 0 1 7 (by decide)) ?_
  refine g_aload_0 hX (dk DX11_image 2 rfl) ?_
  refine g_getRs (r := 1) hX (dk DX11_image 3 rfl) KX11 fX11_12 (by decide) rfl (CLt hH (q := 0) (by decide)) (CC hH 0 (by decide) rfl) (CR hH 0 0 1 (by decide)) ?_
  refine g_c2v hX sX11_image_8 (by decide) (Nat.le_of_ble_eq_true rfl) (rc0 rfl (CLt hH (by decide)) (CC hH 7 (by decide) rfl)) (by decide) (by decide) (c_take7 hG hH hY.2.2.2.1.1) ?_
  rintro J h9 hT
  have en : hn h9 = hn h := hT.2.2.2.2.2.2.2.2.2.2.2.1
  have hx9 : HX h9 := hT.2.2.2.2.2.2.2.2.2.2.2.2.2
  have hZ9 := hZ.img hE hT
  have hY9 := hZ9.1
  have hH := hx9
  refine g_aload_0 hX (dk DX11_image 5 rfl) ?_
  refine g_iconst (v := 1) hX (dk DX11_image 6 rfl) (by decide) ?_
  refine g_putI hX (dk DX11_image 7 rfl) KX11 fX11_254 (by decide) rfl (CLt hH (q := 0) (by decide)) (CC hH 0 (by decide) rfl) (Or.inl rfl) (by decide) (by decide) ?_
  refine g_aload_0 hX (dk DX11_image 8 rfl) ?_
  refine g_getRs (r := 1) hX (dk DX11_image 9 rfl) KX11 fX11_12 (by decide) rfl (CLt hH (q := 0) (by decide)) (CC hH 0 (by decide) rfl) (CR hH 0 0 1 (by decide)) ?_
  refine g_getIv hX (dk DX11_image 10 rfl) KX5 fX11_72 (by decide) rfl (CLt hH (q := 1) (by decide)) (CC hH 1 (by decide) rfl) ((hY9.2.1.1.1.trans (img_0 (by decide)))) ?_
  refine g_ireturn hX (dk DX11_image 11 rfl) rfl (rfl) (by decide) (by decide) ?_
  exact qZ_ofN rfl hZ9 (Nat.le_of_eq en)

set_option maxRecDepth 8000 in
set_option maxHeartbeats 4000000 in
theorem zx_undo {G : Gt} (hG : Gok G) {I : It} {h : Ht}  {E : It} {L : Nat → Int64} (hE : Inv E) (hZ : RZ E L I h)  : Con G (3) 0 0 mX11_undo [.ref 0] I h (qZ (undoS E) L (hn h)) := by
  refine con_intro (own := RX11) (lo0 := [some (.ref 0)]) hG rfl pl_X11 (Nat.le_of_ble_eq_true rfl) rfl (fun X hX => ?_)
  have hY := hZ.1
  have hW := hY.wx hE
  have hH := hW.1
  have hc10 := hW.2.1.2
  have hcE := (inv_cnt hE).2
  refine g_aload_0 hX (dk DX11_undo 0 rfl) ?_
  refine g_getIv hX (dk DX11_undo 1 rfl) KX11 fX11_254 (by decide) rfl (CLt hH (q := 0) (by decide)) (CC hH 0 (by decide) rfl) (hY.2.2.1.1) ?_
  refine g_if_ne (tgt := 10) hX (dk DX11_undo 2 rfl) (by decide) (fun hc1 => ?_) (fun hc1 => ?_)
  · refine g_aload_0 hX (dk DX11_undo 5 rfl) ?_
    refine g_getRs (r := 1) hX (dk DX11_undo 6 rfl) KX11 fX11_12 (by decide) rfl (CLt hH (q := 0) (by decide)) (CC hH 0 (by decide) rfl) (CR hH 0 0 1 (by decide)) ?_
    refine g_aload_0 hX (dk DX11_undo 7 rfl) ?_
    refine g_getRs (r := 7) hX (dk DX11_undo 8 rfl) KX11 fX11_18 (by decide) rfl (CLt hH (q := 0) (by decide)) (CC hH 0 (by decide) rfl) (CR hH 0 1 7 (by decide)) ?_
    refine g_c2v hX sX11_undo_18 (by decide) (Nat.le_of_ble_eq_true rfl) (rc0 rfl (CLt hH (by decide)) (CC hH 1 (by decide) rfl)) (by decide) (by decide) (c_take1 hG hH hY.2.2.2.1.2) ?_
    rintro J h9 hT
    have en : hn h9 = hn h := hT.2.2.2.2.2.2.2.2.2.2.2.1
    have hx9 : HX h9 := hT.2.2.2.2.2.2.2.2.2.2.2.2.2
    have hZ9 := hZ.und hE hc1 hT
    have hY9 := hZ9.1
    have hH := hx9
    refine g_aload_0 hX (dk DX11_undo 10 rfl) ?_
    refine g_getRs (r := 1) hX (dk DX11_undo 11 rfl) KX11 fX11_12 (by decide) rfl (CLt hH (q := 0) (by decide)) (CC hH 0 (by decide) rfl) (CR hH 0 0 1 (by decide)) ?_
    refine g_getIv hX (dk DX11_undo 12 rfl) KX5 fX11_72 (by decide) rfl (CLt hH (q := 1) (by decide)) (CC hH 1 (by decide) rfl) (hY9.2.1.1.1) ?_
    refine g_ireturn hX (dk DX11_undo 13 rfl) rfl (rfl) (by decide) (by decide) ?_
    exact qZ_ofN (by unfold undoS; rw [if_neg hc1]; rfl) hZ9 (Nat.le_of_eq en)
  · refine g_bipush (v := -3) hX (dk DX11_undo 3 rfl) (by decide) ?_
    refine g_ireturn hX (dk DX11_undo 4 rfl) rfl (rfl) (by decide) (by decide) ?_
    exact qZ_of (by unfold undoS; rw [if_pos (by first | exact hc1 | exact Decidable.not_not.mp hc1)]) hZ

set_option maxRecDepth 8000 in
set_option maxHeartbeats 4000000 in
theorem zy_act {G : Gt} (hG : Gok G) {I : It} {h : Ht}  {E : It} {L : Nat → Int64} (hE : Inv E) (hZ : RZ E L I h) {d : Nat} (hd : d < cnt E) {w x : Int32} : Con G (9) 0 0 mX11_act [.ref 0, .int (nI d), .int w, .int x] I h (qZ (actS E (nI d) w x) L (hn h)) := by
  refine con_intro (own := RX11) (lo0 := [some (.ref 0), some (.int (nI d)), some (.int w), some (.int x), none]) hG rfl pl_X11 (Nat.le_of_ble_eq_true rfl) rfl (fun X hX => ?_)
  have hY := hZ.1
  have hW := hY.wx hE
  have hH := hW.1
  have hc10 := hW.2.1.2
  have hcE := (inv_cnt hE).2
  have hd10 : d < 10 := Nat.lt_of_lt_of_le hd (inv_cnt hE).2
  have hcd : d < cN I := by rw [hY.cn]; exact hd
  have hDD := isD_mk hE hd
  obtain ⟨g1, g2, g3, g4, g5, g6, g7, g8, g9, g10⟩ := hY.d hd
  refine g_aload_0 hX (dk DX11_act 0 rfl) ?_
  refine g_getRs (r := 32) hX (dk DX11_act 1 rfl) KX11 fX11_43 (by decide) rfl (CLt hH (q := 0) (by decide)) (CC hH 0 (by decide) rfl) (CR hH 0 8 32 (by decide)) ?_
  refine g_iconst (v := 0) hX (dk DX11_act 2 rfl) (by decide) ?_
  refine g_putI hX (dk DX11_act 3 rfl) KX7 fX11_258 (by decide) rfl (CLt hH (q := 32) (by decide)) (CC hH 32 (by decide) rfl) (Or.inl rfl) (rfl) (rfl) ?_
  refine g_aload_0 hX (dk DX11_act 4 rfl) ?_
  refine g_getRs (r := 1) hX (dk DX11_act 5 rfl) KX11 fX11_12 (by decide) rfl (CLt hH (q := 0) (by decide)) (CC hH 0 (by decide) rfl) (CR hH 0 0 1 (by decide)) ?_
  refine g_iload_1 hX (dk DX11_act 6 rfl) ?_
  refine g_c2R hX sX11_act_13 (by decide) (Nat.le_of_ble_eq_true rfl) (rc0 rfl (CLt hH (by decide)) (CC hH 1 (by decide) rfl)) (by decide) (by decide) (c_X5_find hG (hW.tr (of_0 I [])) (by exact hcd)) ?_
  refine g_astore_4 hX (dk DX11_act 8 rfl) (by decide) rfl ?_
  refine g_aload_4 hX (dk DX11_act 9 rfl) ?_
  refine g_ifnonnull (tgt := 25) hX (dk DX11_act 10 rfl) (by decide) ?_
  refine g_iload_2 hX (dk DX11_act 13 rfl) ?_
  refine g_tswitch (dt := 85) hX [(0, 52), (1, 63), (2, 74)] (dk DX11_act 14 rfl) (by decide +kernel) ?_
  refine ⟨fun hc1 => ?_, fun hc1n => ?_⟩
  · show GG _ _ _ _ _ _ _ _ _ _ _ _ _
    refine g_aload_4 hX (dk DX11_act 15 rfl) ?_
    refine g_iload_3 hX (dk DX11_act 16 rfl) ?_
    refine g_aload_0 hX (dk DX11_act 17 rfl) ?_
    refine g_getRs (r := 32) hX (dk DX11_act 18 rfl) KX11 fX11_43 (by decide) rfl (CLt hH (q := 0) (by decide)) (CC hH 0 (by decide) rfl) (CR hH 0 8 32 (by decide)) ?_
    refine g_c3I hX (sD_X11_act_59 _ (by rw [g4]; exact kcl_dc _)) (by decide) (Nat.le_of_ble_eq_true rfl) (rc0 rfl g3 rfl) (by decide) (by decide) (cD_says hG g3 (by rw [g4]; exact kcl_dc _) hH (r := 0) (by exact up0 _ _ _ _) (by decide) (by omega) (by omega)) ?_
    refine g_ireturn hX (dk DX11_act 20 rfl) rfl (rfl) (by decide) (by decide) ?_
    exact qZ_of (E' := putB (upI E 0 67 0) (saysB E d)) (by unfold actS; rw [if_neg (not_not_intro hDD), show w = 0 by assumption, if_neg (by decide), if_neg (by decide), tN_nI (by omega), show tbL (upI I 32 1 0) [] (dn h d) = I (dn h d) from upI_off (by omega), g5, g6, g4, (ac_all hE hd).1.1 x]) (by rw [g4, (ac_all hE hd).1.2]; exact hZ.act _)
  refine ⟨fun hc2 => ?_, fun hc2n => ?_⟩
  · show GG _ _ _ _ _ _ _ _ _ _ _ _ _
    refine g_aload_4 hX (dk DX11_act 21 rfl) ?_
    refine g_iload_3 hX (dk DX11_act 22 rfl) ?_
    refine g_aload_0 hX (dk DX11_act 23 rfl) ?_
    refine g_getRs (r := 32) hX (dk DX11_act 24 rfl) KX11 fX11_43 (by decide) rfl (CLt hH (q := 0) (by decide)) (CC hH 0 (by decide) rfl) (CR hH 0 8 32 (by decide)) ?_
    refine g_c3I hX (sD_X11_act_70 _ (by rw [g4]; exact kcl_dc _)) (by decide) (Nat.le_of_ble_eq_true rfl) (rc0 rfl g3 rfl) (by decide) (by decide) (cD_holds hG g3 (by rw [g4]; exact kcl_dc _) hH (r := 0) (by exact up0 _ _ _ _) (by decide) (by omega) (by omega)) ?_
    refine g_ireturn hX (dk DX11_act 26 rfl) rfl (rfl) (by decide) (by decide) ?_
    exact qZ_of (E' := putB (upI E 0 67 0) (holdsB E d)) (by unfold actS; rw [if_neg (not_not_intro hDD), show w = 1 by assumption, if_neg (by decide), if_pos (by decide), if_pos rfl, tN_nI (by omega), show tbL (upI I 32 1 0) [] (dn h d) = I (dn h d) from upI_off (by omega), g5, g6, g4, (ac_all hE hd).2.1.1 x]) (by rw [g4, (ac_all hE hd).2.1.2]; exact hZ.act _)
  refine ⟨fun hc3 => ?_, fun hc3n => ?_⟩
  · show GG _ _ _ _ _ _ _ _ _ _ _ _ _
    refine g_aload_4 hX (dk DX11_act 27 rfl) ?_
    refine g_iload_3 hX (dk DX11_act 28 rfl) ?_
    refine g_aload_0 hX (dk DX11_act 29 rfl) ?_
    refine g_getRs (r := 32) hX (dk DX11_act 30 rfl) KX11 fX11_43 (by decide) rfl (CLt hH (q := 0) (by decide)) (CC hH 0 (by decide) rfl) (CR hH 0 8 32 (by decide)) ?_
    refine g_c3I hX (sD_X11_act_81 _ (by rw [g4]; exact kcl_dc _)) (by decide) (Nat.le_of_ble_eq_true rfl) (rc0 rfl g3 rfl) (by decide) (by decide) (cD_tells hG g3 (by rw [g4]; exact kcl_dc _) hH (r := 0) (by exact up0 _ _ _ _) (by decide) (by omega) (by omega)) ?_
    refine g_ireturn hX (dk DX11_act 32 rfl) rfl (rfl) (by decide) (by decide) ?_
    exact qZ_of (E' := putB (upI E 0 67 0) (tellsB E d)) (by unfold actS; rw [if_neg (not_not_intro hDD), show w = 2 by assumption, if_neg (by decide), if_pos (by decide), if_neg (by decide), tN_nI (by omega), show tbL (upI I 32 1 0) [] (dn h d) = I (dn h d) from upI_off (by omega), g5, g6, g4, (ac_all hE hd).2.2.1 x]) (by rw [g4, (ac_all hE hd).2.2.2]; exact hZ.act _)
  show GG _ _ _ _ _ _ _ _ _ _ _ _ _
  refine g_iconst (v := 0) hX (dk DX11_act 33 rfl) (by decide) ?_
  refine g_ireturn hX (dk DX11_act 34 rfl) rfl (rfl) (by decide) (by decide) ?_
  exact qZ_of (E' := upI E 0 67 0) (by unfold actS; rw [if_neg (not_not_intro hDD), if_pos (w012 (by assumption) (by assumption) (by assumption))]) (by exact hZ.act [])

set_option maxRecDepth 8000 in
set_option maxHeartbeats 4000000 in
theorem zz_act {G : Gt} (hG : Gok G) {I : It} {h : Ht}  {E : It} {L : Nat → Int64} (hE : Inv E) (hZ : RZ E L I h) {a : Int32} (hno : ¬ isD E a) {w x : Int32} : Con G (9) 0 0 mX11_act [.ref 0, .int a, .int w, .int x] I h (qZ (actS E a w x) L (hn h)) := by
  refine con_intro (own := RX11) (lo0 := [some (.ref 0), some (.int a), some (.int w), some (.int x), none]) hG rfl pl_X11 (Nat.le_of_ble_eq_true rfl) rfl (fun X hX => ?_)
  have hY := hZ.1
  have hW := hY.wx hE
  have hH := hW.1
  have hc10 := hW.2.1.2
  have hcE := (inv_cnt hE).2
  refine g_aload_0 hX (dk DX11_act 0 rfl) ?_
  refine g_getRs (r := 32) hX (dk DX11_act 1 rfl) KX11 fX11_43 (by decide) rfl (CLt hH (q := 0) (by decide)) (CC hH 0 (by decide) rfl) (CR hH 0 8 32 (by decide)) ?_
  refine g_iconst (v := 0) hX (dk DX11_act 2 rfl) (by decide) ?_
  refine g_putI hX (dk DX11_act 3 rfl) KX7 fX11_258 (by decide) rfl (CLt hH (q := 32) (by decide)) (CC hH 32 (by decide) rfl) (Or.inl rfl) (rfl) (rfl) ?_
  refine g_aload_0 hX (dk DX11_act 4 rfl) ?_
  refine g_getRs (r := 1) hX (dk DX11_act 5 rfl) KX11 fX11_12 (by decide) rfl (CLt hH (q := 0) (by decide)) (CC hH 0 (by decide) rfl) (CR hH 0 0 1 (by decide)) ?_
  refine g_iload_1 hX (dk DX11_act 6 rfl) ?_
  refine g_c2R hX sX11_act_13 (by decide) (Nat.le_of_ble_eq_true rfl) (rc0 rfl (CLt hH (by decide)) (CC hH 1 (by decide) rfl)) (by decide) (by decide) (c_X5_find0 hG (hW.tr (of_0 I [])) (by exact hY.no hE hno)) ?_
  refine g_astoreN_4 hX (dk DX11_act 8 rfl) (by decide) rfl ?_
  refine g_aloadN_4 hX (dk DX11_act 9 rfl) ?_
  refine g_ifnonnullN hX (dk DX11_act 10 rfl) ?_
  refine g_iconst (v := 0) hX (dk DX11_act 11 rfl) (by decide) ?_
  refine g_ireturn hX (dk DX11_act 12 rfl) rfl (rfl) (by decide) (by decide) ?_
  exact qZ_of (E' := upI E 0 67 0) (by unfold actS; rw [if_pos hno]) (by exact hZ.act [])

theorem zx_act {G : Gt} (hG : Gok G) {I : It} {h : Ht} {E : It} {L : Nat → Int64} (hE : Inv E) (hZ : RZ E L I h) {a : Int32} {w x : Int32} : Con G 9 0 0 mX11_act [.ref 0, .int a, .int w, .int x] I h (qZ (actS E a w x) L (hn h)) := by
  by_cases hh : isD E a
  · obtain ⟨d, hd, rfl⟩ := isD_of hE hh
    exact zy_act hG hE hZ hd
  · exact zz_act hG hE hZ hh
