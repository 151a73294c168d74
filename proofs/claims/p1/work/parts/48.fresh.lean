set_option maxRecDepth 8000 in
set_option maxHeartbeats 4000000 in
theorem n_X0_firstRowNotSo {G : Gt} (hG : Gok G) {I : It} {h : Ht} (hH : HX h) (hN : NX I) (hP : NRF h)  : Con G 3 0 0 mX0_firstRowNotSo [.ref 13] I h (rI (-5) I h) := by
  refine con_intro (own := RX0) (lo0 := [some (.ref 13), none, none]) hG rfl pl_X0 (Nat.le_of_ble_eq_true rfl) rfl (fun X hX => ?_)
  refine g_iconst (v := 0) hX (dk DX0_firstRowNotSo 0 rfl) (by decide) ?_
  refine g_istore_1 hX (dk DX0_firstRowNotSo 1 rfl) (by decide) rfl ?_
  refine g_iload_1 hX (dk DX0_firstRowNotSo 2 rfl) ?_
  refine g_aload_0 hX (dk DX0_firstRowNotSo 3 rfl) ?_
  refine g_getRs (r := 1) hX (dk DX0_firstRowNotSo 4 rfl) KX0 fX0_34 (by decide) rfl (CLt hH (q := 13) (by decide)) (CC hH 13 (by decide) rfl) (CR hH 13 0 1 (by decide)) ?_
  refine g_getIv hX (dk DX0_firstRowNotSo 5 rfl) KX5 fX0_184 (by decide) rfl (CLt hH (q := 1) (by decide)) (CC hH 1 (by decide) rfl) ((hN.1 1 (by decide) 12)) ?_
  refine g_icmp_ge (tgt := 72) hX (dk DX0_firstRowNotSo 6 rfl) (by decide) (fun hc1 => ?_) (fun hc1 => absurd (by decide) hc1)
  refine g_bipush (v := -5) hX (dk DX0_firstRowNotSo 38 rfl) (by decide) ?_
  refine g_ireturn hX (dk DX0_firstRowNotSo 39 rfl) rfl (rfl) (by decide) (by decide) ?_
  exact rI_of rfl rfl rfl

set_option maxRecDepth 8000 in
set_option maxHeartbeats 4000000 in
theorem n_X5_weeksToRows {G : Gt} (hG : Gok G) {I : It} {h : Ht} (hH : HX h) (hN : NX I) (hP : NRF h)  : Con G 3 0 0 mX5_weeksToRows [.ref 1] I h (rI 0 I h) := by
  refine con_intro (own := RX5) (lo0 := [some (.ref 1), none, none]) hG rfl pl_X5 (Nat.le_of_ble_eq_true rfl) rfl (fun X hX => ?_)
  refine g_iconst (v := 0) hX (dk DX5_weeksToRows 0 rfl) (by decide) ?_
  refine g_istore_1 hX (dk DX5_weeksToRows 1 rfl) (by decide) rfl ?_
  refine g_iconst (v := 0) hX (dk DX5_weeksToRows 2 rfl) (by decide) ?_
  refine g_istore_2 hX (dk DX5_weeksToRows 3 rfl) (by decide) rfl ?_
  refine g_iload_2 hX (dk DX5_weeksToRows 4 rfl) ?_
  refine g_aload_0 hX (dk DX5_weeksToRows 5 rfl) ?_
  refine g_getIv hX (dk DX5_weeksToRows 6 rfl) KX5 fX5_58 (by decide) rfl (CLt hH (q := 1) (by decide)) (CC hH 1 (by decide) rfl) ((hN.1 1 (by decide) 12)) ?_
  refine g_icmp_ge (tgt := 36) hX (dk DX5_weeksToRows 7 rfl) (by decide) (fun hc1 => ?_) (fun hc1 => absurd (by decide) hc1)
  refine g_iload_1 hX (dk DX5_weeksToRows 22 rfl) ?_
  refine g_bipush (v := 100) hX (dk DX5_weeksToRows 23 rfl) (by decide) ?_
  refine g_c2I hX sX5_weeksToRows_39 (by decide) (Nat.le_of_ble_eq_true rfl) rcN (by decide) (by decide) (c_J9_min_7cf53 hG) ?_
  refine g_nmI 0 (by decide) ?_
  refine g_ireturn hX (dk DX5_weeksToRows 25 rfl) rfl (rfl) (by decide) (by decide) ?_
  exact rI_of rfl rfl rfl

