set_option maxRecDepth 8000 in
set_option maxHeartbeats 4000000 in
theorem zx_hand {G : Gt} (hG : Gok G) {I : It} {h : Ht}  {E : It} {L : Nat → Int64} (hE : Inv E) (hZ : RZ E L I h)  : Con G (8) 0 0 mX11_hand [.ref 0] I h (qZ (handS E) L (hn h)) := by
  refine con_intro (own := RX11) (lo0 := [some (.ref 0), none]) hG rfl pl_X11 (Nat.le_of_ble_eq_true rfl) rfl (fun X hX => ?_)
  have hY := hZ.1
  have hW := hY.wx hE
  have hH := hW.1
  have hc10 := hW.2.1.2
  have hcE := (inv_cnt hE).2
  refine g_aload_0 hX (dk DX11_hand 0 rfl) ?_
  refine g_getRs (r := 13) hX (dk DX11_hand 1 rfl) KX11 fX11_26 (by decide) rfl (CLt hH (q := 0) (by decide)) (CC hH 0 (by decide) rfl) (CR hH 0 3 13 (by decide)) ?_
  refine g_c1v hX sX11_hand_4 (by decide) (Nat.le_of_ble_eq_true rfl) (rc0 rfl (CLt hH (by decide)) (CC hH 13 (by decide) rfl)) (by decide) (by decide) (e_hear hG hE hZ) ?_
  rintro J _ ⟨q1, hHD, rfl⟩
  have hS : Sc I J := fun a ha => q1 a (by omega)
  have hZJ := hZ.sc hE hS
  obtain ⟨m9, hm9, em9, on9, or9⟩ := hand_e (inv_kn hE) (kb_over (E 8) hcE) hcE
  refine g_aload_0 hX (dk DX11_hand 3 rfl) ?_
  refine g_getRs (r := 13) hX (dk DX11_hand 4 rfl) KX11 fX11_26 (by decide) rfl (CLt hH (q := 0) (by decide)) (CC hH 0 (by decide) rfl) (CR hH 0 3 13 (by decide)) ?_
  refine g_aload_0 hX (dk DX11_hand 5 rfl) ?_
  refine g_getRs (r := 1) hX (dk DX11_hand 6 rfl) KX11 fX11_12 (by decide) rfl (CLt hH (q := 0) (by decide)) (CC hH 0 (by decide) rfl) (CR hH 0 0 1 (by decide)) ?_
  refine g_getRs (r := 4) hX (dk DX11_hand 7 rfl) KX5 fX11_139 (by decide) rfl (CLt hH (q := 1) (by decide)) (CC hH 1 (by decide) rfl) (CR hH 1 5 4 (by decide)) ?_
  refine g_c2I hX sX11_hand_18 (by decide) (Nat.le_of_ble_eq_true rfl) (rc0 rfl (CLt hH (by decide)) (CC hH 13 (by decide) rfl)) (by decide) (by decide) (e_goingOver hG hE hZJ (CLt hH (q := 4) (by decide)) (CS hH 4 (by decide) rfl) hHD) ?_
  refine g_nmI (overF E (E 8)) (overF_hr (fun y hy => hZJ.1.2.1.2.2.1 y hy)) ?_
  refine g_aload_0 hX (dk DX11_hand 9 rfl) ?_
  refine g_getRs (r := 1) hX (dk DX11_hand 10 rfl) KX11 fX11_12 (by decide) rfl (CLt hH (q := 0) (by decide)) (CC hH 0 (by decide) rfl) (CR hH 0 0 1 (by decide)) ?_
  refine g_getIv hX (dk DX11_hand 11 rfl) KX5 fX11_116 (by decide) rfl (CLt hH (q := 1) (by decide)) (CC hH 1 (by decide) rfl) (hZJ.2.1.1) ?_
  refine g_iconst (v := -1) hX (dk DX11_hand 12 rfl) (by decide) ?_
  refine g_ixor hX (dk DX11_hand 13 rfl) ?_
  refine g_iand hX (dk DX11_hand 14 rfl) ?_
  refine g_istore_1 hX (dk DX11_hand 15 rfl) (by decide) rfl ?_
  refine g_aload_0 hX (dk DX11_hand 16 rfl) ?_
  refine g_getRs (r := 1) hX (dk DX11_hand 17 rfl) KX11 fX11_12 (by decide) rfl (CLt hH (q := 0) (by decide)) (CC hH 0 (by decide) rfl) (CR hH 0 0 1 (by decide)) ?_
  refine g_dup hX (dk DX11_hand 18 rfl) rfl ?_
  refine g_getIv hX (dk DX11_hand 19 rfl) KX5 fX11_116 (by decide) rfl (CLt hH (q := 1) (by decide)) (CC hH 1 (by decide) rfl) (hZJ.2.1.1) ?_
  refine g_iload_1 hX (dk DX11_hand 20 rfl) ?_
  refine g_ior hX (dk DX11_hand 21 rfl) ?_
  rw [or9]
  refine g_putI hX (dk DX11_hand 22 rfl) KX5 fX11_116 (by decide) rfl (CLt hH (q := 1) (by decide)) (CC hH 1 (by decide) rfl) (Or.inl rfl) (rfl) (rfl) ?_
  refine g_iload_1 hX (dk DX11_hand 23 rfl) ?_
  refine g_c1q hX sX11_hand_46 (by decide) (Nat.le_of_ble_eq_true rfl) rcN (by decide) (by decide) (c_J6_bitCount_0f7a4 hG) ?_
  rintro y9 I9 h9 ⟨hy, e1, e2⟩
  subst e1
  subst e2
  refine g_nmI (onesI (E 0 5 ||| overF E (E 8)) - onesI (E 0 5)) ((hy m9 hm9 em9).trans on9) ?_
  refine g_ireturn hX (dk DX11_hand 25 rfl) rfl (rfl) (by decide) (by decide) ?_
  exact qZ_of rfl (by exact hZJ.wK)

