set_option maxRecDepth 8000 in
set_option maxHeartbeats 4000000 in
theorem zx_go {G : Gt} (hG : Gok G) {I : It} {h : Ht}  {E : It} {L : Nat → Int64} (hE : Inv E) (hZ : RZ E L I h) {n : Int32} : Con G (8) 0 0 mX11_go [.ref 0, .int n] I h (qZ (goS E n) L (hn h)) := by
  refine con_intro (own := RX11) (lo0 := [some (.ref 0), some (.int n)]) hG rfl pl_X11 (Nat.le_of_ble_eq_true rfl) rfl (fun X hX => ?_)
  have hY := hZ.1
  have hW := hY.wx hE
  have hH := hW.1
  have hc10 := hW.2.1.2
  have hcE := (inv_cnt hE).2
  refine g_iload_1 hX (dk DX11_go_0 0 rfl) ?_
  refine g_iconst (v := 1) hX (dk DX11_go_0 1 rfl) (by decide) ?_
  refine g_bipush (v := 60) hX (dk DX11_go_0 2 rfl) (by decide) ?_
  refine g_c3I hX sX11_go_4 (by decide) (Nat.le_of_ble_eq_true rfl) rcN (by decide) (by decide) (c_X11_isNot hG ) ?_
  refine g_ifb_eq (tgt := 13) hX (dk DX11_go_0 4 rfl) (by decide) (fun hc1 => ?_) (fun hc1 => ?_)
  · obtain ⟨m, hm1, hm60, rfl⟩ := in1_of (c := 1) (b := 60) (by decide) (by decide) (Decidable.not_not.mp hc1)
    have hm2 : m ≤ 200 := by omega
    refine g_aload_0 hX (dk DX11_go_0 7 rfl) ?_
    refine g_getRs (r := 1) hX (dk DX11_go_0 8 rfl) KX11 fX11_12 (by decide) rfl (CLt hH (q := 0) (by decide)) (CC hH 0 (by decide) rfl) (CR hH 0 0 1 (by decide)) ?_
    refine g_getIv hX (dk DX11_go_0 9 rfl) KX5 fX11_122 (by decide) rfl (CLt hH (q := 1) (by decide)) (CC hH 1 (by decide) rfl) (hY.2.1.1.2.1) ?_
    refine g_iload_1 hX (dk DX11_go_0 10 rfl) ?_
    refine g_iadd hX (dk DX11_go_0 11 rfl) ?_
    refine g_sipush (v := 9999) hX (dk DX11_go_0 12 rfl) (by decide) ?_
    refine g_icmp_le (tgt := 31) hX (dk DX11_go_0 13 rfl) (by decide) (fun hc2 => ?_) (fun hc2 => ?_)
    · refine g_aload_0 hX (dk DX11_go_0 16 rfl) ?_
      refine g_getRs (r := 13) hX (dk DX11_go_0 17 rfl) KX11 fX11_26 (by decide) rfl (CLt hH (q := 0) (by decide)) (CC hH 0 (by decide) rfl) (CR hH 0 3 13 (by decide)) ?_
      refine g_iload_1 hX (dk DX11_go_0 18 rfl) ?_
      refine g_c2v hX sX11_go_36 (by decide) (Nat.le_of_ble_eq_true rfl) (rc0 rfl (CLt hH (by decide)) (CC hH 13 (by decide) rfl)) (by decide) (by decide) (e_look hG hE hZ hm2) ?_
      rintro J _ ⟨hS, hsp, hAH, rfl⟩
      have hZJ := hZ.sc hE hS
      have hWJ := hZJ.1.wx hE
      refine g_aload_0 hX (dk DX11_go_0 20 rfl) ?_
      refine g_getRs (r := 1) hX (dk DX11_go_0 21 rfl) KX11 fX11_12 (by decide) rfl (CLt hH (q := 0) (by decide)) (CC hH 0 (by decide) rfl) (CR hH 0 0 1 (by decide)) ?_
      refine g_dup hX (dk DX11_go_0 22 rfl) rfl ?_
      refine g_getIv hX (dk DX11_go_0 23 rfl) KX5 fX11_162 (by decide) rfl (CLt hH (q := 1) (by decide)) (CC hH 1 (by decide) rfl) (hZJ.2.1.2.1) ?_
      refine g_aload_0 hX (dk DX11_go_0 24 rfl) ?_
      refine g_getRs (r := 13) hX (dk DX11_go_0 25 rfl) KX11 fX11_26 (by decide) rfl (CLt hH (q := 0) (by decide)) (CC hH 0 (by decide) rfl) (CR hH 0 3 13 (by decide)) ?_
      refine g_aload_0 hX (dk DX11_go_0 26 rfl) ?_
      refine g_getRs (r := 1) hX (dk DX11_go_0 27 rfl) KX11 fX11_12 (by decide) rfl (CLt hH (q := 0) (by decide)) (CC hH 0 (by decide) rfl) (CR hH 0 0 1 (by decide)) ?_
      refine g_getIv hX (dk DX11_go_0 28 rfl) KX5 fX11_116 (by decide) rfl (CLt hH (q := 1) (by decide)) (CC hH 1 (by decide) rfl) (hZJ.2.1.1) ?_
      refine g_aload_0 hX (dk DX11_go_0 29 rfl) ?_
      refine g_getRs (r := 1) hX (dk DX11_go_0 30 rfl) KX11 fX11_12 (by decide) rfl (CLt hH (q := 0) (by decide)) (CC hH 0 (by decide) rfl) (CR hH 0 0 1 (by decide)) ?_
      refine g_getIv hX (dk DX11_go_0 31 rfl) KX5 fX11_109 (by decide) rfl (CLt hH (q := 1) (by decide)) (CC hH 1 (by decide) rfl) (hZJ.1.2.1.1.2.2.1) ?_
      refine g_c3q hX sX11_go_65 (by decide) (Nat.le_of_ble_eq_true rfl) (rc0 rfl (CLt hH (by decide)) (CC hH 13 (by decide) rfl)) (by decide) (by decide) (e_pass hG hE hZJ (inv_kn hE) (inv_id hE) hm2 hsp hAH) ?_
      rintro _ J2 h9 ⟨rfl, hT, hP2, e9⟩
      subst e9
      obtain ⟨k1, k2, k3, k4, k5, k6⟩ := hT.all
      have hS2 := hS.trans hP2.sc
      have hZ2 := hZ.sc hE hS2
      refine g_iadd hX (dk DX11_go_0 33 rfl) ?_
      refine g_putI hX (dk DX11_go_0 34 rfl) KX5 fX11_162 (by decide) rfl (CLt hH (q := 1) (by decide)) (CC hH 1 (by decide) rfl) (Or.inl rfl) (rfl) (rfl) ?_
      refine g_aload_0 hX (dk DX11_go_0 35 rfl) ?_
      refine g_getRs (r := 1) hX (dk DX11_go_0 36 rfl) KX11 fX11_12 (by decide) rfl (CLt hH (q := 0) (by decide)) (CC hH 0 (by decide) rfl) (CR hH 0 0 1 (by decide)) ?_
      refine g_dup hX (dk DX11_go_0 37 rfl) rfl ?_
      refine g_getIv hX (dk DX11_go_0 38 rfl) KX5 fX11_165 (by decide) rfl (CLt hH (q := 1) (by decide)) (CC hH 1 (by decide) rfl) ((show _ = E 0 3 from hZ2.2.1.2.2.1)) ?_
      refine g_aload_0 hX (dk DX11_go_0 39 rfl) ?_
      refine g_getRs (r := 13) hX (dk DX11_go_0 40 rfl) KX11 fX11_26 (by decide) rfl (CLt hH (q := 0) (by decide)) (CC hH 0 (by decide) rfl) (CR hH 0 3 13 (by decide)) ?_
      refine g_getIv hX (dk DX11_go_0 41 rfl) KX0 fX11_193 (by decide) rfl (CLt hH (q := 13) (by decide)) (CC hH 13 (by decide) rfl) ((show _ = (runF E (E 0 5) (E 0 6) m).2.2.2.1 from k3)) ?_
      refine g_iadd hX (dk DX11_go_0 42 rfl) ?_
      refine g_putI hX (dk DX11_go_0 43 rfl) KX5 fX11_165 (by decide) rfl (CLt hH (q := 1) (by decide)) (CC hH 1 (by decide) rfl) (Or.inl rfl) (rfl) (rfl) ?_
      refine g_aload_0 hX (dk DX11_go_0 44 rfl) ?_
      refine g_getRs (r := 1) hX (dk DX11_go_0 45 rfl) KX11 fX11_12 (by decide) rfl (CLt hH (q := 0) (by decide)) (CC hH 0 (by decide) rfl) (CR hH 0 0 1 (by decide)) ?_
      refine g_dup hX (dk DX11_go_0 46 rfl) rfl ?_
      refine g_getIv hX (dk DX11_go_0 47 rfl) KX5 fX11_168 (by decide) rfl (CLt hH (q := 1) (by decide)) (CC hH 1 (by decide) rfl) ((show _ = E 0 4 from hZ2.2.1.2.2.2)) ?_
      refine g_aload_0 hX (dk DX11_go_0 48 rfl) ?_
      refine g_getRs (r := 13) hX (dk DX11_go_0 49 rfl) KX11 fX11_26 (by decide) rfl (CLt hH (q := 0) (by decide)) (CC hH 0 (by decide) rfl) (CR hH 0 3 13 (by decide)) ?_
      refine g_getIv hX (dk DX11_go_0 50 rfl) KX0 fX11_194 (by decide) rfl (CLt hH (q := 13) (by decide)) (CC hH 13 (by decide) rfl) ((show _ = (runF E (E 0 5) (E 0 6) m).2.2.2.2.1 from k4)) ?_
      refine g_iadd hX (dk DX11_go_0 51 rfl) ?_
      refine g_putI hX (dk DX11_go_0 52 rfl) KX5 fX11_168 (by decide) rfl (CLt hH (q := 1) (by decide)) (CC hH 1 (by decide) rfl) (Or.inl rfl) (rfl) (rfl) ?_
      refine g_aload_0 hX (dk DX11_go_0 53 rfl) ?_
      refine g_getRs (r := 1) hX (dk DX11_go_0 54 rfl) KX11 fX11_12 (by decide) rfl (CLt hH (q := 0) (by decide)) (CC hH 0 (by decide) rfl) (CR hH 0 0 1 (by decide)) ?_
      refine g_aload_0 hX (dk DX11_go_0 55 rfl) ?_
      refine g_getRs (r := 13) hX (dk DX11_go_0 56 rfl) KX11 fX11_26 (by decide) rfl (CLt hH (q := 0) (by decide)) (CC hH 0 (by decide) rfl) (CR hH 0 3 13 (by decide)) ?_
      refine g_getIv hX (dk DX11_go_0 57 rfl) KX0 fX11_195 (by decide) rfl (CLt hH (q := 13) (by decide)) (CC hH 13 (by decide) rfl) ((show _ = (runF E (E 0 5) (E 0 6) m).2.1 from k1)) ?_
      refine g_putI hX (dk DX11_go_0 58 rfl) KX5 fX11_116 (by decide) rfl (CLt hH (q := 1) (by decide)) (CC hH 1 (by decide) rfl) (Or.inl rfl) (rfl) (rfl) ?_
      refine g_gen (fun W eW => ?_)
      have hgo := hZ.go (n := nI m) (R := (runF E (E 0 5) (E 0 6) m)) hE hS2 eW rfl rfl rfl rfl
      have hW16 : W 1 6 = E 0 1 := by rw [eW]; exact hZ2.1.2.1.1.2.1
      refine g_aload_0 hX (dk DX11_go_0 59 rfl) ?_
      refine g_getRs (r := 1) hX (dk DX11_go_1 0 rfl) KX11 fX11_12 (by decide) rfl (CLt hH (q := 0) (by decide)) (CC hH 0 (by decide) rfl) (CR hH 0 0 1 (by decide)) ?_
      refine g_dup hX (dk DX11_go_1 1 rfl) rfl ?_
      refine g_getIv hX (dk DX11_go_1 2 rfl) KX5 fX11_122 (by decide) rfl (CLt hH (q := 1) (by decide)) (CC hH 1 (by decide) rfl) (hW16) ?_
      refine g_iload_1 hX (dk DX11_go_1 3 rfl) ?_
      refine g_iadd hX (dk DX11_go_1 4 rfl) ?_
      refine g_putI hX (dk DX11_go_1 5 rfl) KX5 fX11_122 (by decide) rfl (CLt hH (q := 1) (by decide)) (CC hH 1 (by decide) rfl) (Or.inl rfl) (rfl) (rfl) ?_
      refine g_aload_0 hX (dk DX11_go_1 6 rfl) ?_
      refine g_getRs (r := 1) hX (dk DX11_go_1 7 rfl) KX11 fX11_12 (by decide) rfl (CLt hH (q := 0) (by decide)) (CC hH 0 (by decide) rfl) (CR hH 0 0 1 (by decide)) ?_
      refine g_getIv hX (dk DX11_go_1 8 rfl) KX5 fX11_122 (by decide) rfl (CLt hH (q := 1) (by decide)) (CC hH 1 (by decide) rfl) (up0 _ _ _ _) ?_
      refine g_ireturn hX (dk DX11_go_1 9 rfl) rfl (rfl) (by decide) (by decide) ?_
      exact qZ_of (E' := goE E (runF E (E 0 5) (E 0 6) m) (nI m)) (by unfold goS; rw [tN_nI (show m < 2 ^ 31 by omega)]; (try first | rw [if_pos hc1] | rw [if_neg hc1] | rw [if_neg (not_not_intro hc1)]); (try first | rw [if_pos hc2] | rw [if_neg hc2] | rw [if_neg (not_not_intro hc2)]); first | done | rfl) hgo
    · refine g_bipush (v := -3) hX (dk DX11_go_0 14 rfl) (by decide) ?_
      refine g_ireturn hX (dk DX11_go_0 15 rfl) rfl (rfl) (by decide) (by decide) ?_
      exact qZ_of (by unfold goS; (try first | rw [if_pos hc1] | rw [if_neg hc1] | rw [if_neg (not_not_intro hc1)]); (try first | rw [if_pos hc2] | rw [if_neg hc2] | rw [if_neg (not_not_intro hc2)]); first | done | rfl) hZ
  · refine g_bipush (v := -2) hX (dk DX11_go_0 5 rfl) (by decide) ?_
    refine g_ireturn hX (dk DX11_go_0 6 rfl) rfl (rfl) (by decide) (by decide) ?_
    exact qZ_of (by unfold goS; (try first | rw [if_pos hc1] | rw [if_neg hc1] | rw [if_neg (not_not_intro hc1)]); first | done | rfl) hZ

