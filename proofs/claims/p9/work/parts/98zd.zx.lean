set_option maxRecDepth 8000 in
set_option maxHeartbeats 4000000 in
theorem zx_more {G : Gt} (hG : Gok G) {I : It} {h : Ht}  {E : It} {L : Nat → Int64} (hE : Inv E) (hZ : RZ E L I h) {a n : Int32} : Con G (8) 0 0 mX11_more [.ref 0, .int a, .int n] I h (qZ (moreS E a n) L (hn h)) := by
  refine con_intro (own := RX11) (lo0 := [some (.ref 0), some (.int a), some (.int n)]) hG rfl pl_X11 (Nat.le_of_ble_eq_true rfl) rfl (fun X hX => ?_)
  have hY := hZ.1
  have hW := hY.wx hE
  have hH := hW.1
  have hc10 := hW.2.1.2
  have hcE := (inv_cnt hE).2
  refine g_iload_1 hX (dk DX11_more 0 rfl) ?_
  refine g_iconst (v := 0) hX (dk DX11_more 1 rfl) (by decide) ?_
  refine g_iconst (v := 3) hX (dk DX11_more 2 rfl) (by decide) ?_
  refine g_c3I hX sX11_more_3 (by decide) (Nat.le_of_ble_eq_true rfl) rcN (by decide) (by decide) (c_X11_isNot hG ) ?_
  refine g_ifb_eq (tgt := 13) hX (dk DX11_more 4 rfl) (by decide) (fun hc1 => ?_) (fun hc1 => ?_)
  · refine g_iload_2 hX (dk DX11_more 7 rfl) ?_
    refine g_iconst (v := 0) hX (dk DX11_more 8 rfl) (by decide) ?_
    refine g_bipush (v := 60) hX (dk DX11_more 9 rfl) (by decide) ?_
    refine g_c3I hX sX11_more_17 (by decide) (Nat.le_of_ble_eq_true rfl) rcN (by decide) (by decide) (c_X11_isNot hG ) ?_
    refine g_ifb_eq (tgt := 27) hX (dk DX11_more 11 rfl) (by decide) (fun hc2 => ?_) (fun hc2 => ?_)
    · obtain ⟨y, hy3, rfl⟩ := in_of (b := 3) (by decide) (Decidable.not_not.mp hc1)
      have hy : y < 4 := by omega
      obtain ⟨m, hm, rfl⟩ := in_of (b := 60) (by decide) (Decidable.not_not.mp hc2)
      have hm2 : m ≤ 200 := by omega
      refine g_aload_0 hX (dk DX11_more 14 rfl) ?_
      refine g_getRs (r := 1) hX (dk DX11_more 15 rfl) KX11 fX11_12 (by decide) rfl (CLt hH (q := 0) (by decide)) (CC hH 0 (by decide) rfl) (CR hH 0 0 1 (by decide)) ?_
      refine g_getRs (r := 4) hX (dk DX11_more 16 rfl) KX5 fX11_139 (by decide) rfl (CLt hH (q := 1) (by decide)) (CC hH 1 (by decide) rfl) (CR hH 1 5 4 (by decide)) ?_
      refine g_iload_1 hX (dk DX11_more 17 rfl) ?_
      refine v_iaload hX (dk DX11_more 18 rfl) (CLt hH (q := 4) (by decide)) (CS hH 4 (by decide) rfl) (⟨rfl, by omega, by decide⟩) (hY.2.1.2.2.1 y hy) ?_
      refine g_bipush (v := 9) hX (dk DX11_more 19 rfl) (by decide) ?_
      refine g_icmp_lt (tgt := 43) hX (dk DX11_more 20 rfl) (by decide) (fun hc3 => ?_) (fun hc3 => ?_)
      · have h9 : ¬ E 8 y = 9 := fun z => absurd (show E 8 y < 9 by assumption) (by rw [z]; decide)
        refine g_aload_0 hX (dk DX11_more 23 rfl) ?_
        refine g_getRs (r := 13) hX (dk DX11_more 24 rfl) KX11 fX11_26 (by decide) rfl (CLt hH (q := 0) (by decide)) (CC hH 0 (by decide) rfl) (CR hH 0 3 13 (by decide)) ?_
        refine g_iload_2 hX (dk DX11_more 25 rfl) ?_
        refine g_c2v hX sX11_more_48 (by decide) (Nat.le_of_ble_eq_true rfl) (rc0 rfl (CLt hH (by decide)) (CC hH 13 (by decide) rfl)) (by decide) (by decide) (e_look hG hE hZ hm2) ?_
        rintro J _ ⟨hS, hsp, hAH, rfl⟩
        have hZJ := hZ.sc hE hS
        have hWJ := hZJ.1.wx hE
        refine g_aload_0 hX (dk DX11_more 27 rfl) ?_
        refine g_getRs (r := 13) hX (dk DX11_more 28 rfl) KX11 fX11_26 (by decide) rfl (CLt hH (q := 0) (by decide)) (CC hH 0 (by decide) rfl) (CR hH 0 3 13 (by decide)) ?_
        refine g_c1v hX sX11_more_55 (by decide) (Nat.le_of_ble_eq_true rfl) (rc0 rfl (CLt hH (by decide)) (CC hH 13 (by decide) rfl)) (by decide) (by decide) (e_hear hG hE hZJ) ?_
        rintro J2 _ ⟨q1, hHD, rfl⟩
        have hS2 : Sc I J2 := hS.trans (fun a ha => q1 a (by omega))
        have hZ2 := hZ.sc hE hS2
        have hsp2 : J2 13 1 = nI m := by rw [q1 13 (by omega)]; exact hsp
        have hAH2 : AH E J2 m := hAH.o (q1 14 (by omega)) (q1 15 (by omega))
        refine g_aload_0 hX (dk DX11_more 30 rfl) ?_
        refine g_getRs (r := 13) hX (dk DX11_more 31 rfl) KX11 fX11_26 (by decide) rfl (CLt hH (q := 0) (by decide)) (CC hH 0 (by decide) rfl) (CR hH 0 3 13 (by decide)) ?_
        refine g_aload_0 hX (dk DX11_more 32 rfl) ?_
        refine g_getRs (r := 1) hX (dk DX11_more 33 rfl) KX11 fX11_12 (by decide) rfl (CLt hH (q := 0) (by decide)) (CC hH 0 (by decide) rfl) (CR hH 0 0 1 (by decide)) ?_
        refine g_getRs (r := 4) hX (dk DX11_more 34 rfl) KX5 fX11_139 (by decide) rfl (CLt hH (q := 1) (by decide)) (CC hH 1 (by decide) rfl) (CR hH 1 5 4 (by decide)) ?_
        refine g_c2q hX sX11_more_69 (by decide) (Nat.le_of_ble_eq_true rfl) (rc0 rfl (CLt hH (by decide)) (CC hH 13 (by decide) rfl)) (by decide) (by decide) (e_costHanded hG hE hZ2 (CLt hH (q := 4) (by decide)) (CS hH 4 (by decide) rfl) hHD hm2 hsp2 hAH2) ?_
        rintro x1 J3 _ ⟨e1, hP3, rfl⟩
        have hS3 := hS2.trans hP3.sc
        have hZ3 := hZ.sc hE hS3
        have hHD3 : HD E J3 := hHD.o (fun a h1 h2 => hP3.1 a (by omega) (by omega)) hE
        have hsp3 := hP3.2.trans hsp2
        have hAH3 := hAH2.p2 hP3
        replace e1 : x1 = hcF E (E 8) m := by rw [e1]; exact hcF_hr m (fun y hy => hZ2.1.2.1.2.2.1 y hy)
        subst e1
        refine g_aload_0 hX (dk DX11_more 36 rfl) ?_
        refine g_getRs (r := 13) hX (dk DX11_more 37 rfl) KX11 fX11_26 (by decide) rfl (CLt hH (q := 0) (by decide)) (CC hH 0 (by decide) rfl) (CR hH 0 3 13 (by decide)) ?_
        refine g_aload_0 hX (dk DX11_more 38 rfl) ?_
        refine g_getRs (r := 13) hX (dk DX11_more 39 rfl) KX11 fX11_26 (by decide) rfl (CLt hH (q := 0) (by decide)) (CC hH 0 (by decide) rfl) (CR hH 0 3 13 (by decide)) ?_
        refine g_iload_1 hX (dk DX11_more 40 rfl) ?_
        refine g_c2 hX sX11_more_81 (by decide) (Nat.le_of_ble_eq_true rfl) (rc0 rfl (CLt hH (by decide)) (CC hH 13 (by decide) rfl)) (by decide) (by decide) (e_hourMore hG hE hZ3 hy) (fun r I2 h2 hq => ?_)
        obtain ⟨rfl, hf, hup, rfl⟩ := hq
        have hS4 : Sc J3 I2 := Sc.of1 hf ⟨by decide, by decide⟩
        have hZ4 := hZ.sc hE (hS3.trans hS4)
        have hsp4 : I2 13 1 = nI m := by rw [hf 13 (by decide)]; exact hsp3
        have hAH4 : AH E I2 m := hAH3.o (hf 14 (by decide)) (hf 15 (by decide))
        have hHD4 : HD E I2 := hHD3.o (fun a h1 h2 => hf a (by omega)) hE
        refine g_c2q hX sX11_more_84 (by decide) (Nat.le_of_ble_eq_true rfl) (rc0 rfl (CLt hH (by decide)) (CC hH 13 (by decide) rfl)) (by decide) (by decide) (e_costHanded hG hE hZ4 (CLt hH (q := 28) (by decide)) (CS hH 28 (by decide) rfl) hHD4 hm2 hsp4 hAH4) ?_
        rintro x2 J5 _ ⟨e2, hP5, rfl⟩
        have hZ5 := hZ4.sc hE hP5.sc
        replace e2 : x2 = hcF E (upH (E 8) y) m := by rw [e2]; exact hcF_hr m (fun y hy => hup y hy)
        subst e2
        refine g_isub hX (dk DX11_more 43 rfl) ?_
        refine g_ireturn hX (dk DX11_more 44 rfl) rfl (rfl) (by decide) (by decide) ?_
        exact qZ_of (by unfold moreS; rw [tN_nI (show y < 2 ^ 31 by omega), tN_nI (show m < 2 ^ 31 by omega)]; (try first | rw [if_pos hc1] | rw [if_neg hc1] | rw [if_neg (not_not_intro hc1)]); (try first | rw [if_pos hc2] | rw [if_neg hc2] | rw [if_neg (not_not_intro hc2)]); (try first | rw [if_pos hc3] | rw [if_neg hc3] | rw [if_neg (not_not_intro hc3)]); rw [if_neg h9]) hZ5
      · have h9 : E 8 y = 9 := (hr_9 hE hy).resolve_right (by assumption)
        refine g_iconst (v := 0) hX (dk DX11_more 21 rfl) (by decide) ?_
        refine g_ireturn hX (dk DX11_more 22 rfl) rfl (rfl) (by decide) (by decide) ?_
        exact qZ_of (by unfold moreS; (try rw [tN_nI (by omega)]); (try first | rw [if_pos hc1] | rw [if_neg hc1] | rw [if_neg (not_not_intro hc1)]); (try first | rw [if_pos hc2] | rw [if_neg hc2] | rw [if_neg (not_not_intro hc2)]); (try first | rw [if_pos hc3] | rw [if_neg hc3] | rw [if_neg (not_not_intro hc3)]); first | rw [if_pos h9]) hZ
    · refine g_sipush (v := -10002) hX (dk DX11_more 12 rfl) (by decide) ?_
      refine g_ireturn hX (dk DX11_more 13 rfl) rfl (rfl) (by decide) (by decide) ?_
      exact qZ_of (by unfold moreS; (try first | rw [if_pos hc1] | rw [if_neg hc1] | rw [if_neg (not_not_intro hc1)]); (try first | rw [if_pos hc2] | rw [if_neg hc2] | rw [if_neg (not_not_intro hc2)]); first | done | rfl) hZ
  · refine g_sipush (v := -10001) hX (dk DX11_more 5 rfl) (by decide) ?_
    refine g_ireturn hX (dk DX11_more 6 rfl) rfl (rfl) (by decide) (by decide) ?_
    exact qZ_of (by unfold moreS; (try first | rw [if_pos hc1] | rw [if_neg hc1] | rw [if_neg (not_not_intro hc1)]); first | done | rfl) hZ

