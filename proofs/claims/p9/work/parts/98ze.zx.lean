set_option maxRecDepth 8000 in
set_option maxHeartbeats 4000000 in
theorem zx_split {G : Gt} (hG : Gok G) {I : It} {h : Ht}  {E : It} {L : Nat → Int64} (hE : Inv E) (hZ : RZ E L I h) {a n w : Int32} : Con G (10) 0 0 mX11_split [.ref 0, .int a, .int n, .int w] I h (qZ (splitS E a n w) L (hn h)) := by
  refine con_intro (own := RX11) (lo0 := [some (.ref 0), some (.int a), some (.int n), some (.int w), none]) hG rfl pl_X11 (Nat.le_of_ble_eq_true rfl) rfl (fun X hX => ?_)
  have hY := hZ.1
  have hW := hY.wx hE
  have hH := hW.1
  have hc10 := hW.2.1.2
  have hcE := (inv_cnt hE).2
  refine g_iload_3 hX (dk DX11_split 0 rfl) ?_
  refine g_iconst (v := -1) hX (dk DX11_split 1 rfl) (by decide) ?_
  refine g_iconst (v := 3) hX (dk DX11_split 2 rfl) (by decide) ?_
  refine g_c3I hX sX11_split_3 (by decide) (Nat.le_of_ble_eq_true rfl) rcN (by decide) (by decide) (c_X11_isNot hG ) ?_
  refine g_ifb_eq (tgt := 13) hX (dk DX11_split 4 rfl) (by decide) (fun hc1 => ?_) (fun hc1 => ?_)
  · refine g_iload_1 hX (dk DX11_split 7 rfl) ?_
    refine g_iconst (v := 0) hX (dk DX11_split 8 rfl) (by decide) ?_
    refine g_bipush (v := 9) hX (dk DX11_split 9 rfl) (by decide) ?_
    refine g_c3I hX sX11_split_17 (by decide) (Nat.le_of_ble_eq_true rfl) rcN (by decide) (by decide) (c_X11_isNot hG ) ?_
    refine g_ifb_ne (tgt := 33) hX (dk DX11_split 11 rfl) (by decide) (fun hc2 => ?_) (fun hc2 => ?_)
    · refine g_sipush (v := -10002) hX (dk DX11_split 17 rfl) (by decide) ?_
      refine g_ireturn hX (dk DX11_split 18 rfl) rfl (rfl) (by decide) (by decide) ?_
      first
      | exact qZ_of (by unfold splitS; (try first | rw [if_pos hc1] | rw [if_neg hc1] | rw [if_neg (not_not_intro hc1)]); (try first | rw [if_pos hc2] | rw [if_neg hc2] | rw [if_neg (not_not_intro hc2)]); first | done | rfl) hZ
      | exact qZ_of (by unfold splitS; rw [if_neg (by assumption), if_pos (by assumption)]) hZ
    · have ha9 := Decidable.not_not.mp hc2
      obtain ⟨hh, hh9, rfl⟩ := in_of (b := 9) (by decide) ha9
      refine g_iload_2 hX (dk DX11_split 12 rfl) ?_
      refine g_iconst (v := 0) hX (dk DX11_split 13 rfl) (by decide) ?_
      refine g_bipush (v := 60) hX (dk DX11_split 14 rfl) (by decide) ?_
      refine g_c3I hX sX11_split_27 (by decide) (Nat.le_of_ble_eq_true rfl) rcN (by decide) (by decide) (c_X11_isNot hG ) ?_
      refine g_ifb_eq (tgt := 37) hX (dk DX11_split 16 rfl) (by decide) (fun hc3 => ?_) (fun hc3 => ?_)
      · have hn60 := Decidable.not_not.mp hc3
        obtain ⟨m, hm, rfl⟩ := in_of (b := 60) (by decide) hn60
        have hm2 : m ≤ 200 := by omega
        refine g_aload_0 hX (dk DX11_split 19 rfl) ?_
        refine g_getRs (r := 13) hX (dk DX11_split 20 rfl) KX11 fX11_26 (by decide) rfl (CLt hH (q := 0) (by decide)) (CC hH 0 (by decide) rfl) (CR hH 0 3 13 (by decide)) ?_
        refine g_iload_2 hX (dk DX11_split 21 rfl) ?_
        refine g_c2v hX sX11_split_42 (by decide) (Nat.le_of_ble_eq_true rfl) (rc0 rfl (CLt hH (by decide)) (CC hH 13 (by decide) rfl)) (by decide) (by decide) (e_look hG hE hZ hm2) ?_
        rintro J _ ⟨hS, hsp, hAH, rfl⟩
        have hZJ := hZ.sc hE hS
        have hWJ := hZJ.1.wx hE
        refine g_aload_0 hX (dk DX11_split 23 rfl) ?_
        refine g_getRs (r := 13) hX (dk DX11_split 24 rfl) KX11 fX11_26 (by decide) rfl (CLt hH (q := 0) (by decide)) (CC hH 0 (by decide) rfl) (CR hH 0 3 13 (by decide)) ?_
        refine g_c1v hX sX11_split_49 (by decide) (Nat.le_of_ble_eq_true rfl) (rc0 rfl (CLt hH (by decide)) (CC hH 13 (by decide) rfl)) (by decide) (by decide) (e_hear hG hE hZJ) ?_
        rintro J2 _ ⟨q1, hHD, rfl⟩
        have hS2 : Sc I J2 := hS.trans (fun a ha => q1 a (by omega))
        have hZ2 := hZ.sc hE hS2
        have hsp2 : J2 13 1 = nI m := by rw [q1 13 (by omega)]; exact hsp
        have hAH2 : AH E J2 m := hAH.o (q1 14 (by omega)) (q1 15 (by omega))
        refine g_aload_0 hX (dk DX11_split 26 rfl) ?_
        refine g_getRs (r := 13) hX (dk DX11_split 27 rfl) KX11 fX11_26 (by decide) rfl (CLt hH (q := 0) (by decide)) (CC hH 0 (by decide) rfl) (CR hH 0 3 13 (by decide)) ?_
        refine g_iload_1 hX (dk DX11_split 28 rfl) ?_
        refine g_c2q hX sX11_split_57 (by decide) (Nat.le_of_ble_eq_true rfl) (rc0 rfl (CLt hH (by decide)) (CC hH 13 (by decide) rfl)) (by decide) (by decide) (c_X0_bestSplit hG hH (dd := 7) (co := fun a b c e => hcF E (h4 a b c e) m) (K := KS E J2 m) hh9 (by decide) (fun J y x hK => hK.u hE) (fun J hK => hK.c hE) (fun J a b c e hK h28 _ => (e_costHanded hG hE (hZ2.sc hE hK.1) (CLt hH (q := 28) (by decide)) (CS hH 28 (by decide) rfl) hK.2.2.2 hm2 hK.2.1 hK.2.2.1).imp (fun r I9 h9 hq => by obtain ⟨x, e1, e2, e3, e4⟩ := hq; exact ⟨x, e1, e2.trans (hcF_hr m (h4_of h28)), hK.p hE e3, e4, e3.1 28 (by decide) (by decide), e3.1 29 (by decide) (by decide)⟩)) ⟨Sc.rf, hsp2, hAH2, hHD⟩) ?_
        rintro x J4 _ ⟨ex, eb, hK4, rfl⟩
        rw [bs_sp hE hh9 hm2] at ex eb
        subst ex
        have hZ4 := hZ2.sc hE hK4.1
        refine g_istore_4 hX (dk DX11_split 30 rfl) (by decide) rfl ?_
        refine g_iload_3 hX (dk DX11_split 31 rfl) ?_
        refine g_if_ge (tgt := 71) hX (dk DX11_split 32 rfl) (by decide) (fun hc4 => ?_) (fun hc4 => ?_)
        · obtain ⟨w0, hw3, rfl⟩ := in_of (b := 3) (by decide) ⟨hc4, (Decidable.not_not.mp hc1).2⟩
          have hw0 : w0 < 4 := by omega
          refine g_aload_0 hX (dk DX11_split 35 rfl) ?_
          refine g_getRs (r := 13) hX (dk DX11_split 36 rfl) KX11 fX11_26 (by decide) rfl (CLt hH (q := 0) (by decide)) (CC hH 0 (by decide) rfl) (CR hH 0 3 13 (by decide)) ?_
          refine g_getRs (r := 29) hX (dk DX11_split 37 rfl) KX0 fX11_205 (by decide) rfl (CLt hH (q := 13) (by decide)) (CC hH 13 (by decide) rfl) (CR hH 13 15 29 (by decide)) ?_
          refine g_iload_3 hX (dk DX11_split 38 rfl) ?_
          refine v_iaload hX (dk DX11_split 39 rfl) (CLt hH (q := 29) (by decide)) (CS hH 29 (by decide) rfl) (⟨rfl, hw0, by decide⟩) (eb w0 hw0) ?_
          refine g_ireturn hX (dk DX11_split 40 rfl) rfl (rfl) (by decide) (by decide) ?_
          first
          | exact qZ_of (by unfold splitS; rw [tN_nI (show hh < 2 ^ 31 by omega), tN_nI (show m < 2 ^ 31 by omega)]; (try first | rw [if_pos hc1] | rw [if_neg hc1] | rw [if_neg (not_not_intro hc1)]); (try first | rw [if_pos hc2] | rw [if_neg hc2] | rw [if_neg (not_not_intro hc2)]); (try first | rw [if_pos hc3] | rw [if_neg hc3] | rw [if_neg (not_not_intro hc3)]); (try first | rw [if_pos hc4] | rw [if_neg hc4] | rw [if_neg (not_not_intro hc4)]); first | done | rfl | (rw [tN_nI (by omega)])) hZ4
          | exact qZ_of (by unfold splitS; rw [tN_nI (show hh < 2 ^ 31 by omega), tN_nI (show m < 2 ^ 31 by omega)]; (try first | rw [if_pos hc1] | rw [if_neg hc1] | rw [if_neg (not_not_intro hc1)]); (try first | rw [if_pos hc2] | rw [if_neg hc2] | rw [if_neg (not_not_intro hc2)]); (try first | rw [if_pos hc3] | rw [if_neg hc3] | rw [if_neg (not_not_intro hc3)]); (try first | rw [if_pos hc4] | rw [if_neg hc4] | rw [if_neg (not_not_intro hc4)]); rw [if_neg (by assumption)]) hZ4
        · refine g_iload_4 hX (dk DX11_split 33 rfl) ?_
          refine g_goto (tgt := 80) hX (dk DX11_split 34 rfl) (by decide) ?_
          refine g_ireturn hX (dk DX11_split 40 rfl) rfl (rfl) (by decide) (by decide) ?_
          first
          | exact qZ_of (by unfold splitS; rw [tN_nI (show hh < 2 ^ 31 by omega), tN_nI (show m < 2 ^ 31 by omega)]; (try first | rw [if_pos hc1] | rw [if_neg hc1] | rw [if_neg (not_not_intro hc1)]); (try first | rw [if_pos hc2] | rw [if_neg hc2] | rw [if_neg (not_not_intro hc2)]); (try first | rw [if_pos hc3] | rw [if_neg hc3] | rw [if_neg (not_not_intro hc3)]); (try first | rw [if_pos hc4] | rw [if_neg hc4] | rw [if_neg (not_not_intro hc4)]); first | done | rfl | (rw [tN_nI (by omega)])) hZ4
          | exact qZ_of (by unfold splitS; rw [tN_nI (show hh < 2 ^ 31 by omega), tN_nI (show m < 2 ^ 31 by omega)]; (try first | rw [if_pos hc1] | rw [if_neg hc1] | rw [if_neg (not_not_intro hc1)]); (try first | rw [if_pos hc2] | rw [if_neg hc2] | rw [if_neg (not_not_intro hc2)]); (try first | rw [if_pos hc3] | rw [if_neg hc3] | rw [if_neg (not_not_intro hc3)]); (try first | rw [if_pos hc4] | rw [if_neg hc4] | rw [if_neg (not_not_intro hc4)]); rw [if_neg (by assumption)]) hZ4
      · refine g_sipush (v := -10002) hX (dk DX11_split 17 rfl) (by decide) ?_
        refine g_ireturn hX (dk DX11_split 18 rfl) rfl (rfl) (by decide) (by decide) ?_
        first
        | exact qZ_of (by unfold splitS; (try first | rw [if_pos hc1] | rw [if_neg hc1] | rw [if_neg (not_not_intro hc1)]); (try first | rw [if_pos hc2] | rw [if_neg hc2] | rw [if_neg (not_not_intro hc2)]); (try first | rw [if_pos hc3] | rw [if_neg hc3] | rw [if_neg (not_not_intro hc3)]); first | done | rfl) hZ
        | exact qZ_of (by unfold splitS; rw [if_neg (by assumption), if_pos (by assumption)]) hZ
  · refine g_sipush (v := -10001) hX (dk DX11_split 5 rfl) (by decide) ?_
    refine g_ireturn hX (dk DX11_split 6 rfl) rfl (rfl) (by decide) (by decide) ?_
    exact qZ_of (by unfold splitS; (try first | rw [if_pos hc1] | rw [if_neg hc1] | rw [if_neg (not_not_intro hc1)]); first | done | rfl) hZ

