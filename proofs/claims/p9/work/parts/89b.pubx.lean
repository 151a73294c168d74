set_option maxRecDepth 8000 in
set_option maxHeartbeats 4000000 in
theorem x_split {G : Gt} (hG : Gok G) {I : It} {h : Ht}  {E : It} {L : Nat → Int64} (hE : Inv E) (hY : RY E L I h) {a n w : Int32} : Con G (10) 0 0 mX11_split [.ref 0, .int a, .int n, .int w] I h (qW E L (hn h)) := by
  refine con_intro (own := RX11) (lo0 := [some (.ref 0), some (.int a), some (.int n), some (.int w), none]) hG rfl pl_X11 (Nat.le_of_ble_eq_true rfl) rfl (fun X hX => ?_)
  have hW := hY.wx hE
  have hH := hW.1
  have hc10 := hW.2.1.2
  refine g_iload_3 hX (dk DX11_split 0 rfl) ?_
  refine g_iconst (v := -1) hX (dk DX11_split 1 rfl) (by decide) ?_
  refine g_iconst (v := 3) hX (dk DX11_split 2 rfl) (by decide) ?_
  refine g_c3I hX sX11_split_3 (by decide) (Nat.le_of_ble_eq_true rfl) rcN (by decide) (by decide) (c_X11_isNot hG ) ?_
  refine g_ifb_eq (tgt := 13) hX (dk DX11_split 4 rfl) (by decide) (fun hc1 => ?_) (fun hc1 => ?_)
  · refine g_iload_1 hX (dk DX11_split 7 rfl) ?_
    refine g_iconst (v := 0) hX (dk DX11_split 8 rfl) (by decide) ?_
    refine g_bipush (v := 9) hX (dk DX11_split 9 rfl) (by decide) ?_
    refine g_c3I hX sX11_split_17 (by decide) (Nat.le_of_ble_eq_true rfl) rcN (by decide) (by decide) (c_X11_isNot hG ) ?_
    refine g_ifb_ne (tgt := 33) hX (dk DX11_split 11 rfl) (by decide) (fun hc2 => ?_) (fun hc2 => ?_)
    · refine g_sipush (v := -10002) hX (dk DX11_split 17 rfl) (by decide) ?_
      refine g_ireturn hX (dk DX11_split 18 rfl) rfl (rfl) (by decide) (by decide) ?_
      first
      | exact qW_of hY
      | exact qW_of (hY.sc (hS.trans (hS2.trans hS4)))
    · obtain ⟨hh, hh9, rfl⟩ := in_of (b := 9) (by decide) (Decidable.not_not.mp hc2)
      refine g_iload_2 hX (dk DX11_split 12 rfl) ?_
      refine g_iconst (v := 0) hX (dk DX11_split 13 rfl) (by decide) ?_
      refine g_bipush (v := 60) hX (dk DX11_split 14 rfl) (by decide) ?_
      refine g_c3I hX sX11_split_27 (by decide) (Nat.le_of_ble_eq_true rfl) rcN (by decide) (by decide) (c_X11_isNot hG ) ?_
      refine g_ifb_eq (tgt := 37) hX (dk DX11_split 16 rfl) (by decide) (fun hc3 => ?_) (fun hc3 => ?_)
      · refine g_aload_0 hX (dk DX11_split 19 rfl) ?_
        refine g_getRs (r := 13) hX (dk DX11_split 20 rfl) KX11 fX11_26 (by decide) rfl (CLt hH (q := 0) (by decide)) (CC hH 0 (by decide) rfl) (CR hH 0 3 13 (by decide)) ?_
        refine g_iload_2 hX (dk DX11_split 21 rfl) ?_
        refine g_c2v hX sX11_split_42 (by decide) (Nat.le_of_ble_eq_true rfl) (rc0 rfl (CLt hH (by decide)) (CC hH 13 (by decide) rfl)) (by decide) (by decide) (w_X0_look hG hW) ?_
        rintro J _ ⟨hS, rfl, m, hm, hsp⟩
        have hW2 := hW.sc hS
        refine g_aload_0 hX (dk DX11_split 23 rfl) ?_
        refine g_getRs (r := 13) hX (dk DX11_split 24 rfl) KX11 fX11_26 (by decide) rfl (CLt hH (q := 0) (by decide)) (CC hH 0 (by decide) rfl) (CR hH 0 3 13 (by decide)) ?_
        refine g_c1v hX sX11_split_49 (by decide) (Nat.le_of_ble_eq_true rfl) (rc0 rfl (CLt hH (by decide)) (CC hH 13 (by decide) rfl)) (by decide) (by decide) (w_X0_hear hG hW2) ?_
        rintro J2 _ ⟨hS2, h13, rfl⟩
        have hW3 := hW2.sc hS2
        have hsp2 : J2 13 1 = nI m := by rw [h13]; exact hsp
        refine g_aload_0 hX (dk DX11_split 26 rfl) ?_
        refine g_getRs (r := 13) hX (dk DX11_split 27 rfl) KX11 fX11_26 (by decide) rfl (CLt hH (q := 0) (by decide)) (CC hH 0 (by decide) rfl) (CR hH 0 3 13 (by decide)) ?_
        refine g_iload_1 hX (dk DX11_split 28 rfl) ?_
        refine g_c2q hX sX11_split_57 (by decide) (Nat.le_of_ble_eq_true rfl) (rc0 rfl (CLt hH (by decide)) (CC hH 13 (by decide) rfl)) (by decide) (by decide) (w_X0_bestSplit hG hH (dd := 7) (K := (fun K2 => Sc J2 K2 ∧ K2 13 1 = nI m)) hh9 (by decide) (fun J y x hK => ⟨hK.1.up ⟨by decide, by decide⟩, (upn (by omega)).trans hK.2⟩) (fun J hK => ⟨fun a ha => (cpI_29 J (by omega)).trans (hK.1 a ha), (congrFun (cpI_29 J (by decide)) 1).trans hK.2⟩) (fun J hK => (w_X0_costHanded hG (hW3.sc hK.1) (CLt hH (q := 28) (by decide)) (CS hH 28 (by decide) rfl) hm hK.2).imp (fun r I9 h9 hq => by obtain ⟨x, e1, e2, e3⟩ := hq; exact ⟨x, e1, ⟨hK.1.trans e2.sc, e2.2.trans hK.2⟩, e3⟩)) ⟨Sc.rf, hsp2⟩) ?_
        rintro x J4 _ ⟨⟨hS4, -⟩, rfl⟩
        refine g_istore_4 hX (dk DX11_split 30 rfl) (by decide) rfl ?_
        refine g_iload_3 hX (dk DX11_split 31 rfl) ?_
        refine g_if_ge (tgt := 71) hX (dk DX11_split 32 rfl) (by decide) (fun hc4 => ?_) (fun hc4 => ?_)
        · refine g_aload_0 hX (dk DX11_split 35 rfl) ?_
          refine g_getRs (r := 13) hX (dk DX11_split 36 rfl) KX11 fX11_26 (by decide) rfl (CLt hH (q := 0) (by decide)) (CC hH 0 (by decide) rfl) (CR hH 0 3 13 (by decide)) ?_
          refine g_getRs (r := 29) hX (dk DX11_split 37 rfl) KX0 fX11_205 (by decide) rfl (CLt hH (q := 13) (by decide)) (CC hH 13 (by decide) rfl) (CR hH 13 15 29 (by decide)) ?_
          refine g_iload_3 hX (dk DX11_split 38 rfl) ?_
          refine i_iaload hX (dk DX11_split 39 rfl) (CLt hH (q := 29) (by decide)) (CS hH 29 (by decide) rfl) (ix4 (by assumption) (show ¬ ¬ (-1 ≤ w ∧ w ≤ 3) by assumption)) ?_
          refine g_ireturn hX (dk DX11_split 40 rfl) rfl (rfl) (by decide) (by decide) ?_
          first
          | exact qW_of hY
          | exact qW_of (hY.sc (hS.trans (hS2.trans hS4)))
        · refine g_iload_4 hX (dk DX11_split 33 rfl) ?_
          refine g_goto (tgt := 80) hX (dk DX11_split 34 rfl) (by decide) ?_
          refine g_ireturn hX (dk DX11_split 40 rfl) rfl (rfl) (by decide) (by decide) ?_
          first
          | exact qW_of hY
          | exact qW_of (hY.sc (hS.trans (hS2.trans hS4)))
      · refine g_sipush (v := -10002) hX (dk DX11_split 17 rfl) (by decide) ?_
        refine g_ireturn hX (dk DX11_split 18 rfl) rfl (rfl) (by decide) (by decide) ?_
        first
        | exact qW_of hY
        | exact qW_of (hY.sc (hS.trans (hS2.trans hS4)))
  · refine g_sipush (v := -10001) hX (dk DX11_split 5 rfl) (by decide) ?_
    refine g_ireturn hX (dk DX11_split 6 rfl) rfl (rfl) (by decide) (by decide) ?_
    first
    | exact qW_of hY
    | exact qW_of (hY.sc (hS.trans (hS2.trans hS4)))

