set_option maxRecDepth 8000 in
set_option maxHeartbeats 4000000 in
theorem x_shift {G : Gt} (hG : Gok G) {I : It} {h : Ht}  {E : It} {L : Nat → Int64} (hE : Inv E) (hY : RY E L I h) {a e c f n : Int32} : Con G (3) 0 0 mX11_shift [.ref 0, .int a, .int e, .int c, .int f, .int n] I h (qX (shiftS E a e c f n, E) (shiftL E L a e c f n) (hn h)) := by
  refine con_intro (own := RX11) (lo0 := [some (.ref 0), some (.int a), some (.int e), some (.int c), some (.int f), some (.int n)]) hG rfl pl_X11 (Nat.le_of_ble_eq_true rfl) rfl (fun X hX => ?_)
  have hW := hY.wx hE
  have hH := hW.1
  have hc10 := hW.2.1.2
  refine g_iload_1 hX (dk DX11_shift_0 0 rfl) ?_
  refine g_iconst (v := 0) hX (dk DX11_shift_0 1 rfl) (by decide) ?_
  refine g_iconst (v := 5) hX (dk DX11_shift_0 2 rfl) (by decide) ?_
  refine g_c3I hX sX11_shift_3 (by decide) (Nat.le_of_ble_eq_true rfl) rcN (by decide) (by decide) (c_X11_isNot hG ) ?_
  refine g_ifb_ne (tgt := 18) hX (dk DX11_shift_0 4 rfl) (by decide) (fun hc1 => ?_) (fun hc1 => ?_)
  · refine g_iconst (v := -1) hX (dk DX11_shift_0 10 rfl) (by decide) ?_
    refine g_ireturn hX (dk DX11_shift_0 11 rfl) rfl (rfl) (by decide) (by decide) ?_
    exact it_of (s := (shiftS E a e c f n, shiftL E L a e c f n)) (L' := L) (by unfold shiftS shiftL; first | (rw [if_pos (show ¬ isT a by assumption), if_pos (show ¬ isT a by assumption)]; done) | (rw [if_neg (show ¬ ¬ isT a by assumption), if_neg (show ¬ ¬ isT a by assumption), if_pos (show ¬ isT c by assumption), if_pos (show ¬ isT c by assumption)]; done)) hY
  · refine g_iload_3 hX (dk DX11_shift_0 5 rfl) ?_
    refine g_iconst (v := 0) hX (dk DX11_shift_0 6 rfl) (by decide) ?_
    refine g_iconst (v := 5) hX (dk DX11_shift_0 7 rfl) (by decide) ?_
    refine g_c3I hX sX11_shift_12 (by decide) (Nat.le_of_ble_eq_true rfl) rcN (by decide) (by decide) (c_X11_isNot hG ) ?_
    refine g_ifb_eq (tgt := 20) hX (dk DX11_shift_0 9 rfl) (by decide) (fun hc2 => ?_) (fun hc2 => ?_)
    · obtain ⟨t, ht5, rfl⟩ := in_of (b := 5) (by decide) (Decidable.not_not.mp hc1)
      have ht : t < 6 := by omega
      have hTt := hY.2.2.2.2.2.2.1 t ht
      obtain ⟨o, ho5, rfl⟩ := in_of (b := 5) (by decide) (Decidable.not_not.mp hc2)
      have ho : o < 6 := by omega
      have hTo := hY.2.2.2.2.2.2.1 o ho
      have ta : isT (nI t) := Decidable.not_not.mp hc1
      have oa : isT (nI o) := Decidable.not_not.mp hc2
      obtain ⟨lt, hlt, elt, -, ht3⟩ := tp_of hE ht
      obtain ⟨l2, hl2, el2, -, ho3⟩ := tp_of hE ho
      have hsp := sh_sp (E := E) (L := L) (e := e) (f := f) (n := n) ht ho ta oa
      refine g_aload_0 hX (dk DX11_shift_0 12 rfl) ?_
      refine g_getRs (r := 34) hX (dk DX11_shift_0 13 rfl) KX11 fX11_47 (by decide) rfl (CLt hH (q := 0) (by decide)) (CC hH 0 (by decide) rfl) (CR hH 0 9 34 (by decide)) ?_
      refine g_iload_1 hX (dk DX11_shift_0 14 rfl) ?_
      refine v_iaload hX (dk DX11_shift_0 15 rfl) (CLt hH (q := 34) (by decide)) (CS hH 34 (by decide) rfl) (⟨rfl, ht, by decide⟩) (hTt.1) ?_
      refine g_iconst (v := -1) hX (dk DX11_shift_0 16 rfl) (by decide) ?_
      refine g_icmp_eq (tgt := 40) hX (dk DX11_shift_0 17 rfl) (by decide) (fun hc3 => ?_) (fun hc3 => ?_)
      · refine g_bipush (v := -11) hX (dk DX11_shift_0 24 rfl) (by decide) ?_
        refine g_ireturn hX (dk DX11_shift_0 25 rfl) rfl (rfl) (by decide) (by decide) ?_
        exact it_of (s := (shiftS E (nI t) e (nI o) f n, shiftL E L (nI t) e (nI o) f n)) (L' := L) (by first | exact hsp.1 (Or.inl (by first | assumption | exact Decidable.not_not.mp (by assumption))) | exact hsp.1 (Or.inr (by first | assumption | exact Decidable.not_not.mp (by assumption)))) hY
      · refine g_aload_0 hX (dk DX11_shift_0 18 rfl) ?_
        refine g_getRs (r := 34) hX (dk DX11_shift_0 19 rfl) KX11 fX11_47 (by decide) rfl (CLt hH (q := 0) (by decide)) (CC hH 0 (by decide) rfl) (CR hH 0 9 34 (by decide)) ?_
        refine g_iload_3 hX (dk DX11_shift_0 20 rfl) ?_
        refine v_iaload hX (dk DX11_shift_0 21 rfl) (CLt hH (q := 34) (by decide)) (CS hH 34 (by decide) rfl) (⟨rfl, ho, by decide⟩) (hTo.1) ?_
        refine g_iconst (v := -1) hX (dk DX11_shift_0 22 rfl) (by decide) ?_
        refine g_icmp_ne (tgt := 43) hX (dk DX11_shift_0 23 rfl) (by decide) (fun hc4 => ?_) (fun hc4 => ?_)
        · refine g_aload_0 hX (dk DX11_shift_0 26 rfl) ?_
          refine g_getRs (r := 34) hX (dk DX11_shift_0 27 rfl) KX11 fX11_47 (by decide) rfl (CLt hH (q := 0) (by decide)) (CC hH 0 (by decide) rfl) (CR hH 0 9 34 (by decide)) ?_
          refine g_iload_1 hX (dk DX11_shift_0 28 rfl) ?_
          refine v_iaload hX (dk DX11_shift_0 29 rfl) (CLt hH (q := 34) (by decide)) (CS hH 34 (by decide) rfl) (⟨rfl, ht, by decide⟩) (hTt.1) ?_
          refine g_aload_0 hX (dk DX11_shift_0 30 rfl) ?_
          refine g_getRs (r := 34) hX (dk DX11_shift_0 31 rfl) KX11 fX11_47 (by decide) rfl (CLt hH (q := 0) (by decide)) (CC hH 0 (by decide) rfl) (CR hH 0 9 34 (by decide)) ?_
          refine g_iload_3 hX (dk DX11_shift_0 32 rfl) ?_
          refine v_iaload hX (dk DX11_shift_0 33 rfl) (CLt hH (q := 34) (by decide)) (CS hH 34 (by decide) rfl) (⟨rfl, ho, by decide⟩) (hTo.1) ?_
          refine g_icmp_eq (tgt := 61) hX (dk DX11_shift_0 34 rfl) (by decide) (fun hc5 => ?_) (fun hc5 => ?_)
          · refine g_iload_5 hX (dk DX11_shift_0 37 rfl) ?_
            refine g_if_lt (tgt := 101) hX (dk DX11_shift_0 38 rfl) (by decide) (fun hc6 => ?_) (fun hc6 => ?_)
            · refine g_bipush (v := -13) hX (dk DX11_shift_0 59 rfl) (by decide) ?_
              refine g_ireturn hX (dk DX11_shift_1 0 rfl) rfl (rfl) (by decide) (by decide) ?_
              exact it_of (s := (shiftS E (nI t) e (nI o) f n, shiftL E L (nI t) e (nI o) f n)) (L' := L) (hsp.2.2.1 (by assumption) (by assumption) ht3 ho3 (by first | assumption | exact Decidable.not_not.mp (by assumption)) (by first | exact Or.inl (by assumption) | exact Or.inr (Or.inl (by assumption)) | exact Or.inr (Or.inr (by assumption)))) hY
            · refine g_iload_2 hX (dk DX11_shift_0 39 rfl) ?_
              refine g_iconst (v := 0) hX (dk DX11_shift_0 40 rfl) (by decide) ?_
              refine g_aload_0 hX (dk DX11_shift_0 41 rfl) ?_
              refine g_getRs (r := 35) hX (dk DX11_shift_0 42 rfl) KX11 fX11_51 (by decide) rfl (CLt hH (q := 0) (by decide)) (CC hH 0 (by decide) rfl) (CR hH 0 10 35 (by decide)) ?_
              refine g_iload_1 hX (dk DX11_shift_0 43 rfl) ?_
              refine v_iaload hX (dk DX11_shift_0 44 rfl) (CLt hH (q := 35) (by decide)) (CS hH 35 (by decide) rfl) (⟨rfl, ht, by decide⟩) (hTt.2.1) ?_
              refine g_iload_5 hX (dk DX11_shift_0 45 rfl) ?_
              refine g_isub hX (dk DX11_shift_0 46 rfl) ?_
              refine g_c3I hX sX11_shift_77 (by decide) (Nat.le_of_ble_eq_true rfl) rcN (by decide) (by decide) (c_X11_isNot hG ) ?_
              refine g_ifb_ne (tgt := 101) hX (dk DX11_shift_0 48 rfl) (by decide) (fun hc7 => ?_) (fun hc7 => ?_)
              · refine g_bipush (v := -13) hX (dk DX11_shift_0 59 rfl) (by decide) ?_
                refine g_ireturn hX (dk DX11_shift_1 0 rfl) rfl (rfl) (by decide) (by decide) ?_
                exact it_of (s := (shiftS E (nI t) e (nI o) f n, shiftL E L (nI t) e (nI o) f n)) (L' := L) (hsp.2.2.1 (by assumption) (by assumption) ht3 ho3 (by first | assumption | exact Decidable.not_not.mp (by assumption)) (by first | exact Or.inl (by assumption) | exact Or.inr (Or.inl (by assumption)) | exact Or.inr (Or.inr (by assumption)))) hY
              · refine g_iload_4 hX (dk DX11_shift_0 49 rfl) ?_
                refine g_iconst (v := 0) hX (dk DX11_shift_0 50 rfl) (by decide) ?_
                refine g_aload_0 hX (dk DX11_shift_0 51 rfl) ?_
                refine g_getRs (r := 35) hX (dk DX11_shift_0 52 rfl) KX11 fX11_51 (by decide) rfl (CLt hH (q := 0) (by decide)) (CC hH 0 (by decide) rfl) (CR hH 0 10 35 (by decide)) ?_
                refine g_iload_3 hX (dk DX11_shift_0 53 rfl) ?_
                refine v_iaload hX (dk DX11_shift_0 54 rfl) (CLt hH (q := 35) (by decide)) (CS hH 35 (by decide) rfl) (⟨rfl, ho, by decide⟩) (hTo.2.1) ?_
                refine g_iload_5 hX (dk DX11_shift_0 55 rfl) ?_
                refine g_isub hX (dk DX11_shift_0 56 rfl) ?_
                refine g_c3I hX sX11_shift_95 (by decide) (Nat.le_of_ble_eq_true rfl) rcN (by decide) (by decide) (c_X11_isNot hG ) ?_
                refine g_ifb_eq (tgt := 104) hX (dk DX11_shift_0 58 rfl) (by decide) (fun hc8 => ?_) (fun hc8 => ?_)
                · obtain ⟨i0, j0, n0, rfl, rfl, rfl, hi0, hj0⟩ := sh_in hlt hl2 elt el2 (show ¬ n < 0 by assumption) (by assumption) (by assumption)
                  refine g_aload_0 hX (dk DX11_shift_1 1 rfl) ?_
                  refine g_getRs (r := 36) hX (dk DX11_shift_1 2 rfl) KX11 fX11_56 (by decide) rfl (CLt hH (q := 0) (by decide)) (CC hH 0 (by decide) rfl) (CR hH 0 11 36 (by decide)) ?_
                  refine g_iload_1 hX (dk DX11_shift_1 3 rfl) ?_
                  refine i_aaload (i0 := 7) hX (dk DX11_shift_1 4 rfl) (CLt hH (q := 36) (by decide)) (CS hH 36 (by decide) rfl) (by decide) rfl rfl (⟨rfl, ht, by decide⟩) (IT_r hH ht) ?_
                  refine g_iload_2 hX (dk DX11_shift_1 5 rfl) ?_
                  refine g_aload_0 hX (dk DX11_shift_1 6 rfl) ?_
                  refine g_getRs (r := 36) hX (dk DX11_shift_1 7 rfl) KX11 fX11_56 (by decide) rfl (CLt hH (q := 0) (by decide)) (CC hH 0 (by decide) rfl) (CR hH 0 11 36 (by decide)) ?_
                  refine g_iload_3 hX (dk DX11_shift_1 8 rfl) ?_
                  refine i_aaload (i0 := 7) hX (dk DX11_shift_1 9 rfl) (CLt hH (q := 36) (by decide)) (CS hH 36 (by decide) rfl) (by decide) rfl rfl (⟨rfl, ho, by decide⟩) (IT_r hH ho) ?_
                  refine g_iload_4 hX (dk DX11_shift_1 10 rfl) ?_
                  refine g_iload_5 hX (dk DX11_shift_1 11 rfl) ?_
                  refine g_copyL (sp := i0) (dp := j0) (m := n0) hX (dk DX11_shift_1 12 rfl) (tg_4 224 rfl rfl) (tg_4 4 rfl rfl) (tg_4 3 rfl rfl) (tg_1 17 rfl rfl) (IT_lt hH ht) (IT_sh hH ht) (IT_lt hH ho) (IT_sh hH ho) (⟨rfl, rfl, rfl⟩) (⟨by omega, by decide⟩) (⟨by omega, by decide⟩) (by decide) (by decide) ?_
                  refine g_iload_5 hX (dk DX11_shift_1 13 rfl) ?_
                  refine g_ireturn hX (dk DX11_shift_1 14 rfl) rfl (rfl) (by decide) (by decide) ?_
                  exact it_of (s := (shiftS E (nI t) (nI i0) (nI o) (nI j0) (nI n0), shiftL E L (nI t) (nI i0) (nI o) (nI j0) (nI n0))) (hsp.2.2.2 (by assumption) (by assumption) ht3 ho3 (by first | assumption | exact Decidable.not_not.mp (by assumption)) elt el2 hlt hl2 hi0 hj0) (hY.shift ht ho (by omega) (by omega))
                · refine g_bipush (v := -13) hX (dk DX11_shift_0 59 rfl) (by decide) ?_
                  refine g_ireturn hX (dk DX11_shift_1 0 rfl) rfl (rfl) (by decide) (by decide) ?_
                  exact it_of (s := (shiftS E (nI t) e (nI o) f n, shiftL E L (nI t) e (nI o) f n)) (L' := L) (hsp.2.2.1 (by assumption) (by assumption) ht3 ho3 (by first | assumption | exact Decidable.not_not.mp (by assumption)) (by first | exact Or.inl (by assumption) | exact Or.inr (Or.inl (by assumption)) | exact Or.inr (Or.inr (by assumption)))) hY
          · refine g_bipush (v := -12) hX (dk DX11_shift_0 35 rfl) (by decide) ?_
            refine g_ireturn hX (dk DX11_shift_0 36 rfl) rfl (rfl) (by decide) (by decide) ?_
            exact it_of (s := (shiftS E (nI t) e (nI o) f n, shiftL E L (nI t) e (nI o) f n)) (L' := L) (hsp.2.1 (by assumption) (by assumption) ht3 ho3 (by assumption)) hY
        · refine g_bipush (v := -11) hX (dk DX11_shift_0 24 rfl) (by decide) ?_
          refine g_ireturn hX (dk DX11_shift_0 25 rfl) rfl (rfl) (by decide) (by decide) ?_
          exact it_of (s := (shiftS E (nI t) e (nI o) f n, shiftL E L (nI t) e (nI o) f n)) (L' := L) (by first | exact hsp.1 (Or.inl (by first | assumption | exact Decidable.not_not.mp (by assumption))) | exact hsp.1 (Or.inr (by first | assumption | exact Decidable.not_not.mp (by assumption)))) hY
    · refine g_iconst (v := -1) hX (dk DX11_shift_0 10 rfl) (by decide) ?_
      refine g_ireturn hX (dk DX11_shift_0 11 rfl) rfl (rfl) (by decide) (by decide) ?_
      exact it_of (s := (shiftS E a e c f n, shiftL E L a e c f n)) (L' := L) (by unfold shiftS shiftL; first | (rw [if_pos (show ¬ isT a by assumption), if_pos (show ¬ isT a by assumption)]; done) | (rw [if_neg (show ¬ ¬ isT a by assumption), if_neg (show ¬ ¬ isT a by assumption), if_pos (show ¬ isT c by assumption), if_pos (show ¬ isT c by assumption)]; done)) hY

