set_option maxRecDepth 8000 in
set_option maxHeartbeats 4000000 in
theorem x_doing {G : Gt} (hG : Gok G) {I : It} {h : Ht}  {E : It} {L : Nat → Int64} (hE : Inv E) (hY : RY E L I h) {k v r p c e : Int32} (hGn : Gnew G (hn h)) : Con G (7) 1 6 mX11_doing [.ref 0, .int k, .int v, .int r, .int p, .int c, .int e] I h (qX (doingS E k v r p c e) L (hn h + 1)) := by
  refine con_intro (own := RX11) (lo0 := [some (.ref 0), some (.int k), some (.int v), some (.int r), some (.int p), some (.int c), some (.int e)]) hG rfl pl_X11 (Nat.le_of_ble_eq_true rfl) rfl (fun X hX => ?_)
  have hW := hY.wx hE
  have hH := hW.1
  have hc10 := hW.2.1.2
  have hN1 : I 1 2 = nI (cnt E) := hY.2.1.1.1.trans (inv_cnt hE).1
  refine g_iload_1 hX (dk DX11_doing 0 rfl) ?_
  refine g_iconst (v := 0) hX (dk DX11_doing 1 rfl) (by decide) ?_
  refine g_bipush (v := 6) hX (dk DX11_doing 2 rfl) (by decide) ?_
  refine g_c3I hX sX11_doing_4 (by decide) (Nat.le_of_ble_eq_true rfl) rcN (by decide) (by decide) (c_X11_isNot hG ) ?_
  refine g_ifb_eq (tgt := 12) hX (dk DX11_doing 4 rfl) (by decide) (fun hc1 => ?_) (fun hc1 => ?_)
  · refine g_iload_2 hX (dk DX11_doing 7 rfl) ?_
    refine g_iconst (v := 0) hX (dk DX11_doing 8 rfl) (by decide) ?_
    refine g_bipush (v := 9) hX (dk DX11_doing 9 rfl) (by decide) ?_
    refine g_c3I hX sX11_doing_16 (by decide) (Nat.le_of_ble_eq_true rfl) rcN (by decide) (by decide) (c_X11_isNot hG ) ?_
    refine g_ifb_ne (tgt := 66) hX (dk DX11_doing 11 rfl) (by decide) (fun hc2 => ?_) (fun hc2 => ?_)
    · refine g_bipush (v := -2) hX (dk DX11_doing 34 rfl) (by decide) ?_
      refine g_ireturn hX (dk DX11_doing 35 rfl) rfl (rfl) (by decide) (by decide) ?_
      first
      | exact qX_ofN (by unfold doingS; rw [if_neg (show ¬ ¬ (0 ≤ k ∧ k ≤ 6) by assumption), if_pos (show ¬ (0 ≤ v ∧ v ≤ 9) by assumption)]) hY (Nat.le_succ _)
      | exact qX_ofN (by unfold doingS; rw [if_neg (show ¬ ¬ (0 ≤ k ∧ k ≤ 6) by assumption), if_neg (show ¬ ¬ (0 ≤ v ∧ v ≤ 9) by assumption), if_pos (show ¬ (1 ≤ r ∧ r ≤ 60) by assumption)]) hY (Nat.le_succ _)
      | exact qX_ofN (by unfold doingS; rw [if_neg (show ¬ ¬ (0 ≤ k ∧ k ≤ 6) by assumption), if_neg (show ¬ ¬ (0 ≤ v ∧ v ≤ 9) by assumption), if_neg (show ¬ ¬ (1 ≤ r ∧ r ≤ 60) by assumption), if_pos (show ¬ (0 ≤ p ∧ p ≤ r - 1) by assumption)]) hY (Nat.le_succ _)
      | exact qX_ofN (by unfold doingS; rw [if_neg (show ¬ ¬ (0 ≤ k ∧ k ≤ 6) by assumption), if_neg (show ¬ ¬ (0 ≤ v ∧ v ≤ 9) by assumption), if_neg (show ¬ ¬ (1 ≤ r ∧ r ≤ 60) by assumption), if_neg (show ¬ ¬ (0 ≤ p ∧ p ≤ r - 1) by assumption), if_pos (show ¬ (0 ≤ c ∧ c ≤ 99) by assumption)]) hY (Nat.le_succ _)
      | exact qX_ofN (by unfold doingS; rw [if_neg (show ¬ ¬ (0 ≤ k ∧ k ≤ 6) by assumption), if_neg (show ¬ ¬ (0 ≤ v ∧ v ≤ 9) by assumption), if_neg (show ¬ ¬ (1 ≤ r ∧ r ≤ 60) by assumption), if_neg (show ¬ ¬ (0 ≤ p ∧ p ≤ r - 1) by assumption), if_neg (show ¬ ¬ (0 ≤ c ∧ c ≤ 99) by assumption), if_pos (show ¬ (0 ≤ e ∧ e ≤ 99) by assumption)]) hY (Nat.le_succ _)
    · refine g_iload_3 hX (dk DX11_doing 12 rfl) ?_
      refine g_iconst (v := 1) hX (dk DX11_doing 13 rfl) (by decide) ?_
      refine g_bipush (v := 60) hX (dk DX11_doing 14 rfl) (by decide) ?_
      refine g_c3I hX sX11_doing_26 (by decide) (Nat.le_of_ble_eq_true rfl) rcN (by decide) (by decide) (c_X11_isNot hG ) ?_
      refine g_ifb_ne (tgt := 66) hX (dk DX11_doing 16 rfl) (by decide) (fun hc3 => ?_) (fun hc3 => ?_)
      · refine g_bipush (v := -2) hX (dk DX11_doing 34 rfl) (by decide) ?_
        refine g_ireturn hX (dk DX11_doing 35 rfl) rfl (rfl) (by decide) (by decide) ?_
        first
        | exact qX_ofN (by unfold doingS; rw [if_neg (show ¬ ¬ (0 ≤ k ∧ k ≤ 6) by assumption), if_pos (show ¬ (0 ≤ v ∧ v ≤ 9) by assumption)]) hY (Nat.le_succ _)
        | exact qX_ofN (by unfold doingS; rw [if_neg (show ¬ ¬ (0 ≤ k ∧ k ≤ 6) by assumption), if_neg (show ¬ ¬ (0 ≤ v ∧ v ≤ 9) by assumption), if_pos (show ¬ (1 ≤ r ∧ r ≤ 60) by assumption)]) hY (Nat.le_succ _)
        | exact qX_ofN (by unfold doingS; rw [if_neg (show ¬ ¬ (0 ≤ k ∧ k ≤ 6) by assumption), if_neg (show ¬ ¬ (0 ≤ v ∧ v ≤ 9) by assumption), if_neg (show ¬ ¬ (1 ≤ r ∧ r ≤ 60) by assumption), if_pos (show ¬ (0 ≤ p ∧ p ≤ r - 1) by assumption)]) hY (Nat.le_succ _)
        | exact qX_ofN (by unfold doingS; rw [if_neg (show ¬ ¬ (0 ≤ k ∧ k ≤ 6) by assumption), if_neg (show ¬ ¬ (0 ≤ v ∧ v ≤ 9) by assumption), if_neg (show ¬ ¬ (1 ≤ r ∧ r ≤ 60) by assumption), if_neg (show ¬ ¬ (0 ≤ p ∧ p ≤ r - 1) by assumption), if_pos (show ¬ (0 ≤ c ∧ c ≤ 99) by assumption)]) hY (Nat.le_succ _)
        | exact qX_ofN (by unfold doingS; rw [if_neg (show ¬ ¬ (0 ≤ k ∧ k ≤ 6) by assumption), if_neg (show ¬ ¬ (0 ≤ v ∧ v ≤ 9) by assumption), if_neg (show ¬ ¬ (1 ≤ r ∧ r ≤ 60) by assumption), if_neg (show ¬ ¬ (0 ≤ p ∧ p ≤ r - 1) by assumption), if_neg (show ¬ ¬ (0 ≤ c ∧ c ≤ 99) by assumption), if_pos (show ¬ (0 ≤ e ∧ e ≤ 99) by assumption)]) hY (Nat.le_succ _)
      · refine g_iload_4 hX (dk DX11_doing 17 rfl) ?_
        refine g_iconst (v := 0) hX (dk DX11_doing 18 rfl) (by decide) ?_
        refine g_iload_3 hX (dk DX11_doing 19 rfl) ?_
        refine g_iconst (v := 1) hX (dk DX11_doing 20 rfl) (by decide) ?_
        refine g_isub hX (dk DX11_doing 21 rfl) ?_
        refine g_c3I hX sX11_doing_38 (by decide) (Nat.le_of_ble_eq_true rfl) rcN (by decide) (by decide) (c_X11_isNot hG ) ?_
        refine g_ifb_ne (tgt := 66) hX (dk DX11_doing 23 rfl) (by decide) (fun hc4 => ?_) (fun hc4 => ?_)
        · refine g_bipush (v := -2) hX (dk DX11_doing 34 rfl) (by decide) ?_
          refine g_ireturn hX (dk DX11_doing 35 rfl) rfl (rfl) (by decide) (by decide) ?_
          first
          | exact qX_ofN (by unfold doingS; rw [if_neg (show ¬ ¬ (0 ≤ k ∧ k ≤ 6) by assumption), if_pos (show ¬ (0 ≤ v ∧ v ≤ 9) by assumption)]) hY (Nat.le_succ _)
          | exact qX_ofN (by unfold doingS; rw [if_neg (show ¬ ¬ (0 ≤ k ∧ k ≤ 6) by assumption), if_neg (show ¬ ¬ (0 ≤ v ∧ v ≤ 9) by assumption), if_pos (show ¬ (1 ≤ r ∧ r ≤ 60) by assumption)]) hY (Nat.le_succ _)
          | exact qX_ofN (by unfold doingS; rw [if_neg (show ¬ ¬ (0 ≤ k ∧ k ≤ 6) by assumption), if_neg (show ¬ ¬ (0 ≤ v ∧ v ≤ 9) by assumption), if_neg (show ¬ ¬ (1 ≤ r ∧ r ≤ 60) by assumption), if_pos (show ¬ (0 ≤ p ∧ p ≤ r - 1) by assumption)]) hY (Nat.le_succ _)
          | exact qX_ofN (by unfold doingS; rw [if_neg (show ¬ ¬ (0 ≤ k ∧ k ≤ 6) by assumption), if_neg (show ¬ ¬ (0 ≤ v ∧ v ≤ 9) by assumption), if_neg (show ¬ ¬ (1 ≤ r ∧ r ≤ 60) by assumption), if_neg (show ¬ ¬ (0 ≤ p ∧ p ≤ r - 1) by assumption), if_pos (show ¬ (0 ≤ c ∧ c ≤ 99) by assumption)]) hY (Nat.le_succ _)
          | exact qX_ofN (by unfold doingS; rw [if_neg (show ¬ ¬ (0 ≤ k ∧ k ≤ 6) by assumption), if_neg (show ¬ ¬ (0 ≤ v ∧ v ≤ 9) by assumption), if_neg (show ¬ ¬ (1 ≤ r ∧ r ≤ 60) by assumption), if_neg (show ¬ ¬ (0 ≤ p ∧ p ≤ r - 1) by assumption), if_neg (show ¬ ¬ (0 ≤ c ∧ c ≤ 99) by assumption), if_pos (show ¬ (0 ≤ e ∧ e ≤ 99) by assumption)]) hY (Nat.le_succ _)
        · refine g_iload_5 hX (dk DX11_doing 24 rfl) ?_
          refine g_iconst (v := 0) hX (dk DX11_doing 25 rfl) (by decide) ?_
          refine g_bipush (v := 99) hX (dk DX11_doing 26 rfl) (by decide) ?_
          refine g_c3I hX sX11_doing_49 (by decide) (Nat.le_of_ble_eq_true rfl) rcN (by decide) (by decide) (c_X11_isNot hG ) ?_
          refine g_ifb_ne (tgt := 66) hX (dk DX11_doing 28 rfl) (by decide) (fun hc5 => ?_) (fun hc5 => ?_)
          · refine g_bipush (v := -2) hX (dk DX11_doing 34 rfl) (by decide) ?_
            refine g_ireturn hX (dk DX11_doing 35 rfl) rfl (rfl) (by decide) (by decide) ?_
            first
            | exact qX_ofN (by unfold doingS; rw [if_neg (show ¬ ¬ (0 ≤ k ∧ k ≤ 6) by assumption), if_pos (show ¬ (0 ≤ v ∧ v ≤ 9) by assumption)]) hY (Nat.le_succ _)
            | exact qX_ofN (by unfold doingS; rw [if_neg (show ¬ ¬ (0 ≤ k ∧ k ≤ 6) by assumption), if_neg (show ¬ ¬ (0 ≤ v ∧ v ≤ 9) by assumption), if_pos (show ¬ (1 ≤ r ∧ r ≤ 60) by assumption)]) hY (Nat.le_succ _)
            | exact qX_ofN (by unfold doingS; rw [if_neg (show ¬ ¬ (0 ≤ k ∧ k ≤ 6) by assumption), if_neg (show ¬ ¬ (0 ≤ v ∧ v ≤ 9) by assumption), if_neg (show ¬ ¬ (1 ≤ r ∧ r ≤ 60) by assumption), if_pos (show ¬ (0 ≤ p ∧ p ≤ r - 1) by assumption)]) hY (Nat.le_succ _)
            | exact qX_ofN (by unfold doingS; rw [if_neg (show ¬ ¬ (0 ≤ k ∧ k ≤ 6) by assumption), if_neg (show ¬ ¬ (0 ≤ v ∧ v ≤ 9) by assumption), if_neg (show ¬ ¬ (1 ≤ r ∧ r ≤ 60) by assumption), if_neg (show ¬ ¬ (0 ≤ p ∧ p ≤ r - 1) by assumption), if_pos (show ¬ (0 ≤ c ∧ c ≤ 99) by assumption)]) hY (Nat.le_succ _)
            | exact qX_ofN (by unfold doingS; rw [if_neg (show ¬ ¬ (0 ≤ k ∧ k ≤ 6) by assumption), if_neg (show ¬ ¬ (0 ≤ v ∧ v ≤ 9) by assumption), if_neg (show ¬ ¬ (1 ≤ r ∧ r ≤ 60) by assumption), if_neg (show ¬ ¬ (0 ≤ p ∧ p ≤ r - 1) by assumption), if_neg (show ¬ ¬ (0 ≤ c ∧ c ≤ 99) by assumption), if_pos (show ¬ (0 ≤ e ∧ e ≤ 99) by assumption)]) hY (Nat.le_succ _)
          · refine g_iload_6 hX (dk DX11_doing 29 rfl) ?_
            refine g_iconst (v := 0) hX (dk DX11_doing 30 rfl) (by decide) ?_
            refine g_bipush (v := 99) hX (dk DX11_doing 31 rfl) (by decide) ?_
            refine g_c3I hX sX11_doing_60 (by decide) (Nat.le_of_ble_eq_true rfl) rcN (by decide) (by decide) (c_X11_isNot hG ) ?_
            refine g_ifb_eq (tgt := 69) hX (dk DX11_doing 33 rfl) (by decide) (fun hc6 => ?_) (fun hc6 => ?_)
            · refine g_aload_0 hX (dk DX11_doing 36 rfl) ?_
              refine g_getRs (r := 1) hX (dk DX11_doing 37 rfl) KX11 fX11_12 (by decide) rfl (CLt hH (q := 0) (by decide)) (CC hH 0 (by decide) rfl) (CR hH 0 0 1 (by decide)) ?_
              refine g_getIv hX (dk DX11_doing 38 rfl) KX5 fX11_72 (by decide) rfl (CLt hH (q := 1) (by decide)) (CC hH 1 (by decide) rfl) (hN1) ?_
              refine g_bipush (v := 10) hX (dk DX11_doing 39 rfl) (by decide) ?_
              refine g_icmp_lt (tgt := 84) hX (dk DX11_doing 40 rfl) (by decide) (fun hc7 => ?_) (fun hc7 => ?_)
              · have hlt10 := lt_nI (b := 10) (by have := (inv_cnt hE).2; omega) (by decide) hc7
                have hr1 : 1 ≤ r := (Decidable.not_not.mp (show ¬ ¬ (1 ≤ r ∧ r ≤ 60) by assumption)).1
                refine g_aload_0 hX (dk DX11_doing 43 rfl) ?_
                refine g_getRs (r := 1) hX (dk DX11_doing 44 rfl) KX11 fX11_12 (by decide) rfl (CLt hH (q := 0) (by decide)) (CC hH 0 (by decide) rfl) (CR hH 0 0 1 (by decide)) ?_
                refine g_iload_1 hX (dk DX11_doing 45 rfl) ?_
                refine g_aload_0 hX (dk DX11_doing 46 rfl) ?_
                refine g_getRs (r := 1) hX (dk DX11_doing 47 rfl) KX11 fX11_12 (by decide) rfl (CLt hH (q := 0) (by decide)) (CC hH 0 (by decide) rfl) (CR hH 0 0 1 (by decide)) ?_
                refine g_getIv hX (dk DX11_doing 48 rfl) KX5 fX11_72 (by decide) rfl (CLt hH (q := 1) (by decide)) (CC hH 1 (by decide) rfl) (hN1) ?_
                refine g_iload_2 hX (dk DX11_doing 49 rfl) ?_
                refine g_iload_3 hX (dk DX11_doing 50 rfl) ?_
                refine g_iload_4 hX (dk DX11_doing 51 rfl) ?_
                refine g_iload_5 hX (dk DX11_doing 52 rfl) ?_
                refine g_iload_6 hX (dk DX11_doing 53 rfl) ?_
                refine g_c7 hX sX11_doing_104 (by decide) (Nat.le_of_ble_eq_true rfl) rcN (by decide) (by decide) (c_X11_made hG hGn) (fun r I2 h2 hq => ?_)
                obtain ⟨rfl, rfl, rfl⟩ := hq
                have hHx := hH
                have hH := HX.zA (c := kcl k) (a1 := 0) hH
                refine g_c2q hX sX11_doing_107 (by decide) (Nat.le_of_ble_eq_true rfl) (rc0 rfl (CLt hH (by decide)) (CC hH 1 (by decide) rfl)) (by decide) (by decide) (c_X5_add hG hH (n := cnt E) ((congrFun (dI_1 hHx.1) 2).trans hN1) hlt10 (Nat.lt_succ_self _) (by show isDC (if hn h = hn h then (kcl k, 0) else hs h (hn h)).1; rw [if_pos rfl]; exact kcl_dc k)) ?_
                rintro x I2 h2 ⟨rfl, rfl, rfl⟩
                refine g_ireturn hX (dk DX11_doing 56 rfl) rfl (rfl) (by decide) (by decide) ?_
                exact qX_ofN (E' := doE E k v r p c e) (by unfold doingS; rw [if_neg (show ¬ ¬ (0 ≤ k ∧ k ≤ 6) by assumption), if_neg (show ¬ ¬ (0 ≤ v ∧ v ≤ 9) by assumption), if_neg (show ¬ ¬ (1 ≤ r ∧ r ≤ 60) by assumption), if_neg (show ¬ ¬ (0 ≤ p ∧ p ≤ r - 1) by assumption), if_neg (show ¬ ¬ (0 ≤ c ∧ c ≤ 99) by assumption), if_neg (show ¬ ¬ (0 ≤ e ∧ e ≤ 99) by assumption), if_neg (by rw [(inv_cnt hE).1]; exact fun z => absurd ((nI_eq (b := 10) (by omega) (by decide)).mp z) (by omega))]; exact congrArg (fun z => (z, _)) (inv_cnt hE).1) (RY_doing hE hY hlt10 hr1) (Nat.le_refl _)
              · refine g_bipush (v := -4) hX (dk DX11_doing 41 rfl) (by decide) ?_
                refine g_ireturn hX (dk DX11_doing 42 rfl) rfl (rfl) (by decide) (by decide) ?_
                exact qX_ofN (by unfold doingS; rw [if_neg (show ¬ ¬ (0 ≤ k ∧ k ≤ 6) by assumption), if_neg (show ¬ ¬ (0 ≤ v ∧ v ≤ 9) by assumption), if_neg (show ¬ ¬ (1 ≤ r ∧ r ≤ 60) by assumption), if_neg (show ¬ ¬ (0 ≤ p ∧ p ≤ r - 1) by assumption), if_neg (show ¬ ¬ (0 ≤ c ∧ c ≤ 99) by assumption), if_neg (show ¬ ¬ (0 ≤ e ∧ e ≤ 99) by assumption), if_pos (by rw [(inv_cnt hE).1]; exact c10_n (inv_cnt hE).2 (by assumption))]) hY (Nat.le_succ _)
            · refine g_bipush (v := -2) hX (dk DX11_doing 34 rfl) (by decide) ?_
              refine g_ireturn hX (dk DX11_doing 35 rfl) rfl (rfl) (by decide) (by decide) ?_
              first
              | exact qX_ofN (by unfold doingS; rw [if_neg (show ¬ ¬ (0 ≤ k ∧ k ≤ 6) by assumption), if_pos (show ¬ (0 ≤ v ∧ v ≤ 9) by assumption)]) hY (Nat.le_succ _)
              | exact qX_ofN (by unfold doingS; rw [if_neg (show ¬ ¬ (0 ≤ k ∧ k ≤ 6) by assumption), if_neg (show ¬ ¬ (0 ≤ v ∧ v ≤ 9) by assumption), if_pos (show ¬ (1 ≤ r ∧ r ≤ 60) by assumption)]) hY (Nat.le_succ _)
              | exact qX_ofN (by unfold doingS; rw [if_neg (show ¬ ¬ (0 ≤ k ∧ k ≤ 6) by assumption), if_neg (show ¬ ¬ (0 ≤ v ∧ v ≤ 9) by assumption), if_neg (show ¬ ¬ (1 ≤ r ∧ r ≤ 60) by assumption), if_pos (show ¬ (0 ≤ p ∧ p ≤ r - 1) by assumption)]) hY (Nat.le_succ _)
              | exact qX_ofN (by unfold doingS; rw [if_neg (show ¬ ¬ (0 ≤ k ∧ k ≤ 6) by assumption), if_neg (show ¬ ¬ (0 ≤ v ∧ v ≤ 9) by assumption), if_neg (show ¬ ¬ (1 ≤ r ∧ r ≤ 60) by assumption), if_neg (show ¬ ¬ (0 ≤ p ∧ p ≤ r - 1) by assumption), if_pos (show ¬ (0 ≤ c ∧ c ≤ 99) by assumption)]) hY (Nat.le_succ _)
              | exact qX_ofN (by unfold doingS; rw [if_neg (show ¬ ¬ (0 ≤ k ∧ k ≤ 6) by assumption), if_neg (show ¬ ¬ (0 ≤ v ∧ v ≤ 9) by assumption), if_neg (show ¬ ¬ (1 ≤ r ∧ r ≤ 60) by assumption), if_neg (show ¬ ¬ (0 ≤ p ∧ p ≤ r - 1) by assumption), if_neg (show ¬ ¬ (0 ≤ c ∧ c ≤ 99) by assumption), if_pos (show ¬ (0 ≤ e ∧ e ≤ 99) by assumption)]) hY (Nat.le_succ _)
  · refine g_iconst (v := -1) hX (dk DX11_doing 5 rfl) (by decide) ?_
    refine g_ireturn hX (dk DX11_doing 6 rfl) rfl (rfl) (by decide) (by decide) ?_
    exact qX_ofN (by unfold doingS; rw [if_pos (by assumption)]) hY (Nat.le_succ _)

