set_option maxRecDepth 8000 in
set_option maxHeartbeats 4000000 in
theorem w_X0_stop {G : Gt} (hG : Gok G) {I : It} {h : Ht}  (hW : WX I h) {q x : Nat} {d : Nat} (hd : d < 10) (hq : q < hn h) (h73 : 73 ≤ q) (hdc : isDC (hs h q).1) (hi : I q 0 = nI d) (hx : x < 2 ^ 31) : Con G (4) 0 0 mX0_stop [.ref 13, .ref q, .int (nI x)] I h (qV (fun I2 h2 => (∀ a, a ≠ 13 → I2 a = I a) ∧ I2 13 1 = I 13 1 ∧ h2 = h)) := by
  refine con_intro (own := RX0) (lo0 := [some (.ref 13), some (.ref q), some (.int (nI x)), none]) hG rfl pl_X0 (Nat.le_of_ble_eq_true rfl) rfl (fun X hX => ?_)
  have hH := hW.1
  have hc10 := hW.2.1.2
  refine g_aload_0 hX (dk DX0_stop_0 0 rfl) ?_
  refine g_getI hX (dk DX0_stop_0 1 rfl) KX0 fX0_120 (by decide) rfl (CLt hH (q := 13) (by decide)) (CC hH 13 (by decide) rfl) ?_
  refine g_if_ne (tgt := 20) hX (dk DX0_stop_0 2 rfl) (by decide) (fun hc1 => ?_) (fun hc1 => ?_)
  · refine g_aload_0 hX (dk DX0_stop_0 10 rfl) ?_
    refine g_dup hX (dk DX0_stop_0 11 rfl) rfl ?_
    refine g_getI hX (dk DX0_stop_0 12 rfl) KX0 fX0_120 (by decide) rfl (CLt hH (q := 13) (by decide)) (CC hH 13 (by decide) rfl) ?_
    refine g_iconst (v := 1) hX (dk DX0_stop_0 13 rfl) (by decide) ?_
    refine g_iadd hX (dk DX0_stop_0 14 rfl) ?_
    refine g_putI hX (dk DX0_stop_0 15 rfl) KX0 fX0_120 (by decide) rfl (CLt hH (q := 13) (by decide)) (CC hH 13 (by decide) rfl) (Or.inl rfl) (rfl) (rfl) ?_
    refine g_aload_0 hX (dk DX0_stop_0 16 rfl) ?_
    refine g_getI hX (dk DX0_stop_0 17 rfl) KX0 fX0_140 (by decide) rfl (CLt hH (q := 13) (by decide)) (CC hH 13 (by decide) rfl) ?_
    refine g_aload_0 hX (dk DX0_stop_0 18 rfl) ?_
    refine g_getRs (r := 1) hX (dk DX0_stop_0 19 rfl) KX0 fX0_34 (by decide) rfl (CLt hH (q := 13) (by decide)) (CC hH 13 (by decide) rfl) (CR hH 13 0 1 (by decide)) ?_
    refine g_c1I hX sX0_stop_38 (by decide) (Nat.le_of_ble_eq_true rfl) (rc0 rfl (CLt hH (by decide)) (CC hH 1 (by decide) rfl)) (by decide) (by decide) (c_X5_callsAtFirst hG (hW.sc (fun a ha => by simp only [upI_off (show a ≠ 13 by omega)]))) ?_
    refine g_aload_0 hX (dk DX0_stop_0 21 rfl) ?_
    refine g_getRs (r := 1) hX (dk DX0_stop_0 22 rfl) KX0 fX0_34 (by decide) rfl (CLt hH (q := 13) (by decide)) (CC hH 13 (by decide) rfl) (CR hH 13 0 1 (by decide)) ?_
    refine g_c1I hX sX0_stop_45 (by decide) (Nat.le_of_ble_eq_true rfl) (rc0 rfl (CLt hH (by decide)) (CC hH 1 (by decide) rfl)) (by decide) (by decide) (c_X5_callsFading hG (hW.sc (fun a ha => by simp only [upI_off (show a ≠ 13 by omega)]))) ?_
    refine g_iload_2 hX (dk DX0_stop_0 24 rfl) ?_
    refine g_imul hX (dk DX0_stop_0 25 rfl) ?_
    refine g_isub hX (dk DX0_stop_0 26 rfl) ?_
    refine g_icmp_ge (tgt := 58) hX (dk DX0_stop_0 27 rfl) (by decide) (fun hc2 => ?_) (fun hc2 => ?_)
    · refine g_iconst (v := 0) hX (dk DX0_stop_0 30 rfl) (by decide) ?_
      refine g_istore_3 hX (dk DX0_stop_0 31 rfl) (by decide) rfl ?_
      refine g_iload_3 hX (dk DX0_stop_0 32 rfl) ?_
      refine g_if_eq (tgt := 84) hX (dk DX0_stop_0 33 rfl) (by decide) (fun hc3 => ?_) (fun hc3 => absurd (by decide) hc3)
      refine g_aload_0 hX (dk DX0_stop_0 46 rfl) ?_
      refine g_dup hX (dk DX0_stop_0 47 rfl) rfl ?_
      refine g_getI hX (dk DX0_stop_0 48 rfl) KX0 fX0_117 (by decide) rfl (CLt hH (q := 13) (by decide)) (CC hH 13 (by decide) rfl) ?_
      refine g_iload_3 hX (dk DX0_stop_0 49 rfl) ?_
      refine g_if_eq (tgt := 97) hX (dk DX0_stop_0 50 rfl) (by decide) (fun hc4 => ?_) (fun hc4 => absurd (by decide) hc4)
      refine g_aload_0 hX (dk DX0_stop_0 53 rfl) ?_
      refine g_getRs (r := 15) hX (dk DX0_stop_0 54 rfl) KX0 fX0_17 (by decide) rfl (CLt hH (q := 13) (by decide)) (CC hH 13 (by decide) rfl) (CR hH 13 3 15 (by decide)) ?_
      refine g_aload_1 hX (dk DX0_stop_0 55 rfl) ?_
      refine g_getD (v := (nI d)) hX (dk DX0_stop_0 56 rfl) fX0_93 (by decide) hq hdc ((by first | exact hi | (simp only [upI_off (show q ≠ 13 by omega)]; exact hi))) ?_
      refine g_iload_2 hX (dk DX0_stop_0 57 rfl) ?_
      refine g_c2I hX sX0_stop_106 (by decide) (Nat.le_of_ble_eq_true rfl) rcN (by decide) (by decide) (c_X0_dearCell hG) ?_
      refine g_nmI (nI (d * 60 + x % 60)) (dcell (by omega)) ?_
      refine i_iaload hX (dk DX0_stop_0 59 rfl) (CLt hH (q := 15) (by decide)) (CS hH 15 (by decide) rfl) (⟨rfl, dcell_lt (by omega), by decide⟩) ?_
      refine g_iadd hX (dk DX0_stop_1 0 rfl) ?_
      refine g_putI hX (dk DX0_stop_1 1 rfl) KX0 fX0_117 (by decide) rfl (CLt hH (q := 13) (by decide)) (CC hH 13 (by decide) rfl) (Or.inl rfl) (rfl) (rfl) ?_
      refine g_iload_3 hX (dk DX0_stop_1 2 rfl) ?_
      refine g_if_eq (tgt := 128) hX (dk DX0_stop_1 3 rfl) (by decide) (fun hc5 => ?_) (fun hc5 => absurd (by decide) hc5)
      refine g_aload_1 hX (dk DX0_stop_1 8 rfl) ?_
      refine g_c1I hX (sD_X0_stop_129 _ hdc) (by decide) (Nat.le_of_ble_eq_true rfl) (rc0 rfl hq rfl) (by decide) (by decide) (cD_isKnownByStop hG hq hdc) ?_
      refine g_if_eq (tgt := 150) hX (dk DX0_stop_1 10 rfl) (by decide) (fun hc6 => ?_) (fun hc6 => ?_)
      · refine g_return hX (dk DX0_stop_1 20 rfl) rfl (by decide) (by decide) ?_
        exact qV_of ⟨fun a ha => by simp only [upI_off ha], rfl, rfl⟩
      · refine g_aload_0 hX (dk DX0_stop_1 11 rfl) ?_
        refine g_dup hX (dk DX0_stop_1 12 rfl) rfl ?_
        refine g_getI hX (dk DX0_stop_1 13 rfl) KX0 fX0_111 (by decide) rfl (CLt hH (q := 13) (by decide)) (CC hH 13 (by decide) rfl) ?_
        refine g_iconst (v := 1) hX (dk DX0_stop_1 14 rfl) (by decide) ?_
        refine g_aload_1 hX (dk DX0_stop_1 15 rfl) ?_
        refine g_getD (v := (nI d)) hX (dk DX0_stop_1 16 rfl) fX0_93 (by decide) hq hdc ((by first | exact hi | (simp only [upI_off (show q ≠ 13 by omega)]; exact hi))) ?_
        refine g_ishl hX (dk DX0_stop_1 17 rfl) ?_
        refine g_ior hX (dk DX0_stop_1 18 rfl) ?_
        refine g_putI hX (dk DX0_stop_1 19 rfl) KX0 fX0_111 (by decide) rfl (CLt hH (q := 13) (by decide)) (CC hH 13 (by decide) rfl) (Or.inl rfl) (rfl) (rfl) ?_
        refine g_return hX (dk DX0_stop_1 20 rfl) rfl (by decide) (by decide) ?_
        exact qV_of ⟨fun a ha => by simp only [upI_off ha], rfl, rfl⟩
    · refine g_iconst (v := 1) hX (dk DX0_stop_0 28 rfl) (by decide) ?_
      refine g_goto (tgt := 59) hX (dk DX0_stop_0 29 rfl) (by decide) ?_
      refine g_istore_3 hX (dk DX0_stop_0 31 rfl) (by decide) rfl ?_
      refine g_iload_3 hX (dk DX0_stop_0 32 rfl) ?_
      refine g_if_eq (tgt := 84) hX (dk DX0_stop_0 33 rfl) (by decide) (fun hc7 => absurd hc7 (by decide)) (fun hc7 => ?_)
      refine g_aload_0 hX (dk DX0_stop_0 34 rfl) ?_
      refine g_dup hX (dk DX0_stop_0 35 rfl) rfl ?_
      refine g_getI hX (dk DX0_stop_0 36 rfl) KX0 fX0_140 (by decide) rfl (CLt hH (q := 13) (by decide)) (CC hH 13 (by decide) rfl) ?_
      refine g_iconst (v := 1) hX (dk DX0_stop_0 37 rfl) (by decide) ?_
      refine g_iadd hX (dk DX0_stop_0 38 rfl) ?_
      refine g_putI hX (dk DX0_stop_0 39 rfl) KX0 fX0_140 (by decide) rfl (CLt hH (q := 13) (by decide)) (CC hH 13 (by decide) rfl) (Or.inl rfl) (rfl) (rfl) ?_
      refine g_aload_0 hX (dk DX0_stop_0 40 rfl) ?_
      refine g_dup hX (dk DX0_stop_0 41 rfl) rfl ?_
      refine g_getI hX (dk DX0_stop_0 42 rfl) KX0 fX0_123 (by decide) rfl (CLt hH (q := 13) (by decide)) (CC hH 13 (by decide) rfl) ?_
      refine g_iconst (v := 1) hX (dk DX0_stop_0 43 rfl) (by decide) ?_
      refine g_iadd hX (dk DX0_stop_0 44 rfl) ?_
      refine g_putI hX (dk DX0_stop_0 45 rfl) KX0 fX0_123 (by decide) rfl (CLt hH (q := 13) (by decide)) (CC hH 13 (by decide) rfl) (Or.inl rfl) (rfl) (rfl) ?_
      refine g_aload_0 hX (dk DX0_stop_0 46 rfl) ?_
      refine g_dup hX (dk DX0_stop_0 47 rfl) rfl ?_
      refine g_getI hX (dk DX0_stop_0 48 rfl) KX0 fX0_117 (by decide) rfl (CLt hH (q := 13) (by decide)) (CC hH 13 (by decide) rfl) ?_
      refine g_iload_3 hX (dk DX0_stop_0 49 rfl) ?_
      refine g_if_eq (tgt := 97) hX (dk DX0_stop_0 50 rfl) (by decide) (fun hc8 => absurd hc8 (by decide)) (fun hc8 => ?_)
      refine g_iconst (v := 1) hX (dk DX0_stop_0 51 rfl) (by decide) ?_
      refine g_goto (tgt := 110) hX (dk DX0_stop_0 52 rfl) (by decide) ?_
      refine g_iadd hX (dk DX0_stop_1 0 rfl) ?_
      refine g_putI hX (dk DX0_stop_1 1 rfl) KX0 fX0_117 (by decide) rfl (CLt hH (q := 13) (by decide)) (CC hH 13 (by decide) rfl) (Or.inl rfl) (rfl) (rfl) ?_
      refine g_iload_3 hX (dk DX0_stop_1 2 rfl) ?_
      refine g_if_eq (tgt := 128) hX (dk DX0_stop_1 3 rfl) (by decide) (fun hc9 => absurd hc9 (by decide)) (fun hc9 => ?_)
      refine g_aload_1 hX (dk DX0_stop_1 4 rfl) ?_
      refine g_c1I hX (sD_X0_stop_119 _ hdc) (by decide) (Nat.le_of_ble_eq_true rfl) (rc0 rfl hq rfl) (by decide) (by decide) (cD_isKnownByCall hG hq hdc) ?_
      refine g_if_eq (tgt := 150) hX (dk DX0_stop_1 6 rfl) (by decide) (fun hc10 => ?_) (fun hc10 => ?_)
      · refine g_return hX (dk DX0_stop_1 20 rfl) rfl (by decide) (by decide) ?_
        exact qV_of ⟨fun a ha => by simp only [upI_off ha], rfl, rfl⟩
      · refine g_goto (tgt := 135) hX (dk DX0_stop_1 7 rfl) (by decide) ?_
        refine g_aload_0 hX (dk DX0_stop_1 11 rfl) ?_
        refine g_dup hX (dk DX0_stop_1 12 rfl) rfl ?_
        refine g_getI hX (dk DX0_stop_1 13 rfl) KX0 fX0_111 (by decide) rfl (CLt hH (q := 13) (by decide)) (CC hH 13 (by decide) rfl) ?_
        refine g_iconst (v := 1) hX (dk DX0_stop_1 14 rfl) (by decide) ?_
        refine g_aload_1 hX (dk DX0_stop_1 15 rfl) ?_
        refine g_getD (v := (nI d)) hX (dk DX0_stop_1 16 rfl) fX0_93 (by decide) hq hdc ((by first | exact hi | (simp only [upI_off (show q ≠ 13 by omega)]; exact hi))) ?_
        refine g_ishl hX (dk DX0_stop_1 17 rfl) ?_
        refine g_ior hX (dk DX0_stop_1 18 rfl) ?_
        refine g_putI hX (dk DX0_stop_1 19 rfl) KX0 fX0_111 (by decide) rfl (CLt hH (q := 13) (by decide)) (CC hH 13 (by decide) rfl) (Or.inl rfl) (rfl) (rfl) ?_
        refine g_return hX (dk DX0_stop_1 20 rfl) rfl (by decide) (by decide) ?_
        exact qV_of ⟨fun a ha => by simp only [upI_off ha], rfl, rfl⟩
  · refine g_aload_0 hX (dk DX0_stop_0 3 rfl) ?_
    refine g_iload_2 hX (dk DX0_stop_0 4 rfl) ?_
    refine g_putI hX (dk DX0_stop_0 5 rfl) KX0 fX0_126 (by decide) rfl (CLt hH (q := 13) (by decide)) (CC hH 13 (by decide) rfl) (Or.inl rfl) (rfl) (rfl) ?_
    refine g_aload_0 hX (dk DX0_stop_0 6 rfl) ?_
    refine g_aload_1 hX (dk DX0_stop_0 7 rfl) ?_
    refine g_getD (v := (nI d)) hX (dk DX0_stop_0 8 rfl) fX0_93 (by decide) hq hdc ((by first | exact hi | (simp only [upI_off (show q ≠ 13 by omega)]; exact hi))) ?_
    refine g_putI hX (dk DX0_stop_0 9 rfl) KX0 fX0_129 (by decide) rfl (CLt hH (q := 13) (by decide)) (CC hH 13 (by decide) rfl) (Or.inl rfl) (rfl) (rfl) ?_
    refine g_aload_0 hX (dk DX0_stop_0 10 rfl) ?_
    refine g_dup hX (dk DX0_stop_0 11 rfl) rfl ?_
    refine g_getI hX (dk DX0_stop_0 12 rfl) KX0 fX0_120 (by decide) rfl (CLt hH (q := 13) (by decide)) (CC hH 13 (by decide) rfl) ?_
    refine g_iconst (v := 1) hX (dk DX0_stop_0 13 rfl) (by decide) ?_
    refine g_iadd hX (dk DX0_stop_0 14 rfl) ?_
    refine g_putI hX (dk DX0_stop_0 15 rfl) KX0 fX0_120 (by decide) rfl (CLt hH (q := 13) (by decide)) (CC hH 13 (by decide) rfl) (Or.inl rfl) (rfl) (rfl) ?_
    refine g_aload_0 hX (dk DX0_stop_0 16 rfl) ?_
    refine g_getI hX (dk DX0_stop_0 17 rfl) KX0 fX0_140 (by decide) rfl (CLt hH (q := 13) (by decide)) (CC hH 13 (by decide) rfl) ?_
    refine g_aload_0 hX (dk DX0_stop_0 18 rfl) ?_
    refine g_getRs (r := 1) hX (dk DX0_stop_0 19 rfl) KX0 fX0_34 (by decide) rfl (CLt hH (q := 13) (by decide)) (CC hH 13 (by decide) rfl) (CR hH 13 0 1 (by decide)) ?_
    refine g_c1I hX sX0_stop_38 (by decide) (Nat.le_of_ble_eq_true rfl) (rc0 rfl (CLt hH (by decide)) (CC hH 1 (by decide) rfl)) (by decide) (by decide) (c_X5_callsAtFirst hG (hW.sc (fun a ha => by simp only [upI_off (show a ≠ 13 by omega)]))) ?_
    refine g_aload_0 hX (dk DX0_stop_0 21 rfl) ?_
    refine g_getRs (r := 1) hX (dk DX0_stop_0 22 rfl) KX0 fX0_34 (by decide) rfl (CLt hH (q := 13) (by decide)) (CC hH 13 (by decide) rfl) (CR hH 13 0 1 (by decide)) ?_
    refine g_c1I hX sX0_stop_45 (by decide) (Nat.le_of_ble_eq_true rfl) (rc0 rfl (CLt hH (by decide)) (CC hH 1 (by decide) rfl)) (by decide) (by decide) (c_X5_callsFading hG (hW.sc (fun a ha => by simp only [upI_off (show a ≠ 13 by omega)]))) ?_
    refine g_iload_2 hX (dk DX0_stop_0 24 rfl) ?_
    refine g_imul hX (dk DX0_stop_0 25 rfl) ?_
    refine g_isub hX (dk DX0_stop_0 26 rfl) ?_
    refine g_icmp_ge (tgt := 58) hX (dk DX0_stop_0 27 rfl) (by decide) (fun hc11 => ?_) (fun hc11 => ?_)
    · refine g_iconst (v := 0) hX (dk DX0_stop_0 30 rfl) (by decide) ?_
      refine g_istore_3 hX (dk DX0_stop_0 31 rfl) (by decide) rfl ?_
      refine g_iload_3 hX (dk DX0_stop_0 32 rfl) ?_
      refine g_if_eq (tgt := 84) hX (dk DX0_stop_0 33 rfl) (by decide) (fun hc12 => ?_) (fun hc12 => absurd (by decide) hc12)
      refine g_aload_0 hX (dk DX0_stop_0 46 rfl) ?_
      refine g_dup hX (dk DX0_stop_0 47 rfl) rfl ?_
      refine g_getI hX (dk DX0_stop_0 48 rfl) KX0 fX0_117 (by decide) rfl (CLt hH (q := 13) (by decide)) (CC hH 13 (by decide) rfl) ?_
      refine g_iload_3 hX (dk DX0_stop_0 49 rfl) ?_
      refine g_if_eq (tgt := 97) hX (dk DX0_stop_0 50 rfl) (by decide) (fun hc13 => ?_) (fun hc13 => absurd (by decide) hc13)
      refine g_aload_0 hX (dk DX0_stop_0 53 rfl) ?_
      refine g_getRs (r := 15) hX (dk DX0_stop_0 54 rfl) KX0 fX0_17 (by decide) rfl (CLt hH (q := 13) (by decide)) (CC hH 13 (by decide) rfl) (CR hH 13 3 15 (by decide)) ?_
      refine g_aload_1 hX (dk DX0_stop_0 55 rfl) ?_
      refine g_getD (v := (nI d)) hX (dk DX0_stop_0 56 rfl) fX0_93 (by decide) hq hdc ((by first | exact hi | (simp only [upI_off (show q ≠ 13 by omega)]; exact hi))) ?_
      refine g_iload_2 hX (dk DX0_stop_0 57 rfl) ?_
      refine g_c2I hX sX0_stop_106 (by decide) (Nat.le_of_ble_eq_true rfl) rcN (by decide) (by decide) (c_X0_dearCell hG) ?_
      refine g_nmI (nI (d * 60 + x % 60)) (dcell (by omega)) ?_
      refine i_iaload hX (dk DX0_stop_0 59 rfl) (CLt hH (q := 15) (by decide)) (CS hH 15 (by decide) rfl) (⟨rfl, dcell_lt (by omega), by decide⟩) ?_
      refine g_iadd hX (dk DX0_stop_1 0 rfl) ?_
      refine g_putI hX (dk DX0_stop_1 1 rfl) KX0 fX0_117 (by decide) rfl (CLt hH (q := 13) (by decide)) (CC hH 13 (by decide) rfl) (Or.inl rfl) (rfl) (rfl) ?_
      refine g_iload_3 hX (dk DX0_stop_1 2 rfl) ?_
      refine g_if_eq (tgt := 128) hX (dk DX0_stop_1 3 rfl) (by decide) (fun hc14 => ?_) (fun hc14 => absurd (by decide) hc14)
      refine g_aload_1 hX (dk DX0_stop_1 8 rfl) ?_
      refine g_c1I hX (sD_X0_stop_129 _ hdc) (by decide) (Nat.le_of_ble_eq_true rfl) (rc0 rfl hq rfl) (by decide) (by decide) (cD_isKnownByStop hG hq hdc) ?_
      refine g_if_eq (tgt := 150) hX (dk DX0_stop_1 10 rfl) (by decide) (fun hc15 => ?_) (fun hc15 => ?_)
      · refine g_return hX (dk DX0_stop_1 20 rfl) rfl (by decide) (by decide) ?_
        exact qV_of ⟨fun a ha => by simp only [upI_off ha], rfl, rfl⟩
      · refine g_aload_0 hX (dk DX0_stop_1 11 rfl) ?_
        refine g_dup hX (dk DX0_stop_1 12 rfl) rfl ?_
        refine g_getI hX (dk DX0_stop_1 13 rfl) KX0 fX0_111 (by decide) rfl (CLt hH (q := 13) (by decide)) (CC hH 13 (by decide) rfl) ?_
        refine g_iconst (v := 1) hX (dk DX0_stop_1 14 rfl) (by decide) ?_
        refine g_aload_1 hX (dk DX0_stop_1 15 rfl) ?_
        refine g_getD (v := (nI d)) hX (dk DX0_stop_1 16 rfl) fX0_93 (by decide) hq hdc ((by first | exact hi | (simp only [upI_off (show q ≠ 13 by omega)]; exact hi))) ?_
        refine g_ishl hX (dk DX0_stop_1 17 rfl) ?_
        refine g_ior hX (dk DX0_stop_1 18 rfl) ?_
        refine g_putI hX (dk DX0_stop_1 19 rfl) KX0 fX0_111 (by decide) rfl (CLt hH (q := 13) (by decide)) (CC hH 13 (by decide) rfl) (Or.inl rfl) (rfl) (rfl) ?_
        refine g_return hX (dk DX0_stop_1 20 rfl) rfl (by decide) (by decide) ?_
        exact qV_of ⟨fun a ha => by simp only [upI_off ha], rfl, rfl⟩
    · refine g_iconst (v := 1) hX (dk DX0_stop_0 28 rfl) (by decide) ?_
      refine g_goto (tgt := 59) hX (dk DX0_stop_0 29 rfl) (by decide) ?_
      refine g_istore_3 hX (dk DX0_stop_0 31 rfl) (by decide) rfl ?_
      refine g_iload_3 hX (dk DX0_stop_0 32 rfl) ?_
      refine g_if_eq (tgt := 84) hX (dk DX0_stop_0 33 rfl) (by decide) (fun hc16 => absurd hc16 (by decide)) (fun hc16 => ?_)
      refine g_aload_0 hX (dk DX0_stop_0 34 rfl) ?_
      refine g_dup hX (dk DX0_stop_0 35 rfl) rfl ?_
      refine g_getI hX (dk DX0_stop_0 36 rfl) KX0 fX0_140 (by decide) rfl (CLt hH (q := 13) (by decide)) (CC hH 13 (by decide) rfl) ?_
      refine g_iconst (v := 1) hX (dk DX0_stop_0 37 rfl) (by decide) ?_
      refine g_iadd hX (dk DX0_stop_0 38 rfl) ?_
      refine g_putI hX (dk DX0_stop_0 39 rfl) KX0 fX0_140 (by decide) rfl (CLt hH (q := 13) (by decide)) (CC hH 13 (by decide) rfl) (Or.inl rfl) (rfl) (rfl) ?_
      refine g_aload_0 hX (dk DX0_stop_0 40 rfl) ?_
      refine g_dup hX (dk DX0_stop_0 41 rfl) rfl ?_
      refine g_getI hX (dk DX0_stop_0 42 rfl) KX0 fX0_123 (by decide) rfl (CLt hH (q := 13) (by decide)) (CC hH 13 (by decide) rfl) ?_
      refine g_iconst (v := 1) hX (dk DX0_stop_0 43 rfl) (by decide) ?_
      refine g_iadd hX (dk DX0_stop_0 44 rfl) ?_
      refine g_putI hX (dk DX0_stop_0 45 rfl) KX0 fX0_123 (by decide) rfl (CLt hH (q := 13) (by decide)) (CC hH 13 (by decide) rfl) (Or.inl rfl) (rfl) (rfl) ?_
      refine g_aload_0 hX (dk DX0_stop_0 46 rfl) ?_
      refine g_dup hX (dk DX0_stop_0 47 rfl) rfl ?_
      refine g_getI hX (dk DX0_stop_0 48 rfl) KX0 fX0_117 (by decide) rfl (CLt hH (q := 13) (by decide)) (CC hH 13 (by decide) rfl) ?_
      refine g_iload_3 hX (dk DX0_stop_0 49 rfl) ?_
      refine g_if_eq (tgt := 97) hX (dk DX0_stop_0 50 rfl) (by decide) (fun hc17 => absurd hc17 (by decide)) (fun hc17 => ?_)
      refine g_iconst (v := 1) hX (dk DX0_stop_0 51 rfl) (by decide) ?_
      refine g_goto (tgt := 110) hX (dk DX0_stop_0 52 rfl) (by decide) ?_
      refine g_iadd hX (dk DX0_stop_1 0 rfl) ?_
      refine g_putI hX (dk DX0_stop_1 1 rfl) KX0 fX0_117 (by decide) rfl (CLt hH (q := 13) (by decide)) (CC hH 13 (by decide) rfl) (Or.inl rfl) (rfl) (rfl) ?_
      refine g_iload_3 hX (dk DX0_stop_1 2 rfl) ?_
      refine g_if_eq (tgt := 128) hX (dk DX0_stop_1 3 rfl) (by decide) (fun hc18 => absurd hc18 (by decide)) (fun hc18 => ?_)
      refine g_aload_1 hX (dk DX0_stop_1 4 rfl) ?_
      refine g_c1I hX (sD_X0_stop_119 _ hdc) (by decide) (Nat.le_of_ble_eq_true rfl) (rc0 rfl hq rfl) (by decide) (by decide) (cD_isKnownByCall hG hq hdc) ?_
      refine g_if_eq (tgt := 150) hX (dk DX0_stop_1 6 rfl) (by decide) (fun hc19 => ?_) (fun hc19 => ?_)
      · refine g_return hX (dk DX0_stop_1 20 rfl) rfl (by decide) (by decide) ?_
        exact qV_of ⟨fun a ha => by simp only [upI_off ha], rfl, rfl⟩
      · refine g_goto (tgt := 135) hX (dk DX0_stop_1 7 rfl) (by decide) ?_
        refine g_aload_0 hX (dk DX0_stop_1 11 rfl) ?_
        refine g_dup hX (dk DX0_stop_1 12 rfl) rfl ?_
        refine g_getI hX (dk DX0_stop_1 13 rfl) KX0 fX0_111 (by decide) rfl (CLt hH (q := 13) (by decide)) (CC hH 13 (by decide) rfl) ?_
        refine g_iconst (v := 1) hX (dk DX0_stop_1 14 rfl) (by decide) ?_
        refine g_aload_1 hX (dk DX0_stop_1 15 rfl) ?_
        refine g_getD (v := (nI d)) hX (dk DX0_stop_1 16 rfl) fX0_93 (by decide) hq hdc ((by first | exact hi | (simp only [upI_off (show q ≠ 13 by omega)]; exact hi))) ?_
        refine g_ishl hX (dk DX0_stop_1 17 rfl) ?_
        refine g_ior hX (dk DX0_stop_1 18 rfl) ?_
        refine g_putI hX (dk DX0_stop_1 19 rfl) KX0 fX0_111 (by decide) rfl (CLt hH (q := 13) (by decide)) (CC hH 13 (by decide) rfl) (Or.inl rfl) (rfl) (rfl) ?_
        refine g_return hX (dk DX0_stop_1 20 rfl) rfl (by decide) (by decide) ?_
        exact qV_of ⟨fun a ha => by simp only [upI_off ha], rfl, rfl⟩

set_option maxRecDepth 8000 in
set_option maxHeartbeats 4000000 in
theorem w_X0_stopAll {G : Gt} (hG : Gok G) {I : It} {h : Ht}  (hW : WX I h) {u : Int32} {x : Nat} (hx : x < 2 ^ 31) : Con G (5) 0 0 mX0_stopAll [.ref 13, .int u, .int (nI x)] I h (qV (fun I2 h2 => (∀ a, a ≠ 13 → I2 a = I a) ∧ I2 13 1 = I 13 1 ∧ h2 = h)) := by
  refine con_intro (own := RX0) (lo0 := [some (.ref 13), some (.int u), some (.int (nI x)), none, none]) hG rfl pl_X0 (Nat.le_of_ble_eq_true rfl) rfl (fun X hX => ?_)
  have hH := hW.1
  have hc10 := hW.2.1.2
  have loop7 : ∀ (k d : Nat) (J : It), d + k = cN I → (∀ a, a ≠ 13 → J a = I a) → J 13 1 = I 13 1 → GG G (5) 0 0 X (qV (fun I2 h2 => (∀ a, a ≠ 13 → I2 a = I a) ∧ I2 13 1 = I 13 1 ∧ h2 = h)) 7 [some (.ref 13), some (.int u), some (.int (nI x)), some (.int (nI d)), none] [] (J) (h) 0 0 := by
    intro k
    induction k using Nat.strongRecOn with | _ k ih => ?_
    intro d J hk hJ hsp
    have hS : Sc I J := Sc.of1 hJ (by decide)
    have hWI := hW
    have hW := hW.sc hS
    have eJ : J 1 = I 1 := hS 1 (by omega)
    have ec : cN J = cN I := by unfold cN; rw [eJ]
    refine g_iload_3 hX (dk DX0_stopAll 5 rfl) ?_
    refine g_aload_0 hX (dk DX0_stopAll 6 rfl) ?_
    refine g_getRs (r := 1) hX (dk DX0_stopAll 7 rfl) KX0 fX0_34 (by decide) rfl (CLt hH (q := 13) (by decide)) (CC hH 13 (by decide) rfl) (CR hH 13 0 1 (by decide)) ?_
    refine g_getIv hX (dk DX0_stopAll 8 rfl) KX5 fX0_69 (by decide) rfl (CLt hH (q := 1) (by decide)) (CC hH 1 (by decide) rfl) ((show J 1 2 = nI (cN I) from by rw [eJ]; exact hWI.2.1.1)) ?_
    refine g_icmp_ge (tgt := 54) hX (dk DX0_stopAll 9 rfl) (by decide) (fun hc1 => ?_) (fun hc1 => ?_)
    · refine g_return hX (dk DX0_stopAll 27 rfl) rfl (by decide) (by decide) ?_
      exact qV_of ⟨hJ, hsp, rfl⟩
    · obtain ⟨k, rfl⟩ := cl_go hk (by omega) hc1
      obtain ⟨g1, g2, g3, g4, g5, g6⟩ := hW.2.2.1 d (by omega)
      refine g_aload_0 hX (dk DX0_stopAll 10 rfl) ?_
      refine g_getRs (r := 1) hX (dk DX0_stopAll 11 rfl) KX0 fX0_34 (by decide) rfl (CLt hH (q := 13) (by decide)) (CC hH 13 (by decide) rfl) (CR hH 13 0 1 (by decide)) ?_
      refine g_iload_3 hX (dk DX0_stopAll 12 rfl) ?_
      refine g_c2R hX sX0_stopAll_23 (by decide) (Nat.le_of_ble_eq_true rfl) (rc0 rfl (CLt hH (by decide)) (CC hH 1 (by decide) rfl)) (by decide) (by decide) (c_X5_find hG hW (by omega)) ?_
      refine g_astore_4 hX (dk DX0_stopAll 14 rfl) (by decide) rfl ?_
      refine g_aload_4 hX (dk DX0_stopAll 15 rfl) ?_
      refine g_ifnullR hX (dk DX0_stopAll 16 rfl) ?_
      refine g_iload_1 hX (dk DX0_stopAll 17 rfl) ?_
      refine g_iload_3 hX (dk DX0_stopAll 18 rfl) ?_
      refine g_c2I hX sX0_stopAll_35 (by decide) (Nat.le_of_ble_eq_true rfl) rcN (by decide) (by decide) (c_X11_bit hG) ?_
      refine g_if_eq (tgt := 48) hX (dk DX0_stopAll 20 rfl) (by decide) (fun hc2 => ?_) (fun hc2 => ?_)
      · refine g_iinc_3 hX (dk DX0_stopAll 25 rfl) (nI_1 d) (by decide) rfl ?_
        refine g_goto (tgt := 7) hX (dk DX0_stopAll 26 rfl) (by decide) ?_
        first
        | exact g_fgt (ih k (by omega) (d + 1) J2 (by omega) (fun a ha => (hf a ha).trans (hJ a ha)) (hf2.trans hsp)) ⟨rfl, rfl, rfl, rfl, trivial⟩
        | exact g_fgt (ih k (by omega) (d + 1) J (by omega) hJ hsp) ⟨rfl, rfl, rfl, rfl, trivial⟩
      · refine g_aload_0 hX (dk DX0_stopAll 21 rfl) ?_
        refine g_aload_4 hX (dk DX0_stopAll 22 rfl) ?_
        refine g_iload_2 hX (dk DX0_stopAll 23 rfl) ?_
        refine g_c3v hX sX0_stopAll_45 (by decide) (Nat.le_of_ble_eq_true rfl) (rc0 rfl (CLt hH (by decide)) (CC hH 13 (by decide) rfl)) (by decide) (by decide) (w_X0_stop hG hW (d := d) (by omega) g3 g2 g4 g5 hx) ?_
        rintro J2 _ ⟨hf, hf2, rfl⟩
        refine g_iinc_3 hX (dk DX0_stopAll 25 rfl) (nI_1 d) (by decide) rfl ?_
        refine g_goto (tgt := 7) hX (dk DX0_stopAll 26 rfl) (by decide) ?_
        first
        | exact g_fgt (ih k (by omega) (d + 1) J2 (by omega) (fun a ha => (hf a ha).trans (hJ a ha)) (hf2.trans hsp)) ⟨rfl, rfl, rfl, rfl, trivial⟩
        | exact g_fgt (ih k (by omega) (d + 1) J (by omega) hJ hsp) ⟨rfl, rfl, rfl, rfl, trivial⟩
  refine g_aload_0 hX (dk DX0_stopAll 0 rfl) ?_
  refine g_iconst (v := 0) hX (dk DX0_stopAll 1 rfl) (by decide) ?_
  refine g_putI hX (dk DX0_stopAll 2 rfl) KX0 fX0_140 (by decide) rfl (CLt hH (q := 13) (by decide)) (CC hH 13 (by decide) rfl) (Or.inl rfl) (rfl) (rfl) ?_
  refine g_iconst (v := 0) hX (dk DX0_stopAll 3 rfl) (by decide) ?_
  refine g_istore_3 hX (dk DX0_stopAll 4 rfl) (by decide) rfl ?_
  exact g_fgt (loop7 (cN I) 0 _ (Nat.zero_add _) (fun a ha => upI_off ha) rfl) ⟨rfl, rfl, rfl, rfl, trivial⟩

set_option maxRecDepth 8000 in
set_option maxHeartbeats 4000000 in
theorem w_X0_pass {G : Gt} (hG : Gok G) {I : It} {h : Ht}  (hW : WX I h) {a b : Int32} {m : Nat} (hm : m ≤ 200) (hsp : I 13 1 = nI m) : Con G (6) 0 0 mX0_pass [.ref 13, .int a, .int b] I h (qI (fun _ I2 h2 => P2 I I2 ∧ h2 = h)) := by
  refine con_intro (own := RX0) (lo0 := [some (.ref 13), some (.int a), some (.int b), none]) hG rfl pl_X0 (Nat.le_of_ble_eq_true rfl) rfl (fun X hX => ?_)
  have hH := hW.1
  have hc10 := hW.2.1.2
  have loop39 : ∀ (k j : Nat) (J : It), j + k = m → P2 I J → GG G (6) 0 0 X (qI (fun _ I2 h2 => P2 I I2 ∧ h2 = h)) 39 [some (.ref 13), some (.int a), some (.int b), some (.int (nI j))] [] (J) (h) 0 0 := by
    intro k
    induction k using Nat.strongRecOn with | _ k ih => ?_
    intro j J hk hP
    have hw9 := hW.2.2.2.2.1.2
    have hS := hP.sc
    have hWI := hW
    have hW := hW.sc hS
    have eJ : J 1 = I 1 := hS 1 (by omega)
    have ec : cN J = cN I := by unfold cN; rw [eJ]
    refine g_iload_3 hX (dk DX0_pass_0 23 rfl) ?_
    refine g_aload_0 hX (dk DX0_pass_0 24 rfl) ?_
    refine g_getIv hX (dk DX0_pass_0 25 rfl) KX0 fX0_47 (by decide) rfl (CLt hH (q := 13) (by decide)) (CC hH 13 (by decide) rfl) ((hP.2.trans hsp)) ?_
    refine g_icmp_ge (tgt := 135) hX (dk DX0_pass_0 26 rfl) (by decide) (fun hc1 => ?_) (fun hc1 => ?_)
    · refine g_aload_0 hX (dk DX0_pass_1 19 rfl) ?_
      refine g_getI hX (dk DX0_pass_1 20 rfl) KX0 fX0_117 (by decide) rfl (CLt hH (q := 13) (by decide)) (CC hH 13 (by decide) rfl) ?_
      refine g_ireturn hX (dk DX0_pass_1 21 rfl) rfl (rfl) (by decide) (by decide) ?_
      exact qI_of ⟨hP, rfl⟩
    · obtain ⟨k, rfl⟩ := ct_go hk (by omega) hc1
      refine g_aload_0 hX (dk DX0_pass_0 27 rfl) ?_
      refine g_getRs (r := 27) hX (dk DX0_pass_0 28 rfl) KX0 fX0_25 (by decide) rfl (CLt hH (q := 13) (by decide)) (CC hH 13 (by decide) rfl) (CR hH 13 5 27 (by decide)) ?_
      refine g_iload_3 hX (dk DX0_pass_0 29 rfl) ?_
      refine g_aload_0 hX (dk DX0_pass_0 30 rfl) ?_
      refine g_getRs (r := 14) hX (dk DX0_pass_0 31 rfl) KX0 fX0_9 (by decide) rfl (CLt hH (q := 13) (by decide)) (CC hH 13 (by decide) rfl) (CR hH 13 2 14 (by decide)) ?_
      refine g_iload_3 hX (dk DX0_pass_0 32 rfl) ?_
      refine i_iaload hX (dk DX0_pass_0 33 rfl) (CLt hH (q := 14) (by decide)) (CS hH 14 (by decide) rfl) (⟨rfl, by omega, by decide⟩) ?_
      refine g_aload_0 hX (dk DX0_pass_0 34 rfl) ?_
      refine g_getI hX (dk DX0_pass_0 35 rfl) KX0 fX0_114 (by decide) rfl (CLt hH (q := 13) (by decide)) (CC hH 13 (by decide) rfl) ?_
      refine g_iconst (v := -1) hX (dk DX0_pass_0 36 rfl) (by decide) ?_
      refine g_ixor hX (dk DX0_pass_0 37 rfl) ?_
      refine g_iand hX (dk DX0_pass_0 38 rfl) ?_
      refine g_aload_0 hX (dk DX0_pass_0 39 rfl) ?_
      refine g_getI hX (dk DX0_pass_0 40 rfl) KX0 fX0_111 (by decide) rfl (CLt hH (q := 13) (by decide)) (CC hH 13 (by decide) rfl) ?_
      refine g_iconst (v := -1) hX (dk DX0_pass_0 41 rfl) (by decide) ?_
      refine g_ixor hX (dk DX0_pass_0 42 rfl) ?_
      refine g_iand hX (dk DX0_pass_0 43 rfl) ?_
      refine i_iastore hX (dk DX0_pass_0 44 rfl) (CLt hH (q := 27) (by decide)) (CS hH 27 (by decide) rfl) (⟨rfl, by omega, by decide⟩) ?_
      refine g_aload_0 hX (dk DX0_pass_0 45 rfl) ?_
      refine g_getRs (r := 27) hX (dk DX0_pass_0 46 rfl) KX0 fX0_25 (by decide) rfl (CLt hH (q := 13) (by decide)) (CC hH 13 (by decide) rfl) (CR hH 13 5 27 (by decide)) ?_
      refine g_iload_3 hX (dk DX0_pass_0 47 rfl) ?_
      refine i_iaload hX (dk DX0_pass_0 48 rfl) (CLt hH (q := 27) (by decide)) (CS hH 27 (by decide) rfl) (⟨rfl, by omega, by decide⟩) ?_
      refine g_if_eq (tgt := 101) hX (dk DX0_pass_0 49 rfl) (by decide) (fun hc2 => ?_) (fun hc2 => ?_)
      · refine g_aload_0 hX (dk DX0_pass_1 1 rfl) ?_
        refine g_dup hX (dk DX0_pass_1 2 rfl) rfl ?_
        refine g_getI hX (dk DX0_pass_1 3 rfl) KX0 fX0_117 (by decide) rfl (CLt hH (q := 13) (by decide)) (CC hH 13 (by decide) rfl) ?_
        refine g_aload_0 hX (dk DX0_pass_1 4 rfl) ?_
        refine g_getRs (r := 14) hX (dk DX0_pass_1 5 rfl) KX0 fX0_9 (by decide) rfl (CLt hH (q := 13) (by decide)) (CC hH 13 (by decide) rfl) (CR hH 13 2 14 (by decide)) ?_
        refine g_iload_3 hX (dk DX0_pass_1 6 rfl) ?_
        refine i_iaload hX (dk DX0_pass_1 7 rfl) (CLt hH (q := 14) (by decide)) (CS hH 14 (by decide) rfl) (⟨rfl, by omega, by decide⟩) ?_
        refine g_aload_0 hX (dk DX0_pass_1 8 rfl) ?_
        refine g_getI hX (dk DX0_pass_1 9 rfl) KX0 fX0_114 (by decide) rfl (CLt hH (q := 13) (by decide)) (CC hH 13 (by decide) rfl) ?_
        refine g_iand hX (dk DX0_pass_1 10 rfl) ?_
        refine g_aload_0 hX (dk DX0_pass_1 11 rfl) ?_
        refine g_getI hX (dk DX0_pass_1 12 rfl) KX0 fX0_111 (by decide) rfl (CLt hH (q := 13) (by decide)) (CC hH 13 (by decide) rfl) ?_
        refine g_iand hX (dk DX0_pass_1 13 rfl) ?_
        refine g_c1q hX sX0_pass_122 (by decide) (Nat.le_of_ble_eq_true rfl) rcN (by decide) (by decide) (c_J6_bitCount_0f7a4 hG) ?_
        rintro _ _ _ ⟨-, rfl, rfl⟩
        refine g_iadd hX (dk DX0_pass_1 15 rfl) ?_
        refine g_putI hX (dk DX0_pass_1 16 rfl) KX0 fX0_117 (by decide) rfl (CLt hH (q := 13) (by decide)) (CC hH 13 (by decide) rfl) (Or.inl rfl) (rfl) (rfl) ?_
        refine g_iinc_3 hX (dk DX0_pass_1 17 rfl) (nI_1 j) (by decide) rfl ?_
        refine g_goto (tgt := 39) hX (dk DX0_pass_1 18 rfl) (by decide) ?_
        first
        | exact g_fgt (ih k (by omega) (j + 1) _ (by omega) (hP2.u13 (by decide))) ⟨rfl, rfl, rfl, rfl, trivial⟩
        | exact g_fgt (ih k (by omega) (j + 1) _ (by omega) (hP.u27.u13 (by decide))) ⟨rfl, rfl, rfl, rfl, trivial⟩
      · refine g_aload_0 hX (dk DX0_pass_0 50 rfl) ?_
        refine g_aload_0 hX (dk DX0_pass_0 51 rfl) ?_
        refine g_getRs (r := 27) hX (dk DX0_pass_0 52 rfl) KX0 fX0_25 (by decide) rfl (CLt hH (q := 13) (by decide)) (CC hH 13 (by decide) rfl) (CR hH 13 5 27 (by decide)) ?_
        refine g_iload_3 hX (dk DX0_pass_0 53 rfl) ?_
        refine i_iaload hX (dk DX0_pass_0 54 rfl) (CLt hH (q := 27) (by decide)) (CS hH 27 (by decide) rfl) (⟨rfl, by omega, by decide⟩) ?_
        refine g_aload_0 hX (dk DX0_pass_0 55 rfl) ?_
        refine g_getRs (r := 1) hX (dk DX0_pass_0 56 rfl) KX0 fX0_34 (by decide) rfl (CLt hH (q := 13) (by decide)) (CC hH 13 (by decide) rfl) (CR hH 13 0 1 (by decide)) ?_
        refine g_getIv hX (dk DX0_pass_0 57 rfl) KX5 fX0_57 (by decide) rfl (CLt hH (q := 1) (by decide)) (CC hH 1 (by decide) rfl) ((show J 1 6 = nI (weN I) from by rw [eJ]; exact hWI.2.2.2.2.1.1)) ?_
        refine g_iload_3 hX (dk DX0_pass_0 58 rfl) ?_
        refine g_iadd hX (dk DX0_pass_0 59 rfl) ?_
        refine g_nmI (nI (weN I + j)) (nI_add _ _) ?_
        refine g_c3v hX sX0_pass_98 (by decide) (Nat.le_of_ble_eq_true rfl) (rc0 rfl (CLt hH (by decide)) (CC hH 13 (by decide) rfl)) (by decide) (by decide) (w_X0_stopAll hG (hW.sc (Sc.rf.up ⟨by decide, by decide⟩)) (x := weN I + j) (by omega)) ?_
        rintro J2 _ ⟨hf, hf2, rfl⟩
        have hP2 : P2 I J2 := hP.u27.trans ⟨fun a z1 _ => hf a z1, hf2⟩
        refine g_aload_0 hX (dk DX0_pass_1 1 rfl) ?_
        refine g_dup hX (dk DX0_pass_1 2 rfl) rfl ?_
        refine g_getI hX (dk DX0_pass_1 3 rfl) KX0 fX0_117 (by decide) rfl (CLt hH (q := 13) (by decide)) (CC hH 13 (by decide) rfl) ?_
        refine g_aload_0 hX (dk DX0_pass_1 4 rfl) ?_
        refine g_getRs (r := 14) hX (dk DX0_pass_1 5 rfl) KX0 fX0_9 (by decide) rfl (CLt hH (q := 13) (by decide)) (CC hH 13 (by decide) rfl) (CR hH 13 2 14 (by decide)) ?_
        refine g_iload_3 hX (dk DX0_pass_1 6 rfl) ?_
        refine i_iaload hX (dk DX0_pass_1 7 rfl) (CLt hH (q := 14) (by decide)) (CS hH 14 (by decide) rfl) (⟨rfl, by omega, by decide⟩) ?_
        refine g_aload_0 hX (dk DX0_pass_1 8 rfl) ?_
        refine g_getI hX (dk DX0_pass_1 9 rfl) KX0 fX0_114 (by decide) rfl (CLt hH (q := 13) (by decide)) (CC hH 13 (by decide) rfl) ?_
        refine g_iand hX (dk DX0_pass_1 10 rfl) ?_
        refine g_aload_0 hX (dk DX0_pass_1 11 rfl) ?_
        refine g_getI hX (dk DX0_pass_1 12 rfl) KX0 fX0_111 (by decide) rfl (CLt hH (q := 13) (by decide)) (CC hH 13 (by decide) rfl) ?_
        refine g_iand hX (dk DX0_pass_1 13 rfl) ?_
        refine g_c1q hX sX0_pass_122 (by decide) (Nat.le_of_ble_eq_true rfl) rcN (by decide) (by decide) (c_J6_bitCount_0f7a4 hG) ?_
        rintro _ _ _ ⟨-, rfl, rfl⟩
        refine g_iadd hX (dk DX0_pass_1 15 rfl) ?_
        refine g_putI hX (dk DX0_pass_1 16 rfl) KX0 fX0_117 (by decide) rfl (CLt hH (q := 13) (by decide)) (CC hH 13 (by decide) rfl) (Or.inl rfl) (rfl) (rfl) ?_
        refine g_iinc_3 hX (dk DX0_pass_1 17 rfl) (nI_1 j) (by decide) rfl ?_
        refine g_goto (tgt := 39) hX (dk DX0_pass_1 18 rfl) (by decide) ?_
        first
        | exact g_fgt (ih k (by omega) (j + 1) _ (by omega) (hP2.u13 (by decide))) ⟨rfl, rfl, rfl, rfl, trivial⟩
        | exact g_fgt (ih k (by omega) (j + 1) _ (by omega) (hP.u27.u13 (by decide))) ⟨rfl, rfl, rfl, rfl, trivial⟩
  refine g_aload_0 hX (dk DX0_pass_0 0 rfl) ?_
  refine g_iload_1 hX (dk DX0_pass_0 1 rfl) ?_
  refine g_putI hX (dk DX0_pass_0 2 rfl) KX0 fX0_111 (by decide) rfl (CLt hH (q := 13) (by decide)) (CC hH 13 (by decide) rfl) (Or.inl rfl) (rfl) (rfl) ?_
  refine g_aload_0 hX (dk DX0_pass_0 3 rfl) ?_
  refine g_iload_2 hX (dk DX0_pass_0 4 rfl) ?_
  refine g_putI hX (dk DX0_pass_0 5 rfl) KX0 fX0_114 (by decide) rfl (CLt hH (q := 13) (by decide)) (CC hH 13 (by decide) rfl) (Or.inl rfl) (rfl) (rfl) ?_
  refine g_aload_0 hX (dk DX0_pass_0 6 rfl) ?_
  refine g_iconst (v := 0) hX (dk DX0_pass_0 7 rfl) (by decide) ?_
  refine g_putI hX (dk DX0_pass_0 8 rfl) KX0 fX0_117 (by decide) rfl (CLt hH (q := 13) (by decide)) (CC hH 13 (by decide) rfl) (Or.inl rfl) (rfl) (rfl) ?_
  refine g_aload_0 hX (dk DX0_pass_0 9 rfl) ?_
  refine g_iconst (v := 0) hX (dk DX0_pass_0 10 rfl) (by decide) ?_
  refine g_putI hX (dk DX0_pass_0 11 rfl) KX0 fX0_120 (by decide) rfl (CLt hH (q := 13) (by decide)) (CC hH 13 (by decide) rfl) (Or.inl rfl) (rfl) (rfl) ?_
  refine g_aload_0 hX (dk DX0_pass_0 12 rfl) ?_
  refine g_iconst (v := 0) hX (dk DX0_pass_0 13 rfl) (by decide) ?_
  refine g_putI hX (dk DX0_pass_0 14 rfl) KX0 fX0_123 (by decide) rfl (CLt hH (q := 13) (by decide)) (CC hH 13 (by decide) rfl) (Or.inl rfl) (rfl) (rfl) ?_
  refine g_aload_0 hX (dk DX0_pass_0 15 rfl) ?_
  refine g_bipush (v := -5) hX (dk DX0_pass_0 16 rfl) (by decide) ?_
  refine g_putI hX (dk DX0_pass_0 17 rfl) KX0 fX0_126 (by decide) rfl (CLt hH (q := 13) (by decide)) (CC hH 13 (by decide) rfl) (Or.inl rfl) (rfl) (rfl) ?_
  refine g_aload_0 hX (dk DX0_pass_0 18 rfl) ?_
  refine g_bipush (v := -5) hX (dk DX0_pass_0 19 rfl) (by decide) ?_
  refine g_putI hX (dk DX0_pass_0 20 rfl) KX0 fX0_129 (by decide) rfl (CLt hH (q := 13) (by decide)) (CC hH 13 (by decide) rfl) (Or.inl rfl) (rfl) (rfl) ?_
  refine g_iconst (v := 0) hX (dk DX0_pass_0 21 rfl) (by decide) ?_
  refine g_istore_3 hX (dk DX0_pass_0 22 rfl) (by decide) rfl ?_
  exact g_fgt (loop39 m 0 _ (Nat.zero_add _) (((((((P2.rf.u13 (by decide)).u13 (by decide)).u13 (by decide)).u13 (by decide)).u13 (by decide)).u13 (by decide)).u13 (by decide))) ⟨rfl, rfl, rfl, rfl, trivial⟩

set_option maxRecDepth 8000 in
set_option maxHeartbeats 4000000 in
theorem w_X0_costHanded {G : Gt} (hG : Gok G) {I : It} {h : Ht}  (hW : WX I h) {hq2 : Nat} (hh : hq2 < hn h) (hhs : hs h hq2 = (20, 4)) {m : Nat} (hm : m ≤ 200) (hsp : I 13 1 = nI m) : Con G (7) 0 0 mX0_costHanded [.ref 13, .ref hq2] I h (qI (fun _ I2 h2 => P2 I I2 ∧ h2 = h)) := by
  refine con_intro (own := RX0) (lo0 := [some (.ref 13), some (.ref hq2)]) hG rfl pl_X0 (Nat.le_of_ble_eq_true rfl) rfl (fun X hX => ?_)
  have hH := hW.1
  have hc10 := hW.2.1.2
  refine g_aload_0 hX (dk DX0_costHanded 0 rfl) ?_
  refine g_aload_0 hX (dk DX0_costHanded 1 rfl) ?_
  refine g_getRs (r := 1) hX (dk DX0_costHanded 2 rfl) KX0 fX0_34 (by decide) rfl (CLt hH (q := 13) (by decide)) (CC hH 13 (by decide) rfl) (CR hH 13 0 1 (by decide)) ?_
  refine g_getI hX (dk DX0_costHanded 3 rfl) KX5 fX0_161 (by decide) rfl (CLt hH (q := 1) (by decide)) (CC hH 1 (by decide) rfl) ?_
  refine g_aload_0 hX (dk DX0_costHanded 4 rfl) ?_
  refine g_aload_1 hX (dk DX0_costHanded 5 rfl) ?_
  refine g_c2q hX sX0_costHanded_10 (by decide) (Nat.le_of_ble_eq_true rfl) (rc0 rfl (CLt hH (by decide)) (CC hH 13 (by decide) rfl)) (by decide) (by decide) (w_X0_goingOver hG hW hh hhs) ?_
  rintro _ _ _ ⟨rfl, rfl⟩
  refine g_ior hX (dk DX0_costHanded 7 rfl) ?_
  refine g_aload_0 hX (dk DX0_costHanded 8 rfl) ?_
  refine g_getRs (r := 1) hX (dk DX0_costHanded 9 rfl) KX0 fX0_34 (by decide) rfl (CLt hH (q := 13) (by decide)) (CC hH 13 (by decide) rfl) (CR hH 13 0 1 (by decide)) ?_
  refine g_getI hX (dk DX0_costHanded 10 rfl) KX5 fX0_166 (by decide) rfl (CLt hH (q := 1) (by decide)) (CC hH 1 (by decide) rfl) ?_
  refine g_c3q hX sX0_costHanded_21 (by decide) (Nat.le_of_ble_eq_true rfl) (rc0 rfl (CLt hH (by decide)) (CC hH 13 (by decide) rfl)) (by decide) (by decide) (w_X0_pass hG hW hm hsp) ?_
  rintro _ J2 _ ⟨hP2, rfl⟩
  refine g_ireturn hX (dk DX0_costHanded 12 rfl) rfl (rfl) (by decide) (by decide) ?_
  exact qI_of ⟨hP2, rfl⟩

