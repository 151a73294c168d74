set_option maxRecDepth 8000 in
set_option maxHeartbeats 4000000 in
theorem e_saidOf {G : Gt} (hG : Gok G) {I : It} {h : Ht}  {E : It} {L : Nat → Int64} (hE : Inv E) (hZ : RZ E L I h) {d : Nat} (hd : d < cnt E) : Con G (7) 0 0 mX0_saidOf [.ref 13, .ref (dn h d)] I h (qI (fun v J h2 => v = saidF E (E 8) d ∧ Sc I J ∧ h2 = h)) := by
  refine con_intro (own := RX0) (lo0 := [some (.ref 13), some (.ref (dn h d))]) hG rfl pl_X0 (Nat.le_of_ble_eq_true rfl) rfl (fun X hX => ?_)
  have hW := hZ.1.wx hE
  have hH := hW.1
  have hc10 := (inv_cnt hE).2
  have hw9 := (inv_wk hE).2
  have hZJ := hZ
  obtain ⟨g1, g2, g3, g4, g5, g6, g7, g8, g9, g10⟩ := hZJ.1.d hd
  refine g_aload_0 hX (dk DX0_saidOf 0 rfl) ?_
  refine g_aload_1 hX (dk DX0_saidOf 1 rfl) ?_
  refine g_c2v hX sX0_saidOf_2 (by decide) (Nat.le_of_ble_eq_true rfl) (rc0 rfl (CLt hH (by decide)) (CC hH 13 (by decide) rfl)) (by decide) (by decide) (e_hearOf hG hE hZ hd) ?_
  rintro J2 _ ⟨q1, q2, rfl⟩
  have hS : Sc I J2 := Sc.of1 q1 ⟨by omega, by omega⟩
  have e8 : ∀ y, y < 4 → J2 4 y = E 8 y := fun y hy => by rw [q1 4 (by omega)]; exact hZ.1.2.1.2.2.1 y hy
  have hgg := (hZ.sc hE hS).1.d hd
  refine g_aload_1 hX (dk DX0_saidOf 3 rfl) ?_
  refine g_aload_0 hX (dk DX0_saidOf 4 rfl) ?_
  refine g_getRs (r := 16) hX (dk DX0_saidOf 5 rfl) KX0 fX0_22 (by decide) rfl (CLt hH (q := 13) (by decide)) (CC hH 13 (by decide) rfl) (CR hH 13 4 16 (by decide)) ?_
  refine g_aload_1 hX (dk DX0_saidOf 6 rfl) ?_
  refine g_getD (v := (nI d)) hX (dk DX0_saidOf 7 rfl) fX0_93 (by decide) g3 (by rw [g4]; exact kcl_dc _) (hgg.2.2.2.2.1) ?_
  refine i_aaload (i0 := 6) hX (dk DX0_saidOf 8 rfl) (CLt hH (q := 16) (by decide)) (CS hH 16 (by decide) rfl) (by decide) rfl rfl (⟨rfl, by omega, by decide⟩) (SR hH (by omega)) ?_
  refine g_aload_0 hX (dk DX0_saidOf 9 rfl) ?_
  refine g_getRs (r := 1) hX (dk DX0_saidOf 10 rfl) KX0 fX0_34 (by decide) rfl (CLt hH (q := 13) (by decide)) (CC hH 13 (by decide) rfl) (CR hH 13 0 1 (by decide)) ?_
  refine g_getRs (r := 4) hX (dk DX0_saidOf 11 rfl) KX5 fX0_101 (by decide) rfl (CLt hH (q := 1) (by decide)) (CC hH 1 (by decide) rfl) (CR hH 1 5 4 (by decide)) ?_
  refine g_c3I hX (sD_X0_saidOf_22 _ (by rw [g4]; exact kcl_dc _)) (by decide) (Nat.le_of_ble_eq_true rfl) (rc0 rfl g3 rfl) (by decide) (by decide) (cD_saidOver hG g3 (by rw [g4]; exact kcl_dc _) (SL hH (by omega)) (SA hH (by omega)) (CLt hH (q := 4) (by decide)) (CS hH 4 (by decide) rfl)) ?_
  refine g_nmI (saidF E (E 8) d) (by rw [g4, hgg.2.2.2.2.2.1, ← saidF_hr e8]; exact sv_e hE hd q2) ?_
  refine g_ireturn hX (dk DX0_saidOf 13 rfl) rfl (rfl) (by decide) (by decide) ?_
  exact qI_of ⟨rfl, hS, rfl⟩

set_option maxRecDepth 8000 in
set_option maxHeartbeats 4000000 in
theorem e_stop {G : Gt} (hG : Gok G) {I : It} {h : Ht}  {E : It} {L : Nat → Int64} (hE : Inv E) (hZ : RZ E L I h) {d x : Nat} (hd : d < cnt E) (hx : x ≤ 20000) {had kn co st ca fw fd idl : Int32} (hT : TA6 I idl (had, kn, co, st, ca, fw, fd)) (hde : I 15 (d * 60 + x % 60) = dearF E d (nI x)) : Con G (4) 0 0 mX0_stop [.ref 13, .ref (dn h d), .int (nI x)] I h (qV (fun J h2 => h2 = h ∧ TA6 J idl (csS E x (mayF E x) d (had, kn, co, st, ca, fw, fd)) ∧ (∀ a, a ≠ 13 → J a = I a) ∧ J 13 1 = I 13 1)) := by
  refine con_intro (own := RX0) (lo0 := [some (.ref 13), some (.ref (dn h d)), some (.int (nI x)), none]) hG rfl pl_X0 (Nat.le_of_ble_eq_true rfl) rfl (fun X hX => ?_)
  have hW := hZ.1.wx hE
  have hH := hW.1
  have hc10 := (inv_cnt hE).2
  have hw9 := (inv_wk hE).2
  have hZJ := hZ
  obtain ⟨g1, g2, g3, g4, g5, g6, g7, g8, g9, g10⟩ := hZJ.1.d hd
  obtain ⟨t6, t8, t9, t7, t10, t11, t12, t13⟩ := hT
  obtain ⟨kc1, kc2⟩ := kc_e hE hd
  obtain ⟨ca1, ca2⟩ := ca_e hE hZ
  refine g_aload_0 hX (dk DX0_stop_0 0 rfl) ?_
  refine g_getIv hX (dk DX0_stop_0 1 rfl) KX0 fX0_120 (by decide) rfl (CLt hH (q := 13) (by decide)) (CC hH 13 (by decide) rfl) (t10) ?_
  refine g_if_ne (tgt := 20) hX (dk DX0_stop_0 2 rfl) (by decide) (fun hc1 => ?_) (fun hc1 => ?_)
  · refine g_aload_0 hX (dk DX0_stop_0 10 rfl) ?_
    refine g_dup hX (dk DX0_stop_0 11 rfl) rfl ?_
    refine g_getIv hX (dk DX0_stop_0 12 rfl) KX0 fX0_120 (by decide) rfl (CLt hH (q := 13) (by decide)) (CC hH 13 (by decide) rfl) ((show _ = st from t10)) ?_
    refine g_iconst (v := 1) hX (dk DX0_stop_0 13 rfl) (by decide) ?_
    refine g_iadd hX (dk DX0_stop_0 14 rfl) ?_
    refine g_putI hX (dk DX0_stop_0 15 rfl) KX0 fX0_120 (by decide) rfl (CLt hH (q := 13) (by decide)) (CC hH 13 (by decide) rfl) (Or.inl rfl) (rfl) (rfl) ?_
    refine g_aload_0 hX (dk DX0_stop_0 16 rfl) ?_
    refine g_getIv hX (dk DX0_stop_0 17 rfl) KX0 fX0_140 (by decide) rfl (CLt hH (q := 13) (by decide)) (CC hH 13 (by decide) rfl) ((show _ = had from t8)) ?_
    refine g_aload_0 hX (dk DX0_stop_0 18 rfl) ?_
    refine g_getRs (r := 1) hX (dk DX0_stop_0 19 rfl) KX0 fX0_34 (by decide) rfl (CLt hH (q := 13) (by decide)) (CC hH 13 (by decide) rfl) (CR hH 13 0 1 (by decide)) ?_
    refine g_c1I hX sX0_stop_38 (by decide) (Nat.le_of_ble_eq_true rfl) (rc0 rfl (CLt hH (by decide)) (CC hH 1 (by decide) rfl)) (by decide) (by decide) (c_X5_callsAtFirst hG (hW.sc (fun a ha => by simp only [upI_off (show a ≠ 13 by omega)]))) ?_
    refine g_nmI (callF E) (ca_e hE (hZ.sc hE (fun a ha => by simp only [upI_off (show a ≠ 13 by omega)]))).1 ?_
    refine g_aload_0 hX (dk DX0_stop_0 21 rfl) ?_
    refine g_getRs (r := 1) hX (dk DX0_stop_0 22 rfl) KX0 fX0_34 (by decide) rfl (CLt hH (q := 13) (by decide)) (CC hH 13 (by decide) rfl) (CR hH 13 0 1 (by decide)) ?_
    refine g_c1I hX sX0_stop_45 (by decide) (Nat.le_of_ble_eq_true rfl) (rc0 rfl (CLt hH (by decide)) (CC hH 1 (by decide) rfl)) (by decide) (by decide) (c_X5_callsFading hG (hW.sc (fun a ha => by simp only [upI_off (show a ≠ 13 by omega)]))) ?_
    refine g_nmI (fadeF E) (ca_e hE (hZ.sc hE (fun a ha => by simp only [upI_off (show a ≠ 13 by omega)]))).2 ?_
    refine g_iload_2 hX (dk DX0_stop_0 24 rfl) ?_
    refine g_imul hX (dk DX0_stop_0 25 rfl) ?_
    refine g_isub hX (dk DX0_stop_0 26 rfl) ?_
    refine g_icmp_ge (tgt := 58) hX (dk DX0_stop_0 27 rfl) (by decide) (fun hc2 => ?_) (fun hc2 => ?_)
    · have hm : ¬ had < mayF E x := Int32.not_lt.mpr hc2
      refine g_iconst (v := 0) hX (dk DX0_stop_0 30 rfl) (by decide) ?_
      refine g_istore_3 hX (dk DX0_stop_0 31 rfl) (by decide) rfl ?_
      refine g_iload_3 hX (dk DX0_stop_0 32 rfl) ?_
      refine g_if_eq (tgt := 84) hX (dk DX0_stop_0 33 rfl) (by decide) (fun hc3 => ?_) (fun hc3 => absurd (by decide) hc3)
      refine g_aload_0 hX (dk DX0_stop_0 46 rfl) ?_
      refine g_dup hX (dk DX0_stop_0 47 rfl) rfl ?_
      refine g_getIv hX (dk DX0_stop_0 48 rfl) KX0 fX0_117 (by decide) rfl (CLt hH (q := 13) (by decide)) (CC hH 13 (by decide) rfl) ((show _ = co from t7)) ?_
      refine g_iload_3 hX (dk DX0_stop_0 49 rfl) ?_
      refine g_if_eq (tgt := 97) hX (dk DX0_stop_0 50 rfl) (by decide) (fun hc4 => ?_) (fun hc4 => absurd (by decide) hc4)
      refine g_aload_0 hX (dk DX0_stop_0 53 rfl) ?_
      refine g_getRs (r := 15) hX (dk DX0_stop_0 54 rfl) KX0 fX0_17 (by decide) rfl (CLt hH (q := 13) (by decide)) (CC hH 13 (by decide) rfl) (CR hH 13 3 15 (by decide)) ?_
      refine g_aload_1 hX (dk DX0_stop_0 55 rfl) ?_
      refine g_getD (v := (nI d)) hX (dk DX0_stop_0 56 rfl) fX0_93 (by decide) g3 (by rw [g4]; exact kcl_dc _) ((by first | exact g5 | (simp only [upI_off (show dn h d ≠ 13 by omega)]; exact g5))) ?_
      refine g_iload_2 hX (dk DX0_stop_0 57 rfl) ?_
      refine g_c2I hX sX0_stop_106 (by decide) (Nat.le_of_ble_eq_true rfl) rcN (by decide) (by decide) (c_X0_dearCell hG) ?_
      refine g_nmI (nI (d * 60 + x % 60)) (dcell (by omega)) ?_
      refine v_iaload hX (dk DX0_stop_0 59 rfl) (CLt hH (q := 15) (by decide)) (CS hH 15 (by decide) rfl) (⟨rfl, dcell_lt (by omega), by decide⟩) ((show _ = dearF E d (nI x) from hde)) ?_
      refine g_iadd hX (dk DX0_stop_1 0 rfl) ?_
      refine g_putI hX (dk DX0_stop_1 1 rfl) KX0 fX0_117 (by decide) rfl (CLt hH (q := 13) (by decide)) (CC hH 13 (by decide) rfl) (Or.inl rfl) (rfl) (rfl) ?_
      refine g_iload_3 hX (dk DX0_stop_1 2 rfl) ?_
      refine g_if_eq (tgt := 128) hX (dk DX0_stop_1 3 rfl) (by decide) (fun hc5 => ?_) (fun hc5 => absurd (by decide) hc5)
      refine g_aload_1 hX (dk DX0_stop_1 8 rfl) ?_
      refine g_c1I hX (sD_X0_stop_129 _ (by rw [g4]; exact kcl_dc _)) (by decide) (Nat.le_of_ble_eq_true rfl) (rc0 rfl g3 rfl) (by decide) (by decide) (cD_isKnownByStop hG g3 (by rw [g4]; exact kcl_dc _)) ?_
      refine g_nmI (klV E d) (by first | (rw [g4, g6]; exact kc2) | (simp only [upI_off (show dn h d ≠ 13 by omega)]; rw [g4, g6]; exact kc2)) ?_
      refine g_if_eq (tgt := 150) hX (dk DX0_stop_1 10 rfl) (by decide) (fun hc6 => ?_) (fun hc6 => ?_)
      · refine g_return hX (dk DX0_stop_1 20 rfl) rfl (by decide) (by decide) ?_
        exact qV_of ⟨rfl, by unfold csS; dsimp only; (try first | rw [if_pos hc1] | rw [if_neg hc1] | rw [if_neg (not_not_intro hc1)]); (try first | rw [if_pos hc2] | rw [if_neg hc2] | rw [if_neg (not_not_intro hc2)]); (try first | rw [if_pos hc3] | rw [if_neg hc3] | rw [if_neg (not_not_intro hc3)]); (try first | rw [if_pos hc4] | rw [if_neg hc4] | rw [if_neg (not_not_intro hc4)]); (try first | rw [if_pos hc5] | rw [if_neg hc5] | rw [if_neg (not_not_intro hc5)]); (try first | rw [if_pos hc6] | rw [if_neg hc6] | rw [if_neg (not_not_intro hc6)]); (try first | rw [if_pos hc1] | rw [if_neg hc1] | rw [if_neg (not_not_intro hc1)]); (try first | rw [if_pos hc2] | rw [if_neg hc2] | rw [if_neg (not_not_intro hc2)]); (try first | rw [if_pos hc3] | rw [if_neg hc3] | rw [if_neg (not_not_intro hc3)]); (try first | rw [if_pos hc4] | rw [if_neg hc4] | rw [if_neg (not_not_intro hc4)]); (try first | rw [if_pos hc5] | rw [if_neg hc5] | rw [if_neg (not_not_intro hc5)]); (try first | rw [if_pos hc6] | rw [if_neg hc6] | rw [if_neg (not_not_intro hc6)]); (try first | rw [if_pos hm] | rw [if_neg hm]); exact ⟨t6, by first | rfl | exact t8, by first | rfl | exact t9, rfl, rfl, by first | rfl | exact t11, by first | rfl | exact t12, by first | rfl | exact t13⟩, fun a ha => by simp only [upI_off ha], rfl⟩
      · refine g_aload_0 hX (dk DX0_stop_1 11 rfl) ?_
        refine g_dup hX (dk DX0_stop_1 12 rfl) rfl ?_
        refine g_getIv hX (dk DX0_stop_1 13 rfl) KX0 fX0_111 (by decide) rfl (CLt hH (q := 13) (by decide)) (CC hH 13 (by decide) rfl) ((show _ = kn from t9)) ?_
        refine g_iconst (v := 1) hX (dk DX0_stop_1 14 rfl) (by decide) ?_
        refine g_aload_1 hX (dk DX0_stop_1 15 rfl) ?_
        refine g_getD (v := (nI d)) hX (dk DX0_stop_1 16 rfl) fX0_93 (by decide) g3 (by rw [g4]; exact kcl_dc _) ((by first | exact g5 | (simp only [upI_off (show dn h d ≠ 13 by omega)]; exact g5))) ?_
        refine g_ishl hX (dk DX0_stop_1 17 rfl) ?_
        refine g_ior hX (dk DX0_stop_1 18 rfl) ?_
        refine g_putI hX (dk DX0_stop_1 19 rfl) KX0 fX0_111 (by decide) rfl (CLt hH (q := 13) (by decide)) (CC hH 13 (by decide) rfl) (Or.inl rfl) (rfl) (rfl) ?_
        refine g_return hX (dk DX0_stop_1 20 rfl) rfl (by decide) (by decide) ?_
        exact qV_of ⟨rfl, by unfold csS; dsimp only; (try first | rw [if_pos hc1] | rw [if_neg hc1] | rw [if_neg (not_not_intro hc1)]); (try first | rw [if_pos hc2] | rw [if_neg hc2] | rw [if_neg (not_not_intro hc2)]); (try first | rw [if_pos hc3] | rw [if_neg hc3] | rw [if_neg (not_not_intro hc3)]); (try first | rw [if_pos hc4] | rw [if_neg hc4] | rw [if_neg (not_not_intro hc4)]); (try first | rw [if_pos hc5] | rw [if_neg hc5] | rw [if_neg (not_not_intro hc5)]); (try first | rw [if_pos hc6] | rw [if_neg hc6] | rw [if_neg (not_not_intro hc6)]); (try first | rw [if_pos hc1] | rw [if_neg hc1] | rw [if_neg (not_not_intro hc1)]); (try first | rw [if_pos hc2] | rw [if_neg hc2] | rw [if_neg (not_not_intro hc2)]); (try first | rw [if_pos hc3] | rw [if_neg hc3] | rw [if_neg (not_not_intro hc3)]); (try first | rw [if_pos hc4] | rw [if_neg hc4] | rw [if_neg (not_not_intro hc4)]); (try first | rw [if_pos hc5] | rw [if_neg hc5] | rw [if_neg (not_not_intro hc5)]); (try first | rw [if_pos hc6] | rw [if_neg hc6] | rw [if_neg (not_not_intro hc6)]); (try first | rw [if_pos hm] | rw [if_neg hm]); exact ⟨t6, by first | rfl | exact t8, by first | rfl | exact t9, rfl, rfl, by first | rfl | exact t11, by first | rfl | exact t12, by first | rfl | exact t13⟩, fun a ha => by simp only [upI_off ha], rfl⟩
    · have hm : had < mayF E x := Int32.not_le.mp hc2
      refine g_iconst (v := 1) hX (dk DX0_stop_0 28 rfl) (by decide) ?_
      refine g_goto (tgt := 59) hX (dk DX0_stop_0 29 rfl) (by decide) ?_
      refine g_istore_3 hX (dk DX0_stop_0 31 rfl) (by decide) rfl ?_
      refine g_iload_3 hX (dk DX0_stop_0 32 rfl) ?_
      refine g_if_eq (tgt := 84) hX (dk DX0_stop_0 33 rfl) (by decide) (fun hc7 => absurd hc7 (by decide)) (fun hc7 => ?_)
      refine g_aload_0 hX (dk DX0_stop_0 34 rfl) ?_
      refine g_dup hX (dk DX0_stop_0 35 rfl) rfl ?_
      refine g_getIv hX (dk DX0_stop_0 36 rfl) KX0 fX0_140 (by decide) rfl (CLt hH (q := 13) (by decide)) (CC hH 13 (by decide) rfl) ((show _ = had from t8)) ?_
      refine g_iconst (v := 1) hX (dk DX0_stop_0 37 rfl) (by decide) ?_
      refine g_iadd hX (dk DX0_stop_0 38 rfl) ?_
      refine g_putI hX (dk DX0_stop_0 39 rfl) KX0 fX0_140 (by decide) rfl (CLt hH (q := 13) (by decide)) (CC hH 13 (by decide) rfl) (Or.inl rfl) (rfl) (rfl) ?_
      refine g_aload_0 hX (dk DX0_stop_0 40 rfl) ?_
      refine g_dup hX (dk DX0_stop_0 41 rfl) rfl ?_
      refine g_getIv hX (dk DX0_stop_0 42 rfl) KX0 fX0_123 (by decide) rfl (CLt hH (q := 13) (by decide)) (CC hH 13 (by decide) rfl) ((show _ = ca from t11)) ?_
      refine g_iconst (v := 1) hX (dk DX0_stop_0 43 rfl) (by decide) ?_
      refine g_iadd hX (dk DX0_stop_0 44 rfl) ?_
      refine g_putI hX (dk DX0_stop_0 45 rfl) KX0 fX0_123 (by decide) rfl (CLt hH (q := 13) (by decide)) (CC hH 13 (by decide) rfl) (Or.inl rfl) (rfl) (rfl) ?_
      refine g_aload_0 hX (dk DX0_stop_0 46 rfl) ?_
      refine g_dup hX (dk DX0_stop_0 47 rfl) rfl ?_
      refine g_getIv hX (dk DX0_stop_0 48 rfl) KX0 fX0_117 (by decide) rfl (CLt hH (q := 13) (by decide)) (CC hH 13 (by decide) rfl) ((show _ = co from t7)) ?_
      refine g_iload_3 hX (dk DX0_stop_0 49 rfl) ?_
      refine g_if_eq (tgt := 97) hX (dk DX0_stop_0 50 rfl) (by decide) (fun hc8 => absurd hc8 (by decide)) (fun hc8 => ?_)
      refine g_iconst (v := 1) hX (dk DX0_stop_0 51 rfl) (by decide) ?_
      refine g_goto (tgt := 110) hX (dk DX0_stop_0 52 rfl) (by decide) ?_
      refine g_iadd hX (dk DX0_stop_1 0 rfl) ?_
      refine g_putI hX (dk DX0_stop_1 1 rfl) KX0 fX0_117 (by decide) rfl (CLt hH (q := 13) (by decide)) (CC hH 13 (by decide) rfl) (Or.inl rfl) (rfl) (rfl) ?_
      refine g_iload_3 hX (dk DX0_stop_1 2 rfl) ?_
      refine g_if_eq (tgt := 128) hX (dk DX0_stop_1 3 rfl) (by decide) (fun hc9 => absurd hc9 (by decide)) (fun hc9 => ?_)
      refine g_aload_1 hX (dk DX0_stop_1 4 rfl) ?_
      refine g_c1I hX (sD_X0_stop_119 _ (by rw [g4]; exact kcl_dc _)) (by decide) (Nat.le_of_ble_eq_true rfl) (rc0 rfl g3 rfl) (by decide) (by decide) (cD_isKnownByCall hG g3 (by rw [g4]; exact kcl_dc _)) ?_
      refine g_nmI (kcV E d) (by rw [g4]; exact kc1) ?_
      refine g_if_eq (tgt := 150) hX (dk DX0_stop_1 6 rfl) (by decide) (fun hc10 => ?_) (fun hc10 => ?_)
      · refine g_return hX (dk DX0_stop_1 20 rfl) rfl (by decide) (by decide) ?_
        exact qV_of ⟨rfl, by unfold csS; dsimp only; (try first | rw [if_pos hc1] | rw [if_neg hc1] | rw [if_neg (not_not_intro hc1)]); (try first | rw [if_pos hc2] | rw [if_neg hc2] | rw [if_neg (not_not_intro hc2)]); (try first | rw [if_pos hc7] | rw [if_neg hc7] | rw [if_neg (not_not_intro hc7)]); (try first | rw [if_pos hc8] | rw [if_neg hc8] | rw [if_neg (not_not_intro hc8)]); (try first | rw [if_pos hc9] | rw [if_neg hc9] | rw [if_neg (not_not_intro hc9)]); (try first | rw [if_pos hc10] | rw [if_neg hc10] | rw [if_neg (not_not_intro hc10)]); (try first | rw [if_pos hc1] | rw [if_neg hc1] | rw [if_neg (not_not_intro hc1)]); (try first | rw [if_pos hc2] | rw [if_neg hc2] | rw [if_neg (not_not_intro hc2)]); (try first | rw [if_pos hc7] | rw [if_neg hc7] | rw [if_neg (not_not_intro hc7)]); (try first | rw [if_pos hc8] | rw [if_neg hc8] | rw [if_neg (not_not_intro hc8)]); (try first | rw [if_pos hc9] | rw [if_neg hc9] | rw [if_neg (not_not_intro hc9)]); (try first | rw [if_pos hc10] | rw [if_neg hc10] | rw [if_neg (not_not_intro hc10)]); (try first | rw [if_pos hm] | rw [if_neg hm]); exact ⟨t6, by first | rfl | exact t8, by first | rfl | exact t9, rfl, rfl, by first | rfl | exact t11, by first | rfl | exact t12, by first | rfl | exact t13⟩, fun a ha => by simp only [upI_off ha], rfl⟩
      · refine g_goto (tgt := 135) hX (dk DX0_stop_1 7 rfl) (by decide) ?_
        refine g_aload_0 hX (dk DX0_stop_1 11 rfl) ?_
        refine g_dup hX (dk DX0_stop_1 12 rfl) rfl ?_
        refine g_getIv hX (dk DX0_stop_1 13 rfl) KX0 fX0_111 (by decide) rfl (CLt hH (q := 13) (by decide)) (CC hH 13 (by decide) rfl) ((show _ = kn from t9)) ?_
        refine g_iconst (v := 1) hX (dk DX0_stop_1 14 rfl) (by decide) ?_
        refine g_aload_1 hX (dk DX0_stop_1 15 rfl) ?_
        refine g_getD (v := (nI d)) hX (dk DX0_stop_1 16 rfl) fX0_93 (by decide) g3 (by rw [g4]; exact kcl_dc _) ((by first | exact g5 | (simp only [upI_off (show dn h d ≠ 13 by omega)]; exact g5))) ?_
        refine g_ishl hX (dk DX0_stop_1 17 rfl) ?_
        refine g_ior hX (dk DX0_stop_1 18 rfl) ?_
        refine g_putI hX (dk DX0_stop_1 19 rfl) KX0 fX0_111 (by decide) rfl (CLt hH (q := 13) (by decide)) (CC hH 13 (by decide) rfl) (Or.inl rfl) (rfl) (rfl) ?_
        refine g_return hX (dk DX0_stop_1 20 rfl) rfl (by decide) (by decide) ?_
        exact qV_of ⟨rfl, by unfold csS; dsimp only; (try first | rw [if_pos hc1] | rw [if_neg hc1] | rw [if_neg (not_not_intro hc1)]); (try first | rw [if_pos hc2] | rw [if_neg hc2] | rw [if_neg (not_not_intro hc2)]); (try first | rw [if_pos hc7] | rw [if_neg hc7] | rw [if_neg (not_not_intro hc7)]); (try first | rw [if_pos hc8] | rw [if_neg hc8] | rw [if_neg (not_not_intro hc8)]); (try first | rw [if_pos hc9] | rw [if_neg hc9] | rw [if_neg (not_not_intro hc9)]); (try first | rw [if_pos hc10] | rw [if_neg hc10] | rw [if_neg (not_not_intro hc10)]); (try first | rw [if_pos hc1] | rw [if_neg hc1] | rw [if_neg (not_not_intro hc1)]); (try first | rw [if_pos hc2] | rw [if_neg hc2] | rw [if_neg (not_not_intro hc2)]); (try first | rw [if_pos hc7] | rw [if_neg hc7] | rw [if_neg (not_not_intro hc7)]); (try first | rw [if_pos hc8] | rw [if_neg hc8] | rw [if_neg (not_not_intro hc8)]); (try first | rw [if_pos hc9] | rw [if_neg hc9] | rw [if_neg (not_not_intro hc9)]); (try first | rw [if_pos hc10] | rw [if_neg hc10] | rw [if_neg (not_not_intro hc10)]); (try first | rw [if_pos hm] | rw [if_neg hm]); exact ⟨t6, by first | rfl | exact t8, by first | rfl | exact t9, rfl, rfl, by first | rfl | exact t11, by first | rfl | exact t12, by first | rfl | exact t13⟩, fun a ha => by simp only [upI_off ha], rfl⟩
  · refine g_aload_0 hX (dk DX0_stop_0 3 rfl) ?_
    refine g_iload_2 hX (dk DX0_stop_0 4 rfl) ?_
    refine g_putI hX (dk DX0_stop_0 5 rfl) KX0 fX0_126 (by decide) rfl (CLt hH (q := 13) (by decide)) (CC hH 13 (by decide) rfl) (Or.inl rfl) (rfl) (rfl) ?_
    refine g_aload_0 hX (dk DX0_stop_0 6 rfl) ?_
    refine g_aload_1 hX (dk DX0_stop_0 7 rfl) ?_
    refine g_getD (v := (nI d)) hX (dk DX0_stop_0 8 rfl) fX0_93 (by decide) g3 (by rw [g4]; exact kcl_dc _) ((by first | exact g5 | (simp only [upI_off (show dn h d ≠ 13 by omega)]; exact g5))) ?_
    refine g_putI hX (dk DX0_stop_0 9 rfl) KX0 fX0_129 (by decide) rfl (CLt hH (q := 13) (by decide)) (CC hH 13 (by decide) rfl) (Or.inl rfl) (rfl) (rfl) ?_
    refine g_aload_0 hX (dk DX0_stop_0 10 rfl) ?_
    refine g_dup hX (dk DX0_stop_0 11 rfl) rfl ?_
    refine g_getIv hX (dk DX0_stop_0 12 rfl) KX0 fX0_120 (by decide) rfl (CLt hH (q := 13) (by decide)) (CC hH 13 (by decide) rfl) ((show _ = st from t10)) ?_
    refine g_iconst (v := 1) hX (dk DX0_stop_0 13 rfl) (by decide) ?_
    refine g_iadd hX (dk DX0_stop_0 14 rfl) ?_
    refine g_putI hX (dk DX0_stop_0 15 rfl) KX0 fX0_120 (by decide) rfl (CLt hH (q := 13) (by decide)) (CC hH 13 (by decide) rfl) (Or.inl rfl) (rfl) (rfl) ?_
    refine g_aload_0 hX (dk DX0_stop_0 16 rfl) ?_
    refine g_getIv hX (dk DX0_stop_0 17 rfl) KX0 fX0_140 (by decide) rfl (CLt hH (q := 13) (by decide)) (CC hH 13 (by decide) rfl) ((show _ = had from t8)) ?_
    refine g_aload_0 hX (dk DX0_stop_0 18 rfl) ?_
    refine g_getRs (r := 1) hX (dk DX0_stop_0 19 rfl) KX0 fX0_34 (by decide) rfl (CLt hH (q := 13) (by decide)) (CC hH 13 (by decide) rfl) (CR hH 13 0 1 (by decide)) ?_
    refine g_c1I hX sX0_stop_38 (by decide) (Nat.le_of_ble_eq_true rfl) (rc0 rfl (CLt hH (by decide)) (CC hH 1 (by decide) rfl)) (by decide) (by decide) (c_X5_callsAtFirst hG (hW.sc (fun a ha => by simp only [upI_off (show a ≠ 13 by omega)]))) ?_
    refine g_nmI (callF E) (ca_e hE (hZ.sc hE (fun a ha => by simp only [upI_off (show a ≠ 13 by omega)]))).1 ?_
    refine g_aload_0 hX (dk DX0_stop_0 21 rfl) ?_
    refine g_getRs (r := 1) hX (dk DX0_stop_0 22 rfl) KX0 fX0_34 (by decide) rfl (CLt hH (q := 13) (by decide)) (CC hH 13 (by decide) rfl) (CR hH 13 0 1 (by decide)) ?_
    refine g_c1I hX sX0_stop_45 (by decide) (Nat.le_of_ble_eq_true rfl) (rc0 rfl (CLt hH (by decide)) (CC hH 1 (by decide) rfl)) (by decide) (by decide) (c_X5_callsFading hG (hW.sc (fun a ha => by simp only [upI_off (show a ≠ 13 by omega)]))) ?_
    refine g_nmI (fadeF E) (ca_e hE (hZ.sc hE (fun a ha => by simp only [upI_off (show a ≠ 13 by omega)]))).2 ?_
    refine g_iload_2 hX (dk DX0_stop_0 24 rfl) ?_
    refine g_imul hX (dk DX0_stop_0 25 rfl) ?_
    refine g_isub hX (dk DX0_stop_0 26 rfl) ?_
    refine g_icmp_ge (tgt := 58) hX (dk DX0_stop_0 27 rfl) (by decide) (fun hc11 => ?_) (fun hc11 => ?_)
    · have hm : ¬ had < mayF E x := Int32.not_lt.mpr hc11
      refine g_iconst (v := 0) hX (dk DX0_stop_0 30 rfl) (by decide) ?_
      refine g_istore_3 hX (dk DX0_stop_0 31 rfl) (by decide) rfl ?_
      refine g_iload_3 hX (dk DX0_stop_0 32 rfl) ?_
      refine g_if_eq (tgt := 84) hX (dk DX0_stop_0 33 rfl) (by decide) (fun hc12 => ?_) (fun hc12 => absurd (by decide) hc12)
      refine g_aload_0 hX (dk DX0_stop_0 46 rfl) ?_
      refine g_dup hX (dk DX0_stop_0 47 rfl) rfl ?_
      refine g_getIv hX (dk DX0_stop_0 48 rfl) KX0 fX0_117 (by decide) rfl (CLt hH (q := 13) (by decide)) (CC hH 13 (by decide) rfl) ((show _ = co from t7)) ?_
      refine g_iload_3 hX (dk DX0_stop_0 49 rfl) ?_
      refine g_if_eq (tgt := 97) hX (dk DX0_stop_0 50 rfl) (by decide) (fun hc13 => ?_) (fun hc13 => absurd (by decide) hc13)
      refine g_aload_0 hX (dk DX0_stop_0 53 rfl) ?_
      refine g_getRs (r := 15) hX (dk DX0_stop_0 54 rfl) KX0 fX0_17 (by decide) rfl (CLt hH (q := 13) (by decide)) (CC hH 13 (by decide) rfl) (CR hH 13 3 15 (by decide)) ?_
      refine g_aload_1 hX (dk DX0_stop_0 55 rfl) ?_
      refine g_getD (v := (nI d)) hX (dk DX0_stop_0 56 rfl) fX0_93 (by decide) g3 (by rw [g4]; exact kcl_dc _) ((by first | exact g5 | (simp only [upI_off (show dn h d ≠ 13 by omega)]; exact g5))) ?_
      refine g_iload_2 hX (dk DX0_stop_0 57 rfl) ?_
      refine g_c2I hX sX0_stop_106 (by decide) (Nat.le_of_ble_eq_true rfl) rcN (by decide) (by decide) (c_X0_dearCell hG) ?_
      refine g_nmI (nI (d * 60 + x % 60)) (dcell (by omega)) ?_
      refine v_iaload hX (dk DX0_stop_0 59 rfl) (CLt hH (q := 15) (by decide)) (CS hH 15 (by decide) rfl) (⟨rfl, dcell_lt (by omega), by decide⟩) ((show _ = dearF E d (nI x) from hde)) ?_
      refine g_iadd hX (dk DX0_stop_1 0 rfl) ?_
      refine g_putI hX (dk DX0_stop_1 1 rfl) KX0 fX0_117 (by decide) rfl (CLt hH (q := 13) (by decide)) (CC hH 13 (by decide) rfl) (Or.inl rfl) (rfl) (rfl) ?_
      refine g_iload_3 hX (dk DX0_stop_1 2 rfl) ?_
      refine g_if_eq (tgt := 128) hX (dk DX0_stop_1 3 rfl) (by decide) (fun hc14 => ?_) (fun hc14 => absurd (by decide) hc14)
      refine g_aload_1 hX (dk DX0_stop_1 8 rfl) ?_
      refine g_c1I hX (sD_X0_stop_129 _ (by rw [g4]; exact kcl_dc _)) (by decide) (Nat.le_of_ble_eq_true rfl) (rc0 rfl g3 rfl) (by decide) (by decide) (cD_isKnownByStop hG g3 (by rw [g4]; exact kcl_dc _)) ?_
      refine g_nmI (klV E d) (by first | (rw [g4, g6]; exact kc2) | (simp only [upI_off (show dn h d ≠ 13 by omega)]; rw [g4, g6]; exact kc2)) ?_
      refine g_if_eq (tgt := 150) hX (dk DX0_stop_1 10 rfl) (by decide) (fun hc15 => ?_) (fun hc15 => ?_)
      · refine g_return hX (dk DX0_stop_1 20 rfl) rfl (by decide) (by decide) ?_
        exact qV_of ⟨rfl, by unfold csS; dsimp only; (try first | rw [if_pos hc1] | rw [if_neg hc1] | rw [if_neg (not_not_intro hc1)]); (try first | rw [if_pos hc11] | rw [if_neg hc11] | rw [if_neg (not_not_intro hc11)]); (try first | rw [if_pos hc12] | rw [if_neg hc12] | rw [if_neg (not_not_intro hc12)]); (try first | rw [if_pos hc13] | rw [if_neg hc13] | rw [if_neg (not_not_intro hc13)]); (try first | rw [if_pos hc14] | rw [if_neg hc14] | rw [if_neg (not_not_intro hc14)]); (try first | rw [if_pos hc15] | rw [if_neg hc15] | rw [if_neg (not_not_intro hc15)]); (try first | rw [if_pos hc1] | rw [if_neg hc1] | rw [if_neg (not_not_intro hc1)]); (try first | rw [if_pos hc11] | rw [if_neg hc11] | rw [if_neg (not_not_intro hc11)]); (try first | rw [if_pos hc12] | rw [if_neg hc12] | rw [if_neg (not_not_intro hc12)]); (try first | rw [if_pos hc13] | rw [if_neg hc13] | rw [if_neg (not_not_intro hc13)]); (try first | rw [if_pos hc14] | rw [if_neg hc14] | rw [if_neg (not_not_intro hc14)]); (try first | rw [if_pos hc15] | rw [if_neg hc15] | rw [if_neg (not_not_intro hc15)]); (try first | rw [if_pos hm] | rw [if_neg hm]); exact ⟨t6, by first | rfl | exact t8, by first | rfl | exact t9, rfl, rfl, by first | rfl | exact t11, by first | rfl | exact t12, by first | rfl | exact t13⟩, fun a ha => by simp only [upI_off ha], rfl⟩
      · refine g_aload_0 hX (dk DX0_stop_1 11 rfl) ?_
        refine g_dup hX (dk DX0_stop_1 12 rfl) rfl ?_
        refine g_getIv hX (dk DX0_stop_1 13 rfl) KX0 fX0_111 (by decide) rfl (CLt hH (q := 13) (by decide)) (CC hH 13 (by decide) rfl) ((show _ = kn from t9)) ?_
        refine g_iconst (v := 1) hX (dk DX0_stop_1 14 rfl) (by decide) ?_
        refine g_aload_1 hX (dk DX0_stop_1 15 rfl) ?_
        refine g_getD (v := (nI d)) hX (dk DX0_stop_1 16 rfl) fX0_93 (by decide) g3 (by rw [g4]; exact kcl_dc _) ((by first | exact g5 | (simp only [upI_off (show dn h d ≠ 13 by omega)]; exact g5))) ?_
        refine g_ishl hX (dk DX0_stop_1 17 rfl) ?_
        refine g_ior hX (dk DX0_stop_1 18 rfl) ?_
        refine g_putI hX (dk DX0_stop_1 19 rfl) KX0 fX0_111 (by decide) rfl (CLt hH (q := 13) (by decide)) (CC hH 13 (by decide) rfl) (Or.inl rfl) (rfl) (rfl) ?_
        refine g_return hX (dk DX0_stop_1 20 rfl) rfl (by decide) (by decide) ?_
        exact qV_of ⟨rfl, by unfold csS; dsimp only; (try first | rw [if_pos hc1] | rw [if_neg hc1] | rw [if_neg (not_not_intro hc1)]); (try first | rw [if_pos hc11] | rw [if_neg hc11] | rw [if_neg (not_not_intro hc11)]); (try first | rw [if_pos hc12] | rw [if_neg hc12] | rw [if_neg (not_not_intro hc12)]); (try first | rw [if_pos hc13] | rw [if_neg hc13] | rw [if_neg (not_not_intro hc13)]); (try first | rw [if_pos hc14] | rw [if_neg hc14] | rw [if_neg (not_not_intro hc14)]); (try first | rw [if_pos hc15] | rw [if_neg hc15] | rw [if_neg (not_not_intro hc15)]); (try first | rw [if_pos hc1] | rw [if_neg hc1] | rw [if_neg (not_not_intro hc1)]); (try first | rw [if_pos hc11] | rw [if_neg hc11] | rw [if_neg (not_not_intro hc11)]); (try first | rw [if_pos hc12] | rw [if_neg hc12] | rw [if_neg (not_not_intro hc12)]); (try first | rw [if_pos hc13] | rw [if_neg hc13] | rw [if_neg (not_not_intro hc13)]); (try first | rw [if_pos hc14] | rw [if_neg hc14] | rw [if_neg (not_not_intro hc14)]); (try first | rw [if_pos hc15] | rw [if_neg hc15] | rw [if_neg (not_not_intro hc15)]); (try first | rw [if_pos hm] | rw [if_neg hm]); exact ⟨t6, by first | rfl | exact t8, by first | rfl | exact t9, rfl, rfl, by first | rfl | exact t11, by first | rfl | exact t12, by first | rfl | exact t13⟩, fun a ha => by simp only [upI_off ha], rfl⟩
    · have hm : had < mayF E x := Int32.not_le.mp hc11
      refine g_iconst (v := 1) hX (dk DX0_stop_0 28 rfl) (by decide) ?_
      refine g_goto (tgt := 59) hX (dk DX0_stop_0 29 rfl) (by decide) ?_
      refine g_istore_3 hX (dk DX0_stop_0 31 rfl) (by decide) rfl ?_
      refine g_iload_3 hX (dk DX0_stop_0 32 rfl) ?_
      refine g_if_eq (tgt := 84) hX (dk DX0_stop_0 33 rfl) (by decide) (fun hc16 => absurd hc16 (by decide)) (fun hc16 => ?_)
      refine g_aload_0 hX (dk DX0_stop_0 34 rfl) ?_
      refine g_dup hX (dk DX0_stop_0 35 rfl) rfl ?_
      refine g_getIv hX (dk DX0_stop_0 36 rfl) KX0 fX0_140 (by decide) rfl (CLt hH (q := 13) (by decide)) (CC hH 13 (by decide) rfl) ((show _ = had from t8)) ?_
      refine g_iconst (v := 1) hX (dk DX0_stop_0 37 rfl) (by decide) ?_
      refine g_iadd hX (dk DX0_stop_0 38 rfl) ?_
      refine g_putI hX (dk DX0_stop_0 39 rfl) KX0 fX0_140 (by decide) rfl (CLt hH (q := 13) (by decide)) (CC hH 13 (by decide) rfl) (Or.inl rfl) (rfl) (rfl) ?_
      refine g_aload_0 hX (dk DX0_stop_0 40 rfl) ?_
      refine g_dup hX (dk DX0_stop_0 41 rfl) rfl ?_
      refine g_getIv hX (dk DX0_stop_0 42 rfl) KX0 fX0_123 (by decide) rfl (CLt hH (q := 13) (by decide)) (CC hH 13 (by decide) rfl) ((show _ = ca from t11)) ?_
      refine g_iconst (v := 1) hX (dk DX0_stop_0 43 rfl) (by decide) ?_
      refine g_iadd hX (dk DX0_stop_0 44 rfl) ?_
      refine g_putI hX (dk DX0_stop_0 45 rfl) KX0 fX0_123 (by decide) rfl (CLt hH (q := 13) (by decide)) (CC hH 13 (by decide) rfl) (Or.inl rfl) (rfl) (rfl) ?_
      refine g_aload_0 hX (dk DX0_stop_0 46 rfl) ?_
      refine g_dup hX (dk DX0_stop_0 47 rfl) rfl ?_
      refine g_getIv hX (dk DX0_stop_0 48 rfl) KX0 fX0_117 (by decide) rfl (CLt hH (q := 13) (by decide)) (CC hH 13 (by decide) rfl) ((show _ = co from t7)) ?_
      refine g_iload_3 hX (dk DX0_stop_0 49 rfl) ?_
      refine g_if_eq (tgt := 97) hX (dk DX0_stop_0 50 rfl) (by decide) (fun hc17 => absurd hc17 (by decide)) (fun hc17 => ?_)
      refine g_iconst (v := 1) hX (dk DX0_stop_0 51 rfl) (by decide) ?_
      refine g_goto (tgt := 110) hX (dk DX0_stop_0 52 rfl) (by decide) ?_
      refine g_iadd hX (dk DX0_stop_1 0 rfl) ?_
      refine g_putI hX (dk DX0_stop_1 1 rfl) KX0 fX0_117 (by decide) rfl (CLt hH (q := 13) (by decide)) (CC hH 13 (by decide) rfl) (Or.inl rfl) (rfl) (rfl) ?_
      refine g_iload_3 hX (dk DX0_stop_1 2 rfl) ?_
      refine g_if_eq (tgt := 128) hX (dk DX0_stop_1 3 rfl) (by decide) (fun hc18 => absurd hc18 (by decide)) (fun hc18 => ?_)
      refine g_aload_1 hX (dk DX0_stop_1 4 rfl) ?_
      refine g_c1I hX (sD_X0_stop_119 _ (by rw [g4]; exact kcl_dc _)) (by decide) (Nat.le_of_ble_eq_true rfl) (rc0 rfl g3 rfl) (by decide) (by decide) (cD_isKnownByCall hG g3 (by rw [g4]; exact kcl_dc _)) ?_
      refine g_nmI (kcV E d) (by rw [g4]; exact kc1) ?_
      refine g_if_eq (tgt := 150) hX (dk DX0_stop_1 6 rfl) (by decide) (fun hc19 => ?_) (fun hc19 => ?_)
      · refine g_return hX (dk DX0_stop_1 20 rfl) rfl (by decide) (by decide) ?_
        exact qV_of ⟨rfl, by unfold csS; dsimp only; (try first | rw [if_pos hc1] | rw [if_neg hc1] | rw [if_neg (not_not_intro hc1)]); (try first | rw [if_pos hc11] | rw [if_neg hc11] | rw [if_neg (not_not_intro hc11)]); (try first | rw [if_pos hc16] | rw [if_neg hc16] | rw [if_neg (not_not_intro hc16)]); (try first | rw [if_pos hc17] | rw [if_neg hc17] | rw [if_neg (not_not_intro hc17)]); (try first | rw [if_pos hc18] | rw [if_neg hc18] | rw [if_neg (not_not_intro hc18)]); (try first | rw [if_pos hc19] | rw [if_neg hc19] | rw [if_neg (not_not_intro hc19)]); (try first | rw [if_pos hc1] | rw [if_neg hc1] | rw [if_neg (not_not_intro hc1)]); (try first | rw [if_pos hc11] | rw [if_neg hc11] | rw [if_neg (not_not_intro hc11)]); (try first | rw [if_pos hc16] | rw [if_neg hc16] | rw [if_neg (not_not_intro hc16)]); (try first | rw [if_pos hc17] | rw [if_neg hc17] | rw [if_neg (not_not_intro hc17)]); (try first | rw [if_pos hc18] | rw [if_neg hc18] | rw [if_neg (not_not_intro hc18)]); (try first | rw [if_pos hc19] | rw [if_neg hc19] | rw [if_neg (not_not_intro hc19)]); (try first | rw [if_pos hm] | rw [if_neg hm]); exact ⟨t6, by first | rfl | exact t8, by first | rfl | exact t9, rfl, rfl, by first | rfl | exact t11, by first | rfl | exact t12, by first | rfl | exact t13⟩, fun a ha => by simp only [upI_off ha], rfl⟩
      · refine g_goto (tgt := 135) hX (dk DX0_stop_1 7 rfl) (by decide) ?_
        refine g_aload_0 hX (dk DX0_stop_1 11 rfl) ?_
        refine g_dup hX (dk DX0_stop_1 12 rfl) rfl ?_
        refine g_getIv hX (dk DX0_stop_1 13 rfl) KX0 fX0_111 (by decide) rfl (CLt hH (q := 13) (by decide)) (CC hH 13 (by decide) rfl) ((show _ = kn from t9)) ?_
        refine g_iconst (v := 1) hX (dk DX0_stop_1 14 rfl) (by decide) ?_
        refine g_aload_1 hX (dk DX0_stop_1 15 rfl) ?_
        refine g_getD (v := (nI d)) hX (dk DX0_stop_1 16 rfl) fX0_93 (by decide) g3 (by rw [g4]; exact kcl_dc _) ((by first | exact g5 | (simp only [upI_off (show dn h d ≠ 13 by omega)]; exact g5))) ?_
        refine g_ishl hX (dk DX0_stop_1 17 rfl) ?_
        refine g_ior hX (dk DX0_stop_1 18 rfl) ?_
        refine g_putI hX (dk DX0_stop_1 19 rfl) KX0 fX0_111 (by decide) rfl (CLt hH (q := 13) (by decide)) (CC hH 13 (by decide) rfl) (Or.inl rfl) (rfl) (rfl) ?_
        refine g_return hX (dk DX0_stop_1 20 rfl) rfl (by decide) (by decide) ?_
        exact qV_of ⟨rfl, by unfold csS; dsimp only; (try first | rw [if_pos hc1] | rw [if_neg hc1] | rw [if_neg (not_not_intro hc1)]); (try first | rw [if_pos hc11] | rw [if_neg hc11] | rw [if_neg (not_not_intro hc11)]); (try first | rw [if_pos hc16] | rw [if_neg hc16] | rw [if_neg (not_not_intro hc16)]); (try first | rw [if_pos hc17] | rw [if_neg hc17] | rw [if_neg (not_not_intro hc17)]); (try first | rw [if_pos hc18] | rw [if_neg hc18] | rw [if_neg (not_not_intro hc18)]); (try first | rw [if_pos hc19] | rw [if_neg hc19] | rw [if_neg (not_not_intro hc19)]); (try first | rw [if_pos hc1] | rw [if_neg hc1] | rw [if_neg (not_not_intro hc1)]); (try first | rw [if_pos hc11] | rw [if_neg hc11] | rw [if_neg (not_not_intro hc11)]); (try first | rw [if_pos hc16] | rw [if_neg hc16] | rw [if_neg (not_not_intro hc16)]); (try first | rw [if_pos hc17] | rw [if_neg hc17] | rw [if_neg (not_not_intro hc17)]); (try first | rw [if_pos hc18] | rw [if_neg hc18] | rw [if_neg (not_not_intro hc18)]); (try first | rw [if_pos hc19] | rw [if_neg hc19] | rw [if_neg (not_not_intro hc19)]); (try first | rw [if_pos hm] | rw [if_neg hm]); exact ⟨t6, by first | rfl | exact t8, by first | rfl | exact t9, rfl, rfl, by first | rfl | exact t11, by first | rfl | exact t12, by first | rfl | exact t13⟩, fun a ha => by simp only [upI_off ha], rfl⟩

