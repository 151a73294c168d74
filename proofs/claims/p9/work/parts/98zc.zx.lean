set_option maxRecDepth 8000 in
set_option maxHeartbeats 4000000 in
theorem zx_run {G : Gt} (hG : Gok G) {I : It} {h : Ht}  {E : It} {L : Nat → Int64} (hE : Inv E) (hZ : RZ E L I h) {n w : Int32} : Con G (8) 0 0 mX11_run [.ref 0, .int n, .int w] I h (qZ (runS E n w) L (hn h)) := by
  refine con_intro (own := RX11) (lo0 := [some (.ref 0), some (.int n), some (.int w), none]) hG rfl pl_X11 (Nat.le_of_ble_eq_true rfl) rfl (fun X hX => ?_)
  have hY := hZ.1
  have hW := hY.wx hE
  have hH := hW.1
  have hc10 := hW.2.1.2
  have hcE := (inv_cnt hE).2
  refine g_iload_2 hX (dk DX11_run 0 rfl) ?_
  refine g_iconst (v := 0) hX (dk DX11_run 1 rfl) (by decide) ?_
  refine g_iconst (v := 5) hX (dk DX11_run 2 rfl) (by decide) ?_
  refine g_c3I hX sX11_run_3 (by decide) (Nat.le_of_ble_eq_true rfl) rcN (by decide) (by decide) (c_X11_isNot hG ) ?_
  refine g_ifb_eq (tgt := 13) hX (dk DX11_run 4 rfl) (by decide) (fun hc1 => ?_) (fun hc1 => ?_)
  · refine g_iload_1 hX (dk DX11_run 7 rfl) ?_
    refine g_iconst (v := 0) hX (dk DX11_run 8 rfl) (by decide) ?_
    refine g_sipush (v := 200) hX (dk DX11_run 9 rfl) (by decide) ?_
    refine g_c3I hX sX11_run_18 (by decide) (Nat.le_of_ble_eq_true rfl) rcN (by decide) (by decide) (c_X11_isNot hG ) ?_
    refine g_ifb_eq (tgt := 28) hX (dk DX11_run 11 rfl) (by decide) (fun hc2 => ?_) (fun hc2 => ?_)
    · obtain ⟨m, hm, rfl⟩ := in_of (b := 200) (by decide) (Decidable.not_not.mp hc2)
      have hm2 : m ≤ 200 := by omega
      refine g_aload_0 hX (dk DX11_run 14 rfl) ?_
      refine g_getRs (r := 13) hX (dk DX11_run 15 rfl) KX11 fX11_26 (by decide) rfl (CLt hH (q := 0) (by decide)) (CC hH 0 (by decide) rfl) (CR hH 0 3 13 (by decide)) ?_
      refine g_iload_1 hX (dk DX11_run 16 rfl) ?_
      refine g_c2v hX sX11_run_33 (by decide) (Nat.le_of_ble_eq_true rfl) (rc0 rfl (CLt hH (by decide)) (CC hH 13 (by decide) rfl)) (by decide) (by decide) (e_look hG hE hZ hm2) ?_
      rintro J _ ⟨hS, hsp, hAH, rfl⟩
      have hZJ := hZ.sc hE hS
      have hWJ := hZJ.1.wx hE
      refine g_aload_0 hX (dk DX11_run 18 rfl) ?_
      refine g_getRs (r := 13) hX (dk DX11_run 19 rfl) KX11 fX11_26 (by decide) rfl (CLt hH (q := 0) (by decide)) (CC hH 0 (by decide) rfl) (CR hH 0 3 13 (by decide)) ?_
      refine g_aload_0 hX (dk DX11_run 20 rfl) ?_
      refine g_getRs (r := 1) hX (dk DX11_run 21 rfl) KX11 fX11_12 (by decide) rfl (CLt hH (q := 0) (by decide)) (CC hH 0 (by decide) rfl) (CR hH 0 0 1 (by decide)) ?_
      refine g_getIv hX (dk DX11_run 22 rfl) KX5 fX11_116 (by decide) rfl (CLt hH (q := 1) (by decide)) (CC hH 1 (by decide) rfl) (hZJ.2.1.1) ?_
      refine g_aload_0 hX (dk DX11_run 23 rfl) ?_
      refine g_getRs (r := 1) hX (dk DX11_run 24 rfl) KX11 fX11_12 (by decide) rfl (CLt hH (q := 0) (by decide)) (CC hH 0 (by decide) rfl) (CR hH 0 0 1 (by decide)) ?_
      refine g_getIv hX (dk DX11_run 25 rfl) KX5 fX11_109 (by decide) rfl (CLt hH (q := 1) (by decide)) (CC hH 1 (by decide) rfl) (hZJ.1.2.1.1.2.2.1) ?_
      refine g_c3q hX sX11_run_54 (by decide) (Nat.le_of_ble_eq_true rfl) (rc0 rfl (CLt hH (by decide)) (CC hH 13 (by decide) rfl)) (by decide) (by decide) (e_pass hG hE hZJ (inv_kn hE) (inv_id hE) hm2 hsp hAH) ?_
      rintro _ J2 h9 ⟨rfl, hT, hP2, e9⟩
      subst e9
      obtain ⟨k1, k2, k3, k4, k5, k6⟩ := hT.all
      have hS2 := hS.trans hP2.sc
      have hZ2 := hZ.sc hE hS2
      refine g_istore_3 hX (dk DX11_run 27 rfl) (by decide) rfl ?_
      refine g_iload_2 hX (dk DX11_run 28 rfl) ?_
      refine g_tswitch (dt := 129) hX [(0, 92), (1, 94), (2, 102), (3, 110), (4, 121)] (dk DX11_run 29 rfl) (by decide +kernel) ?_
      refine ⟨fun hc3 => ?_, fun hc3n => ?_⟩
      · show GG _ _ _ _ _ _ _ _ _ _ _ _ _
        refine g_iload_3 hX (dk DX11_run 30 rfl) ?_
        refine g_ireturn hX (dk DX11_run 31 rfl) rfl (rfl) (by decide) (by decide) ?_
        first
        | exact qZ_of (by unfold runS; (try first | rw [if_pos hc1] | rw [if_neg hc1] | rw [if_neg (not_not_intro hc1)]); (try first | rw [if_pos hc2] | rw [if_neg hc2] | rw [if_neg (not_not_intro hc2)]); (try first | rw [if_pos hc3] | rw [if_neg hc3] | rw [if_neg (not_not_intro hc3)]); first | done | rfl) hZ
        | exact qZ_of (by unfold runS; (try simp only [tN_nI (show m < 2 ^ 31 by omega)]); (try first | rw [if_pos hc1] | rw [if_neg hc1] | rw [if_neg (not_not_intro hc1)]); (try first | rw [if_pos hc2] | rw [if_neg hc2] | rw [if_neg (not_not_intro hc2)]); (try first | rw [if_pos hc3] | rw [if_neg hc3] | rw [if_neg (not_not_intro hc3)]); first | done | rfl) hZ2
      refine ⟨fun hc4 => ?_, fun hc4n => ?_⟩
      · show GG _ _ _ _ _ _ _ _ _ _ _ _ _
        refine g_aload_0 hX (dk DX11_run 32 rfl) ?_
        refine g_getRs (r := 13) hX (dk DX11_run 33 rfl) KX11 fX11_26 (by decide) rfl (CLt hH (q := 0) (by decide)) (CC hH 0 (by decide) rfl) (CR hH 0 3 13 (by decide)) ?_
        refine g_getIv hX (dk DX11_run 34 rfl) KX0 fX11_193 (by decide) rfl (CLt hH (q := 13) (by decide)) (CC hH 13 (by decide) rfl) (k3) ?_
        refine g_ireturn hX (dk DX11_run 35 rfl) rfl (rfl) (by decide) (by decide) ?_
        first
        | exact qZ_of (by unfold runS; (try first | rw [if_pos hc1] | rw [if_neg hc1] | rw [if_neg (not_not_intro hc1)]); (try first | rw [if_pos hc2] | rw [if_neg hc2] | rw [if_neg (not_not_intro hc2)]); (try first | rw [if_pos hc3n] | rw [if_neg hc3n] | rw [if_neg (not_not_intro hc3n)]); (try first | rw [if_pos hc4] | rw [if_neg hc4] | rw [if_neg (not_not_intro hc4)]); first | done | rfl) hZ
        | exact qZ_of (by unfold runS; (try simp only [tN_nI (show m < 2 ^ 31 by omega)]); (try first | rw [if_pos hc1] | rw [if_neg hc1] | rw [if_neg (not_not_intro hc1)]); (try first | rw [if_pos hc2] | rw [if_neg hc2] | rw [if_neg (not_not_intro hc2)]); (try first | rw [if_pos hc3n] | rw [if_neg hc3n] | rw [if_neg (not_not_intro hc3n)]); (try first | rw [if_pos hc4] | rw [if_neg hc4] | rw [if_neg (not_not_intro hc4)]); first | done | rfl) hZ2
      refine ⟨fun hc5 => ?_, fun hc5n => ?_⟩
      · show GG _ _ _ _ _ _ _ _ _ _ _ _ _
        refine g_aload_0 hX (dk DX11_run 36 rfl) ?_
        refine g_getRs (r := 13) hX (dk DX11_run 37 rfl) KX11 fX11_26 (by decide) rfl (CLt hH (q := 0) (by decide)) (CC hH 0 (by decide) rfl) (CR hH 0 3 13 (by decide)) ?_
        refine g_getIv hX (dk DX11_run 38 rfl) KX0 fX11_194 (by decide) rfl (CLt hH (q := 13) (by decide)) (CC hH 13 (by decide) rfl) (k4) ?_
        refine g_ireturn hX (dk DX11_run 39 rfl) rfl (rfl) (by decide) (by decide) ?_
        first
        | exact qZ_of (by unfold runS; (try first | rw [if_pos hc1] | rw [if_neg hc1] | rw [if_neg (not_not_intro hc1)]); (try first | rw [if_pos hc2] | rw [if_neg hc2] | rw [if_neg (not_not_intro hc2)]); (try first | rw [if_pos hc3n] | rw [if_neg hc3n] | rw [if_neg (not_not_intro hc3n)]); (try first | rw [if_pos hc4n] | rw [if_neg hc4n] | rw [if_neg (not_not_intro hc4n)]); (try first | rw [if_pos hc5] | rw [if_neg hc5] | rw [if_neg (not_not_intro hc5)]); first | done | rfl) hZ
        | exact qZ_of (by unfold runS; (try simp only [tN_nI (show m < 2 ^ 31 by omega)]); (try first | rw [if_pos hc1] | rw [if_neg hc1] | rw [if_neg (not_not_intro hc1)]); (try first | rw [if_pos hc2] | rw [if_neg hc2] | rw [if_neg (not_not_intro hc2)]); (try first | rw [if_pos hc3n] | rw [if_neg hc3n] | rw [if_neg (not_not_intro hc3n)]); (try first | rw [if_pos hc4n] | rw [if_neg hc4n] | rw [if_neg (not_not_intro hc4n)]); (try first | rw [if_pos hc5] | rw [if_neg hc5] | rw [if_neg (not_not_intro hc5)]); first | done | rfl) hZ2
      refine ⟨fun hc6 => ?_, fun hc6n => ?_⟩
      · show GG _ _ _ _ _ _ _ _ _ _ _ _ _
        refine g_aload_0 hX (dk DX11_run 40 rfl) ?_
        refine g_getRs (r := 13) hX (dk DX11_run 41 rfl) KX11 fX11_26 (by decide) rfl (CLt hH (q := 0) (by decide)) (CC hH 0 (by decide) rfl) (CR hH 0 3 13 (by decide)) ?_
        refine g_getIv hX (dk DX11_run 42 rfl) KX0 fX11_195 (by decide) rfl (CLt hH (q := 13) (by decide)) (CC hH 13 (by decide) rfl) (k1) ?_
        refine g_c1q hX sX11_run_117 (by decide) (Nat.le_of_ble_eq_true rfl) rcN (by decide) (by decide) (c_J6_bitCount_0f7a4 hG) ?_
        rintro y9 I9 h9 ⟨hy, rfl, rfl⟩
        obtain ⟨m9, hm9, em9⟩ := kb_lt (kb_run hE (inv_kn hE)) hcE
        refine g_nmI (onesI ((runF E (E 0 5) (E 0 6) m).2.1)) (by rw [hy m9 hm9 em9]; unfold onesI; rw [em9, tN_nI (by omega)]) ?_
        refine g_ireturn hX (dk DX11_run 44 rfl) rfl (rfl) (by decide) (by decide) ?_
        first
        | exact qZ_of (by unfold runS; (try first | rw [if_pos hc1] | rw [if_neg hc1] | rw [if_neg (not_not_intro hc1)]); (try first | rw [if_pos hc2] | rw [if_neg hc2] | rw [if_neg (not_not_intro hc2)]); (try first | rw [if_pos hc3n] | rw [if_neg hc3n] | rw [if_neg (not_not_intro hc3n)]); (try first | rw [if_pos hc4n] | rw [if_neg hc4n] | rw [if_neg (not_not_intro hc4n)]); (try first | rw [if_pos hc5n] | rw [if_neg hc5n] | rw [if_neg (not_not_intro hc5n)]); (try first | rw [if_pos hc6] | rw [if_neg hc6] | rw [if_neg (not_not_intro hc6)]); first | done | rfl) hZ
        | exact qZ_of (by unfold runS; (try simp only [tN_nI (show m < 2 ^ 31 by omega)]); (try first | rw [if_pos hc1] | rw [if_neg hc1] | rw [if_neg (not_not_intro hc1)]); (try first | rw [if_pos hc2] | rw [if_neg hc2] | rw [if_neg (not_not_intro hc2)]); (try first | rw [if_pos hc3n] | rw [if_neg hc3n] | rw [if_neg (not_not_intro hc3n)]); (try first | rw [if_pos hc4n] | rw [if_neg hc4n] | rw [if_neg (not_not_intro hc4n)]); (try first | rw [if_pos hc5n] | rw [if_neg hc5n] | rw [if_neg (not_not_intro hc5n)]); (try first | rw [if_pos hc6] | rw [if_neg hc6] | rw [if_neg (not_not_intro hc6)]); first | done | rfl) hZ2
      refine ⟨fun hc7 => ?_, fun hc7n => ?_⟩
      · show GG _ _ _ _ _ _ _ _ _ _ _ _ _
        refine g_aload_0 hX (dk DX11_run 45 rfl) ?_
        refine g_getRs (r := 13) hX (dk DX11_run 46 rfl) KX11 fX11_26 (by decide) rfl (CLt hH (q := 0) (by decide)) (CC hH 0 (by decide) rfl) (CR hH 0 3 13 (by decide)) ?_
        refine g_getIv hX (dk DX11_run 47 rfl) KX0 fX11_196 (by decide) rfl (CLt hH (q := 13) (by decide)) (CC hH 13 (by decide) rfl) (k5) ?_
        refine g_ireturn hX (dk DX11_run 48 rfl) rfl (rfl) (by decide) (by decide) ?_
        first
        | exact qZ_of (by unfold runS; (try first | rw [if_pos hc1] | rw [if_neg hc1] | rw [if_neg (not_not_intro hc1)]); (try first | rw [if_pos hc2] | rw [if_neg hc2] | rw [if_neg (not_not_intro hc2)]); (try first | rw [if_pos hc3n] | rw [if_neg hc3n] | rw [if_neg (not_not_intro hc3n)]); (try first | rw [if_pos hc4n] | rw [if_neg hc4n] | rw [if_neg (not_not_intro hc4n)]); (try first | rw [if_pos hc5n] | rw [if_neg hc5n] | rw [if_neg (not_not_intro hc5n)]); (try first | rw [if_pos hc6n] | rw [if_neg hc6n] | rw [if_neg (not_not_intro hc6n)]); (try first | rw [if_pos hc7] | rw [if_neg hc7] | rw [if_neg (not_not_intro hc7)]); first | done | rfl) hZ
        | exact qZ_of (by unfold runS; (try simp only [tN_nI (show m < 2 ^ 31 by omega)]); (try first | rw [if_pos hc1] | rw [if_neg hc1] | rw [if_neg (not_not_intro hc1)]); (try first | rw [if_pos hc2] | rw [if_neg hc2] | rw [if_neg (not_not_intro hc2)]); (try first | rw [if_pos hc3n] | rw [if_neg hc3n] | rw [if_neg (not_not_intro hc3n)]); (try first | rw [if_pos hc4n] | rw [if_neg hc4n] | rw [if_neg (not_not_intro hc4n)]); (try first | rw [if_pos hc5n] | rw [if_neg hc5n] | rw [if_neg (not_not_intro hc5n)]); (try first | rw [if_pos hc6n] | rw [if_neg hc6n] | rw [if_neg (not_not_intro hc6n)]); (try first | rw [if_pos hc7] | rw [if_neg hc7] | rw [if_neg (not_not_intro hc7)]); first | done | rfl) hZ2
      show GG _ _ _ _ _ _ _ _ _ _ _ _ _
      refine g_aload_0 hX (dk DX11_run 49 rfl) ?_
      refine g_getRs (r := 13) hX (dk DX11_run 50 rfl) KX11 fX11_26 (by decide) rfl (CLt hH (q := 0) (by decide)) (CC hH 0 (by decide) rfl) (CR hH 0 3 13 (by decide)) ?_
      refine g_getIv hX (dk DX11_run 51 rfl) KX0 fX11_199 (by decide) rfl (CLt hH (q := 13) (by decide)) (CC hH 13 (by decide) rfl) (k6) ?_
      refine g_ireturn hX (dk DX11_run 52 rfl) rfl (rfl) (by decide) (by decide) ?_
      first
      | exact qZ_of (by unfold runS; (try first | rw [if_pos hc1] | rw [if_neg hc1] | rw [if_neg (not_not_intro hc1)]); (try first | rw [if_pos hc2] | rw [if_neg hc2] | rw [if_neg (not_not_intro hc2)]); (try first | rw [if_pos hc3n] | rw [if_neg hc3n] | rw [if_neg (not_not_intro hc3n)]); (try first | rw [if_pos hc4n] | rw [if_neg hc4n] | rw [if_neg (not_not_intro hc4n)]); (try first | rw [if_pos hc5n] | rw [if_neg hc5n] | rw [if_neg (not_not_intro hc5n)]); (try first | rw [if_pos hc6n] | rw [if_neg hc6n] | rw [if_neg (not_not_intro hc6n)]); (try first | rw [if_pos hc7n] | rw [if_neg hc7n] | rw [if_neg (not_not_intro hc7n)]); first | done | rfl) hZ
      | exact qZ_of (by unfold runS; (try simp only [tN_nI (show m < 2 ^ 31 by omega)]); (try first | rw [if_pos hc1] | rw [if_neg hc1] | rw [if_neg (not_not_intro hc1)]); (try first | rw [if_pos hc2] | rw [if_neg hc2] | rw [if_neg (not_not_intro hc2)]); (try first | rw [if_pos hc3n] | rw [if_neg hc3n] | rw [if_neg (not_not_intro hc3n)]); (try first | rw [if_pos hc4n] | rw [if_neg hc4n] | rw [if_neg (not_not_intro hc4n)]); (try first | rw [if_pos hc5n] | rw [if_neg hc5n] | rw [if_neg (not_not_intro hc5n)]); (try first | rw [if_pos hc6n] | rw [if_neg hc6n] | rw [if_neg (not_not_intro hc6n)]); (try first | rw [if_pos hc7n] | rw [if_neg hc7n] | rw [if_neg (not_not_intro hc7n)]); first | done | rfl) hZ2
    · refine g_sipush (v := -10002) hX (dk DX11_run 12 rfl) (by decide) ?_
      refine g_ireturn hX (dk DX11_run 13 rfl) rfl (rfl) (by decide) (by decide) ?_
      first
      | exact qZ_of (by unfold runS; (try first | rw [if_pos hc1] | rw [if_neg hc1] | rw [if_neg (not_not_intro hc1)]); (try first | rw [if_pos hc2] | rw [if_neg hc2] | rw [if_neg (not_not_intro hc2)]); first | done | rfl) hZ
      | exact qZ_of (by unfold runS; (try simp only [tN_nI (show m < 2 ^ 31 by omega)]); (try first | rw [if_pos hc1] | rw [if_neg hc1] | rw [if_neg (not_not_intro hc1)]); (try first | rw [if_pos hc2] | rw [if_neg hc2] | rw [if_neg (not_not_intro hc2)]); first | done | rfl) hZ2
  · refine g_sipush (v := -10001) hX (dk DX11_run 5 rfl) (by decide) ?_
    refine g_ireturn hX (dk DX11_run 6 rfl) rfl (rfl) (by decide) (by decide) ?_
    first
    | exact qZ_of (by unfold runS; (try first | rw [if_pos hc1] | rw [if_neg hc1] | rw [if_neg (not_not_intro hc1)]); first | done | rfl) hZ
    | exact qZ_of (by unfold runS; (try simp only [tN_nI (show m < 2 ^ 31 by omega)]); (try first | rw [if_pos hc1] | rw [if_neg hc1] | rw [if_neg (not_not_intro hc1)]); first | done | rfl) hZ2

set_option maxRecDepth 8000 in
set_option maxHeartbeats 4000000 in
theorem zx_ask {G : Gt} (hG : Gok G) {I : It} {h : Ht}  {E : It} {L : Nat → Int64} (hE : Inv E) (hZ : RZ E L I h) {n : Int32} : Con G (8) 0 0 mX11_ask [.ref 0, .int n] I h (qZ (askS E n) L (hn h)) := by
  refine con_intro (own := RX11) (lo0 := [some (.ref 0), some (.int n)]) hG rfl pl_X11 (Nat.le_of_ble_eq_true rfl) rfl (fun X hX => ?_)
  have hY := hZ.1
  have hW := hY.wx hE
  have hH := hW.1
  have hc10 := hW.2.1.2
  have hcE := (inv_cnt hE).2
  refine g_iload_1 hX (dk DX11_ask 0 rfl) ?_
  refine g_iconst (v := 0) hX (dk DX11_ask 1 rfl) (by decide) ?_
  refine g_bipush (v := 60) hX (dk DX11_ask 2 rfl) (by decide) ?_
  refine g_c3I hX sX11_ask_4 (by decide) (Nat.le_of_ble_eq_true rfl) rcN (by decide) (by decide) (c_X11_isNot hG ) ?_
  refine g_ifb_eq (tgt := 13) hX (dk DX11_ask 4 rfl) (by decide) (fun hc1 => ?_) (fun hc1 => ?_)
  · obtain ⟨m, hm, rfl⟩ := in_of (b := 60) (by decide) (Decidable.not_not.mp hc1)
    have hm2 : m ≤ 200 := by omega
    refine g_aload_0 hX (dk DX11_ask 7 rfl) ?_
    refine g_getRs (r := 13) hX (dk DX11_ask 8 rfl) KX11 fX11_26 (by decide) rfl (CLt hH (q := 0) (by decide)) (CC hH 0 (by decide) rfl) (CR hH 0 3 13 (by decide)) ?_
    refine g_iload_1 hX (dk DX11_ask 9 rfl) ?_
    refine g_c2v hX sX11_ask_18 (by decide) (Nat.le_of_ble_eq_true rfl) (rc0 rfl (CLt hH (by decide)) (CC hH 13 (by decide) rfl)) (by decide) (by decide) (e_look hG hE hZ hm2) ?_
    rintro J _ ⟨hS, hsp, hAH, rfl⟩
    have hZJ := hZ.sc hE hS
    have hWJ := hZJ.1.wx hE
    refine g_aload_0 hX (dk DX11_ask 11 rfl) ?_
    refine g_getRs (r := 13) hX (dk DX11_ask 12 rfl) KX11 fX11_26 (by decide) rfl (CLt hH (q := 0) (by decide)) (CC hH 0 (by decide) rfl) (CR hH 0 3 13 (by decide)) ?_
    refine g_aload_0 hX (dk DX11_ask 13 rfl) ?_
    refine g_getRs (r := 1) hX (dk DX11_ask 14 rfl) KX11 fX11_12 (by decide) rfl (CLt hH (q := 0) (by decide)) (CC hH 0 (by decide) rfl) (CR hH 0 0 1 (by decide)) ?_
    refine g_getIv hX (dk DX11_ask 15 rfl) KX5 fX11_116 (by decide) rfl (CLt hH (q := 1) (by decide)) (CC hH 1 (by decide) rfl) (hZJ.2.1.1) ?_
    refine g_iconst (v := -1) hX (dk DX11_ask 16 rfl) (by decide) ?_
    refine g_ixor hX (dk DX11_ask 17 rfl) ?_
    refine g_iconst (v := 1) hX (dk DX11_ask 18 rfl) (by decide) ?_
    refine g_c3q hX sX11_ask_35 (by decide) (Nat.le_of_ble_eq_true rfl) (rc0 rfl (CLt hH (by decide)) (CC hH 13 (by decide) rfl)) (by decide) (by decide) (e_bestA hG hE hZJ hm2 hsp hAH) ?_
    rintro _ J2 h9 ⟨rfl, hP2, e9⟩
    subst e9
    have hZ2 := hZ.sc hE (hS.trans hP2.sc)
    refine g_ireturn hX (dk DX11_ask 20 rfl) rfl (rfl) (by decide) (by decide) ?_
    first
    | exact qZ_of (by unfold askS; (try first | rw [if_pos hc1] | rw [if_neg hc1] | rw [if_neg (not_not_intro hc1)]); first | done | rfl) hZ
    | exact qZ_of (by unfold askS; (try simp only [tN_nI (show m < 2 ^ 31 by omega)]); (try first | rw [if_pos hc1] | rw [if_neg hc1] | rw [if_neg (not_not_intro hc1)]); first | done | rfl) hZ2
  · refine g_bipush (v := -2) hX (dk DX11_ask 5 rfl) (by decide) ?_
    refine g_ireturn hX (dk DX11_ask 6 rfl) rfl (rfl) (by decide) (by decide) ?_
    first
    | exact qZ_of (by unfold askS; (try first | rw [if_pos hc1] | rw [if_neg hc1] | rw [if_neg (not_not_intro hc1)]); first | done | rfl) hZ
    | exact qZ_of (by unfold askS; (try simp only [tN_nI (show m < 2 ^ 31 by omega)]); (try first | rw [if_pos hc1] | rw [if_neg hc1] | rw [if_neg (not_not_intro hc1)]); first | done | rfl) hZ2

set_option maxRecDepth 8000 in
set_option maxHeartbeats 4000000 in
theorem zx_drop {G : Gt} (hG : Gok G) {I : It} {h : Ht}  {E : It} {L : Nat → Int64} (hE : Inv E) (hZ : RZ E L I h) {n : Int32} : Con G (8) 0 0 mX11_drop [.ref 0, .int n] I h (qZ (dropS E n) L (hn h)) := by
  refine con_intro (own := RX11) (lo0 := [some (.ref 0), some (.int n)]) hG rfl pl_X11 (Nat.le_of_ble_eq_true rfl) rfl (fun X hX => ?_)
  have hY := hZ.1
  have hW := hY.wx hE
  have hH := hW.1
  have hc10 := hW.2.1.2
  have hcE := (inv_cnt hE).2
  refine g_iload_1 hX (dk DX11_drop 0 rfl) ?_
  refine g_iconst (v := 0) hX (dk DX11_drop 1 rfl) (by decide) ?_
  refine g_bipush (v := 60) hX (dk DX11_drop 2 rfl) (by decide) ?_
  refine g_c3I hX sX11_drop_4 (by decide) (Nat.le_of_ble_eq_true rfl) rcN (by decide) (by decide) (c_X11_isNot hG ) ?_
  refine g_ifb_eq (tgt := 13) hX (dk DX11_drop 4 rfl) (by decide) (fun hc1 => ?_) (fun hc1 => ?_)
  · obtain ⟨m, hm, rfl⟩ := in_of (b := 60) (by decide) (Decidable.not_not.mp hc1)
    have hm2 : m ≤ 200 := by omega
    refine g_aload_0 hX (dk DX11_drop 7 rfl) ?_
    refine g_getRs (r := 13) hX (dk DX11_drop 8 rfl) KX11 fX11_26 (by decide) rfl (CLt hH (q := 0) (by decide)) (CC hH 0 (by decide) rfl) (CR hH 0 3 13 (by decide)) ?_
    refine g_iload_1 hX (dk DX11_drop 9 rfl) ?_
    refine g_c2v hX sX11_drop_18 (by decide) (Nat.le_of_ble_eq_true rfl) (rc0 rfl (CLt hH (by decide)) (CC hH 13 (by decide) rfl)) (by decide) (by decide) (e_look hG hE hZ hm2) ?_
    rintro J _ ⟨hS, hsp, hAH, rfl⟩
    have hZJ := hZ.sc hE hS
    have hWJ := hZJ.1.wx hE
    refine g_aload_0 hX (dk DX11_drop 11 rfl) ?_
    refine g_getRs (r := 13) hX (dk DX11_drop 12 rfl) KX11 fX11_26 (by decide) rfl (CLt hH (q := 0) (by decide)) (CC hH 0 (by decide) rfl) (CR hH 0 3 13 (by decide)) ?_
    refine g_aload_0 hX (dk DX11_drop 13 rfl) ?_
    refine g_getRs (r := 1) hX (dk DX11_drop 14 rfl) KX11 fX11_12 (by decide) rfl (CLt hH (q := 0) (by decide)) (CC hH 0 (by decide) rfl) (CR hH 0 0 1 (by decide)) ?_
    refine g_getIv hX (dk DX11_drop 15 rfl) KX5 fX11_109 (by decide) rfl (CLt hH (q := 1) (by decide)) (CC hH 1 (by decide) rfl) (hZJ.1.2.1.1.2.2.1) ?_
    refine g_iconst (v := -1) hX (dk DX11_drop 16 rfl) (by decide) ?_
    refine g_ixor hX (dk DX11_drop 17 rfl) ?_
    refine g_iconst (v := 0) hX (dk DX11_drop 18 rfl) (by decide) ?_
    refine g_c3q hX sX11_drop_35 (by decide) (Nat.le_of_ble_eq_true rfl) (rc0 rfl (CLt hH (by decide)) (CC hH 13 (by decide) rfl)) (by decide) (by decide) (e_bestD hG hE hZJ hm2 hsp hAH) ?_
    rintro _ J2 h9 ⟨rfl, hP2, e9⟩
    subst e9
    have hZ2 := hZ.sc hE (hS.trans hP2.sc)
    refine g_ireturn hX (dk DX11_drop 20 rfl) rfl (rfl) (by decide) (by decide) ?_
    first
    | exact qZ_of (by unfold dropS; (try first | rw [if_pos hc1] | rw [if_neg hc1] | rw [if_neg (not_not_intro hc1)]); first | done | rfl) hZ
    | exact qZ_of (by unfold dropS; (try simp only [tN_nI (show m < 2 ^ 31 by omega)]); (try first | rw [if_pos hc1] | rw [if_neg hc1] | rw [if_neg (not_not_intro hc1)]); first | done | rfl) hZ2
  · refine g_bipush (v := -2) hX (dk DX11_drop 5 rfl) (by decide) ?_
    refine g_ireturn hX (dk DX11_drop 6 rfl) rfl (rfl) (by decide) (by decide) ?_
    first
    | exact qZ_of (by unfold dropS; (try first | rw [if_pos hc1] | rw [if_neg hc1] | rw [if_neg (not_not_intro hc1)]); first | done | rfl) hZ
    | exact qZ_of (by unfold dropS; (try simp only [tN_nI (show m < 2 ^ 31 by omega)]); (try first | rw [if_pos hc1] | rw [if_neg hc1] | rw [if_neg (not_not_intro hc1)]); first | done | rfl) hZ2

