set_option maxRecDepth 8000 in
set_option maxHeartbeats 4000000 in
theorem n_callsAtFirst {G : Gt} (hG : Gok G) {I : It} {h : Ht} (hH : HX h) (hN : NX I) (hP : NRF h)  : Con G 1 0 0 mX5_callsAtFirst [.ref 1] I h (rI 7 I h) := by
  refine con_intro (own := RX5) (lo0 := [some (.ref 1)]) hG rfl pl_X5 (Nat.le_of_ble_eq_true rfl) rfl (fun X hX => ?_)
  refine g_aload_0 hX (dk DX5_callsAtFirst 0 rfl) ?_
  refine g_getR (r := none) hX (dk DX5_callsAtFirst 1 rfl) KX5 fX5_61 (by decide) rfl (CLt hH (q := 1) (by decide)) (CC hH 1 (by decide) rfl) (hP.1) ?_
  refine g_ifnonnullN hX (dk DX5_callsAtFirst 2 rfl) ?_
  refine g_bipush (v := 7) hX (dk DX5_callsAtFirst 3 rfl) (by decide) ?_
  refine g_goto (tgt := 19) hX (dk DX5_callsAtFirst 4 rfl) (by decide) ?_
  refine g_ireturn hX (dk DX5_callsAtFirst 8 rfl) rfl (rfl) (by decide) (by decide) ?_
  exact rI_of rfl rfl rfl

set_option maxRecDepth 8000 in
set_option maxHeartbeats 4000000 in
theorem n_callsFading {G : Gt} (hG : Gok G) {I : It} {h : Ht} (hH : HX h) (hN : NX I) (hP : NRF h)  : Con G 1 0 0 mX5_callsFading [.ref 1] I h (rI 1 I h) := by
  refine con_intro (own := RX5) (lo0 := [some (.ref 1)]) hG rfl pl_X5 (Nat.le_of_ble_eq_true rfl) rfl (fun X hX => ?_)
  refine g_aload_0 hX (dk DX5_callsFading 0 rfl) ?_
  refine g_getR (r := none) hX (dk DX5_callsFading 1 rfl) KX5 fX5_61 (by decide) rfl (CLt hH (q := 1) (by decide)) (CC hH 1 (by decide) rfl) (hP.1) ?_
  refine g_ifnonnullN hX (dk DX5_callsFading 2 rfl) ?_
  refine g_iconst (v := 1) hX (dk DX5_callsFading 3 rfl) (by decide) ?_
  refine g_goto (tgt := 18) hX (dk DX5_callsFading 4 rfl) (by decide) ?_
  refine g_ireturn hX (dk DX5_callsFading 8 rfl) rfl (rfl) (by decide) (by decide) ?_
  exact rI_of rfl rfl rfl

set_option maxRecDepth 8000 in
set_option maxHeartbeats 4000000 in
theorem n_told {G : Gt} (hG : Gok G) {I : It} {h : Ht} (hH : HX h) (hN : NX I) (hP : NRF h) {w : Int32} : Con G 3 0 0 mX11_told [.ref 0, .int w] I h (qA (if w = 0 then 7 else if w = 1 then 1 else if w = 2 then 0 else if w = 3 then 0 else if w = 4 then 0 else if w = 5 then 0 else if ¬ (10 ≤ w ∧ w ≤ 13) then -1 else 0)) := by
  refine con_intro (own := RX11) (lo0 := [some (.ref 0), some (.int w)]) hG rfl pl_X11 (Nat.le_of_ble_eq_true rfl) rfl (fun X hX => ?_)
  refine g_iload_1 hX (dk DX11_told 0 rfl) ?_
  refine g_tswitch (dt := 88) hX [(0, 40), (1, 48), (2, 56), (3, 64), (4, 72), (5, 80)] (dk DX11_told 1 rfl) (by decide +kernel) ?_
  refine ⟨fun hc1 => ?_, fun hc1n => ?_⟩
  · show GG _ _ _ _ _ _ _ _ _ _ _ _ _
    refine g_aload_0 hX (dk DX11_told 2 rfl) ?_
    refine g_getRs (r := 1) hX (dk DX11_told 3 rfl) KX11 fX11_12 (by decide) rfl (CLt hH (q := 0) (by decide)) (CC hH 0 (by decide) rfl) (CR hH 0 0 1 (by decide)) ?_
    refine g_c1I hX sX11_told_44 (by decide) (Nat.le_of_ble_eq_true rfl) (rc0 rfl (CLt hH (by decide)) (CC hH 1 (by decide) rfl)) (by decide) (by decide) (n_callsAtFirst hG hH hN hP) ?_
    refine g_ireturn hX (dk DX11_told 5 rfl) rfl (rfl) (by decide) (by decide) ?_
    exact qA_of (by (try first | rw [if_pos hc1] | rw [if_neg hc1] | rw [if_neg (not_not_intro hc1)]); first | done | rfl)
  refine ⟨fun hc2 => ?_, fun hc2n => ?_⟩
  · show GG _ _ _ _ _ _ _ _ _ _ _ _ _
    refine g_aload_0 hX (dk DX11_told 6 rfl) ?_
    refine g_getRs (r := 1) hX (dk DX11_told 7 rfl) KX11 fX11_12 (by decide) rfl (CLt hH (q := 0) (by decide)) (CC hH 0 (by decide) rfl) (CR hH 0 0 1 (by decide)) ?_
    refine g_c1I hX sX11_told_52 (by decide) (Nat.le_of_ble_eq_true rfl) (rc0 rfl (CLt hH (by decide)) (CC hH 1 (by decide) rfl)) (by decide) (by decide) (n_callsFading hG hH hN hP) ?_
    refine g_ireturn hX (dk DX11_told 9 rfl) rfl (rfl) (by decide) (by decide) ?_
    exact qA_of (by (try first | rw [if_pos hc1n] | rw [if_neg hc1n] | rw [if_neg (not_not_intro hc1n)]); (try first | rw [if_pos hc2] | rw [if_neg hc2] | rw [if_neg (not_not_intro hc2)]); first | done | rfl)
  refine ⟨fun hc3 => ?_, fun hc3n => ?_⟩
  · show GG _ _ _ _ _ _ _ _ _ _ _ _ _
    refine g_aload_0 hX (dk DX11_told 10 rfl) ?_
    refine g_getRs (r := 1) hX (dk DX11_told 11 rfl) KX11 fX11_12 (by decide) rfl (CLt hH (q := 0) (by decide)) (CC hH 0 (by decide) rfl) (CR hH 0 0 1 (by decide)) ?_
    refine g_getIv hX (dk DX11_told 12 rfl) KX5 fX11_122 (by decide) rfl (CLt hH (q := 1) (by decide)) (CC hH 1 (by decide) rfl) ((hN.1 1 (by decide) 6)) ?_
    refine g_ireturn hX (dk DX11_told 13 rfl) rfl (rfl) (by decide) (by decide) ?_
    exact qA_of (by (try first | rw [if_pos hc1n] | rw [if_neg hc1n] | rw [if_neg (not_not_intro hc1n)]); (try first | rw [if_pos hc2n] | rw [if_neg hc2n] | rw [if_neg (not_not_intro hc2n)]); (try first | rw [if_pos hc3] | rw [if_neg hc3] | rw [if_neg (not_not_intro hc3)]); first | done | rfl)
  refine ⟨fun hc4 => ?_, fun hc4n => ?_⟩
  · show GG _ _ _ _ _ _ _ _ _ _ _ _ _
    refine g_aload_0 hX (dk DX11_told 14 rfl) ?_
    refine g_getRs (r := 1) hX (dk DX11_told 15 rfl) KX11 fX11_12 (by decide) rfl (CLt hH (q := 0) (by decide)) (CC hH 0 (by decide) rfl) (CR hH 0 0 1 (by decide)) ?_
    refine g_getIv hX (dk DX11_told 16 rfl) KX5 fX11_162 (by decide) rfl (CLt hH (q := 1) (by decide)) (CC hH 1 (by decide) rfl) ((hN.1 1 (by decide) 7)) ?_
    refine g_ireturn hX (dk DX11_told 17 rfl) rfl (rfl) (by decide) (by decide) ?_
    exact qA_of (by (try first | rw [if_pos hc1n] | rw [if_neg hc1n] | rw [if_neg (not_not_intro hc1n)]); (try first | rw [if_pos hc2n] | rw [if_neg hc2n] | rw [if_neg (not_not_intro hc2n)]); (try first | rw [if_pos hc3n] | rw [if_neg hc3n] | rw [if_neg (not_not_intro hc3n)]); (try first | rw [if_pos hc4] | rw [if_neg hc4] | rw [if_neg (not_not_intro hc4)]); first | done | rfl)
  refine ⟨fun hc5 => ?_, fun hc5n => ?_⟩
  · show GG _ _ _ _ _ _ _ _ _ _ _ _ _
    refine g_aload_0 hX (dk DX11_told 18 rfl) ?_
    refine g_getRs (r := 1) hX (dk DX11_told 19 rfl) KX11 fX11_12 (by decide) rfl (CLt hH (q := 0) (by decide)) (CC hH 0 (by decide) rfl) (CR hH 0 0 1 (by decide)) ?_
    refine g_getIv hX (dk DX11_told 20 rfl) KX5 fX11_165 (by decide) rfl (CLt hH (q := 1) (by decide)) (CC hH 1 (by decide) rfl) ((hN.1 1 (by decide) 8)) ?_
    refine g_ireturn hX (dk DX11_told 21 rfl) rfl (rfl) (by decide) (by decide) ?_
    exact qA_of (by (try first | rw [if_pos hc1n] | rw [if_neg hc1n] | rw [if_neg (not_not_intro hc1n)]); (try first | rw [if_pos hc2n] | rw [if_neg hc2n] | rw [if_neg (not_not_intro hc2n)]); (try first | rw [if_pos hc3n] | rw [if_neg hc3n] | rw [if_neg (not_not_intro hc3n)]); (try first | rw [if_pos hc4n] | rw [if_neg hc4n] | rw [if_neg (not_not_intro hc4n)]); (try first | rw [if_pos hc5] | rw [if_neg hc5] | rw [if_neg (not_not_intro hc5)]); first | done | rfl)
  refine ⟨fun hc6 => ?_, fun hc6n => ?_⟩
  · show GG _ _ _ _ _ _ _ _ _ _ _ _ _
    refine g_aload_0 hX (dk DX11_told 22 rfl) ?_
    refine g_getRs (r := 1) hX (dk DX11_told 23 rfl) KX11 fX11_12 (by decide) rfl (CLt hH (q := 0) (by decide)) (CC hH 0 (by decide) rfl) (CR hH 0 0 1 (by decide)) ?_
    refine g_getIv hX (dk DX11_told 24 rfl) KX5 fX11_168 (by decide) rfl (CLt hH (q := 1) (by decide)) (CC hH 1 (by decide) rfl) ((hN.1 1 (by decide) 9)) ?_
    refine g_ireturn hX (dk DX11_told 25 rfl) rfl (rfl) (by decide) (by decide) ?_
    exact qA_of (by (try first | rw [if_pos hc1n] | rw [if_neg hc1n] | rw [if_neg (not_not_intro hc1n)]); (try first | rw [if_pos hc2n] | rw [if_neg hc2n] | rw [if_neg (not_not_intro hc2n)]); (try first | rw [if_pos hc3n] | rw [if_neg hc3n] | rw [if_neg (not_not_intro hc3n)]); (try first | rw [if_pos hc4n] | rw [if_neg hc4n] | rw [if_neg (not_not_intro hc4n)]); (try first | rw [if_pos hc5n] | rw [if_neg hc5n] | rw [if_neg (not_not_intro hc5n)]); (try first | rw [if_pos hc6] | rw [if_neg hc6] | rw [if_neg (not_not_intro hc6)]); first | done | rfl)
  show GG _ _ _ _ _ _ _ _ _ _ _ _ _
  refine g_iload_1 hX (dk DX11_told 26 rfl) ?_
  refine g_bipush (v := 10) hX (dk DX11_told 27 rfl) (by decide) ?_
  refine g_bipush (v := 13) hX (dk DX11_told 28 rfl) (by decide) ?_
  refine g_c3I hX sX11_told_93 (by decide) (Nat.le_of_ble_eq_true rfl) rcN (by decide) (by decide) (c_X11_isNot hG ) ?_
  refine g_ifb_eq (tgt := 103) hX (dk DX11_told 30 rfl) (by decide) (fun hc8 => ?_) (fun hc8 => ?_)
  · obtain ⟨j, hj1, hj2, rfl⟩ := in1_of (c := 10) (b := 13) (by decide) (by decide) (Decidable.not_not.mp hc8)
    have hs : nI j - 10 = nI (j - 10) := pk_sub hj1
    refine g_aload_0 hX (dk DX11_told 33 rfl) ?_
    refine g_getRs (r := 1) hX (dk DX11_told 34 rfl) KX11 fX11_12 (by decide) rfl (CLt hH (q := 0) (by decide)) (CC hH 0 (by decide) rfl) (CR hH 0 0 1 (by decide)) ?_
    refine g_getRs (r := 4) hX (dk DX11_told 35 rfl) KX5 fX11_139 (by decide) rfl (CLt hH (q := 1) (by decide)) (CC hH 1 (by decide) rfl) (CR hH 1 5 4 (by decide)) ?_
    refine g_iload_1 hX (dk DX11_told 36 rfl) ?_
    refine g_bipush (v := 10) hX (dk DX11_told 37 rfl) (by decide) ?_
    refine g_isub hX (dk DX11_told 38 rfl) ?_
    refine v_iaload hX (dk DX11_told 39 rfl) (CLt hH (q := 4) (by decide)) (CS hH 4 (by decide) rfl) (⟨hs, by omega, by decide⟩) ((hN.1 4 (by decide) _)) ?_
    refine g_ireturn hX (dk DX11_told 40 rfl) rfl (rfl) (by decide) (by decide) ?_
    exact qA_of (by (try first | rw [if_pos hc1n] | rw [if_neg hc1n] | rw [if_neg (not_not_intro hc1n)]); (try first | rw [if_pos hc2n] | rw [if_neg hc2n] | rw [if_neg (not_not_intro hc2n)]); (try first | rw [if_pos hc3n] | rw [if_neg hc3n] | rw [if_neg (not_not_intro hc3n)]); (try first | rw [if_pos hc4n] | rw [if_neg hc4n] | rw [if_neg (not_not_intro hc4n)]); (try first | rw [if_pos hc5n] | rw [if_neg hc5n] | rw [if_neg (not_not_intro hc5n)]); (try first | rw [if_pos hc6n] | rw [if_neg hc6n] | rw [if_neg (not_not_intro hc6n)]); (try first | rw [if_pos hc8] | rw [if_neg hc8] | rw [if_neg (not_not_intro hc8)]); first | done | rfl)
  · refine g_iconst (v := -1) hX (dk DX11_told 31 rfl) (by decide) ?_
    refine g_goto (tgt := 115) hX (dk DX11_told 32 rfl) (by decide) ?_
    refine g_ireturn hX (dk DX11_told 40 rfl) rfl (rfl) (by decide) (by decide) ?_
    exact qA_of (by (try first | rw [if_pos hc1n] | rw [if_neg hc1n] | rw [if_neg (not_not_intro hc1n)]); (try first | rw [if_pos hc2n] | rw [if_neg hc2n] | rw [if_neg (not_not_intro hc2n)]); (try first | rw [if_pos hc3n] | rw [if_neg hc3n] | rw [if_neg (not_not_intro hc3n)]); (try first | rw [if_pos hc4n] | rw [if_neg hc4n] | rw [if_neg (not_not_intro hc4n)]); (try first | rw [if_pos hc5n] | rw [if_neg hc5n] | rw [if_neg (not_not_intro hc5n)]); (try first | rw [if_pos hc6n] | rw [if_neg hc6n] | rw [if_neg (not_not_intro hc6n)]); (try first | rw [if_pos hc8] | rw [if_neg hc8] | rw [if_neg (not_not_intro hc8)]); first | done | rfl)

set_option maxRecDepth 8000 in
set_option maxHeartbeats 4000000 in
theorem n_undo {G : Gt} (hG : Gok G) {I : It} {h : Ht} (hH : HX h) (hN : NX I) (hP : NRF h)  : Con G 3 0 0 mX11_undo [.ref 0] I h (qA (-3)) := by
  refine con_intro (own := RX11) (lo0 := [some (.ref 0)]) hG rfl pl_X11 (Nat.le_of_ble_eq_true rfl) rfl (fun X hX => ?_)
  refine g_aload_0 hX (dk DX11_undo 0 rfl) ?_
  refine g_getIv hX (dk DX11_undo 1 rfl) KX11 fX11_254 (by decide) rfl (CLt hH (q := 0) (by decide)) (CC hH 0 (by decide) rfl) ((hN.1 0 (by decide) 2)) ?_
  refine g_if_ne (tgt := 10) hX (dk DX11_undo 2 rfl) (by decide) (fun hc1 => absurd hc1 (by decide)) (fun hc1 => ?_)
  refine g_bipush (v := -3) hX (dk DX11_undo 3 rfl) (by decide) ?_
  refine g_ireturn hX (dk DX11_undo 4 rfl) rfl (rfl) (by decide) (by decide) ?_
  exact qA_of (by (try first | rw [if_pos hc1] | rw [if_neg hc1] | rw [if_neg (not_not_intro hc1)]); first | done | rfl)

set_option maxRecDepth 8000 in
set_option maxHeartbeats 4000000 in
theorem n_act {G : Gt} (hG : Gok G) {I : It} {h : Ht} (hH : HX h) (hN : NX I) (hP : NRF h) {a w x : Int32} : Con G 3 0 0 mX11_act [.ref 0, .int a, .int w, .int x] I h (qA (0)) := by
  refine con_intro (own := RX11) (lo0 := [some (.ref 0), some (.int a), some (.int w), some (.int x), none]) hG rfl pl_X11 (Nat.le_of_ble_eq_true rfl) rfl (fun X hX => ?_)
  refine g_aload_0 hX (dk DX11_act 0 rfl) ?_
  refine g_getRs (r := 32) hX (dk DX11_act 1 rfl) KX11 fX11_43 (by decide) rfl (CLt hH (q := 0) (by decide)) (CC hH 0 (by decide) rfl) (CR hH 0 8 32 (by decide)) ?_
  refine g_iconst (v := 0) hX (dk DX11_act 2 rfl) (by decide) ?_
  refine g_putI hX (dk DX11_act 3 rfl) KX7 fX11_258 (by decide) rfl (CLt hH (q := 32) (by decide)) (CC hH 32 (by decide) rfl) (Or.inl rfl) (rfl) (rfl) ?_
  refine g_aload_0 hX (dk DX11_act 4 rfl) ?_
  refine g_getRs (r := 1) hX (dk DX11_act 5 rfl) KX11 fX11_12 (by decide) rfl (CLt hH (q := 0) (by decide)) (CC hH 0 (by decide) rfl) (CR hH 0 0 1 (by decide)) ?_
  refine g_iload_1 hX (dk DX11_act 6 rfl) ?_
  refine g_c2R hX sX11_act_13 (by decide) (Nat.le_of_ble_eq_true rfl) (rc0 rfl (CLt hH (by decide)) (CC hH 1 (by decide) rfl)) (by decide) (by decide) (n_find hG hH (I := upI I 32 1 0) (NX.ran hN)) ?_
  refine g_astoreN_4 hX (dk DX11_act 8 rfl) (by decide) rfl ?_
  refine g_aloadN_4 hX (dk DX11_act 9 rfl) ?_
  refine g_ifnonnullN hX (dk DX11_act 10 rfl) ?_
  refine g_iconst (v := 0) hX (dk DX11_act 11 rfl) (by decide) ?_
  refine g_ireturn hX (dk DX11_act 12 rfl) rfl (rfl) (by decide) (by decide) ?_
  exact qA_of (by  first | done | rfl)

set_option maxRecDepth 8000 in
set_option maxHeartbeats 4000000 in
theorem n_trace {G : Gt} (hG : Gok G) {I : It} {h : Ht} (hH : HX h) (hN : NX I) (hP : NRF h) {a : Int32} : Con G 3 0 0 mX11_trace [.ref 0, .int a] I h (qA (-1)) := by
  refine con_intro (own := RX11) (lo0 := [some (.ref 0), some (.int a)]) hG rfl pl_X11 (Nat.le_of_ble_eq_true rfl) rfl (fun X hX => ?_)
  refine g_iload_1 hX (dk DX11_trace 0 rfl) ?_
  refine g_if_lt (tgt := 27) hX (dk DX11_trace 1 rfl) (by decide) (fun hc1 => ?_) (fun hc1 => ?_)
  · refine g_iconst (v := -1) hX (dk DX11_trace 13 rfl) (by decide) ?_
    refine g_ireturn hX (dk DX11_trace 14 rfl) rfl (rfl) (by decide) (by decide) ?_
    exact qA_of (by (try first | rw [if_pos hc1] | rw [if_neg hc1] | rw [if_neg (not_not_intro hc1)]); first | done | rfl)
  · refine g_iload_1 hX (dk DX11_trace 2 rfl) ?_
    refine g_aload_0 hX (dk DX11_trace 3 rfl) ?_
    refine g_getRs (r := 32) hX (dk DX11_trace 4 rfl) KX11 fX11_43 (by decide) rfl (CLt hH (q := 0) (by decide)) (CC hH 0 (by decide) rfl) (CR hH 0 8 32 (by decide)) ?_
    refine g_getIv hX (dk DX11_trace 5 rfl) KX7 fX11_258 (by decide) rfl (CLt hH (q := 32) (by decide)) (CC hH 32 (by decide) rfl) ((hN.1 32 (by decide) 1)) ?_
    refine g_icmp_ge (tgt := 27) hX (dk DX11_trace 6 rfl) (by decide) (fun hc2 => ?_) (fun hc2 => absurd (Int32.not_lt.mp hc1) hc2)
    refine g_iconst (v := -1) hX (dk DX11_trace 13 rfl) (by decide) ?_
    refine g_ireturn hX (dk DX11_trace 14 rfl) rfl (rfl) (by decide) (by decide) ?_
    exact qA_of (by (try first | rw [if_pos hc1] | rw [if_neg hc1] | rw [if_neg (not_not_intro hc1)]); (try first | rw [if_pos hc2] | rw [if_neg hc2] | rw [if_neg (not_not_intro hc2)]); first | done | rfl)

