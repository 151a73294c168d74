theorem go_le {m : Nat} (hm : m ≤ 60) : (0 : Int32) + nI m ≤ 9999 := by
  rw [Int32.zero_add]
  exact (nI_leI (b := 9999) (by omega) (by decide)).mpr (by omega)
set_option maxRecDepth 8000 in
set_option maxHeartbeats 4000000 in
theorem n_hand {G : Gt} (hG : Gok G) {I : It} {h : Ht} (hH : HX h) (hN : NX I) (hP : NRF h)  : Con G 5 0 0 mX11_hand [.ref 0] I h (qA (0)) := by
  refine con_intro (own := RX11) (lo0 := [some (.ref 0), none]) hG rfl pl_X11 (Nat.le_of_ble_eq_true rfl) rfl (fun X hX => ?_)
  refine g_aload_0 hX (dk DX11_hand 0 rfl) ?_
  refine g_getRs (r := 13) hX (dk DX11_hand 1 rfl) KX11 fX11_26 (by decide) rfl (CLt hH (q := 0) (by decide)) (CC hH 0 (by decide) rfl) (CR hH 0 3 13 (by decide)) ?_
  refine g_c1V hX sX11_hand_4 (by decide) (Nat.le_of_ble_eq_true rfl) (rc0 rfl (CLt hH (by decide)) (CC hH 13 (by decide) rfl)) (by decide) (by decide) (n_X0_hear hG hH hN hP) ?_
  refine g_aload_0 hX (dk DX11_hand 3 rfl) ?_
  refine g_getRs (r := 13) hX (dk DX11_hand 4 rfl) KX11 fX11_26 (by decide) rfl (CLt hH (q := 0) (by decide)) (CC hH 0 (by decide) rfl) (CR hH 0 3 13 (by decide)) ?_
  refine g_aload_0 hX (dk DX11_hand 5 rfl) ?_
  refine g_getRs (r := 1) hX (dk DX11_hand 6 rfl) KX11 fX11_12 (by decide) rfl (CLt hH (q := 0) (by decide)) (CC hH 0 (by decide) rfl) (CR hH 0 0 1 (by decide)) ?_
  refine g_getRs (r := 4) hX (dk DX11_hand 7 rfl) KX5 fX11_139 (by decide) rfl (CLt hH (q := 1) (by decide)) (CC hH 1 (by decide) rfl) (CR hH 1 5 4 (by decide)) ?_
  refine g_c2I hX sX11_hand_18 (by decide) (Nat.le_of_ble_eq_true rfl) (rc0 rfl (CLt hH (by decide)) (CC hH 13 (by decide) rfl)) (by decide) (by decide) (n_X0_goingOver hG hH hN hP) ?_
  refine g_aload_0 hX (dk DX11_hand 9 rfl) ?_
  refine g_getRs (r := 1) hX (dk DX11_hand 10 rfl) KX11 fX11_12 (by decide) rfl (CLt hH (q := 0) (by decide)) (CC hH 0 (by decide) rfl) (CR hH 0 0 1 (by decide)) ?_
  refine g_getIv hX (dk DX11_hand 11 rfl) KX5 fX11_116 (by decide) rfl (CLt hH (q := 1) (by decide)) (CC hH 1 (by decide) rfl) ((hN.1 1 (by decide) 3)) ?_
  refine g_iconst (v := -1) hX (dk DX11_hand 12 rfl) (by decide) ?_
  refine g_ixor hX (dk DX11_hand 13 rfl) ?_
  refine g_iand hX (dk DX11_hand 14 rfl) ?_
  refine g_istore_1 hX (dk DX11_hand 15 rfl) (by decide) rfl ?_
  refine g_aload_0 hX (dk DX11_hand 16 rfl) ?_
  refine g_getRs (r := 1) hX (dk DX11_hand 17 rfl) KX11 fX11_12 (by decide) rfl (CLt hH (q := 0) (by decide)) (CC hH 0 (by decide) rfl) (CR hH 0 0 1 (by decide)) ?_
  refine g_dup hX (dk DX11_hand 18 rfl) rfl ?_
  refine g_getIv hX (dk DX11_hand 19 rfl) KX5 fX11_116 (by decide) rfl (CLt hH (q := 1) (by decide)) (CC hH 1 (by decide) rfl) ((hN.1 1 (by decide) 3)) ?_
  refine g_iload_1 hX (dk DX11_hand 20 rfl) ?_
  refine g_ior hX (dk DX11_hand 21 rfl) ?_
  refine g_putI hX (dk DX11_hand 22 rfl) KX5 fX11_116 (by decide) rfl (CLt hH (q := 1) (by decide)) (CC hH 1 (by decide) rfl) (Or.inl rfl) (rfl) (rfl) ?_
  refine g_iload_1 hX (dk DX11_hand 23 rfl) ?_
  refine g_c1q hX sX11_hand_46 (by decide) (Nat.le_of_ble_eq_true rfl) rcN (by decide) (by decide) (c_J6_bitCount_0f7a4 hG) ?_
  rintro x I2 h2 ⟨hx, rfl, rfl⟩
  refine g_nmI 0 (hx 0 (by decide) (by decide)) ?_
  refine g_ireturn hX (dk DX11_hand 25 rfl) rfl (rfl) (by decide) (by decide) ?_
  exact qA_of (by  first | done | rfl)

set_option maxRecDepth 8000 in
set_option maxHeartbeats 4000000 in
theorem n_go {G : Gt} (hG : Gok G) {I : It} {h : Ht} (hH : HX h) (hN : NX I) (hP : NRF h) {n : Int32} : Con G 7 0 0 mX11_go [.ref 0, .int n] I h (qA (if ¬ (1 ≤ n ∧ n ≤ 60) then -2 else 0 + n)) := by
  refine con_intro (own := RX11) (lo0 := [some (.ref 0), some (.int n)]) hG rfl pl_X11 (Nat.le_of_ble_eq_true rfl) rfl (fun X hX => ?_)
  refine g_iload_1 hX (dk DX11_go_0 0 rfl) ?_
  refine g_iconst (v := 1) hX (dk DX11_go_0 1 rfl) (by decide) ?_
  refine g_bipush (v := 60) hX (dk DX11_go_0 2 rfl) (by decide) ?_
  refine g_c3I hX sX11_go_4 (by decide) (Nat.le_of_ble_eq_true rfl) rcN (by decide) (by decide) (c_X11_isNot hG ) ?_
  refine g_ifb_eq (tgt := 13) hX (dk DX11_go_0 4 rfl) (by decide) (fun hc1 => ?_) (fun hc1 => ?_)
  · obtain ⟨m, hm1, hm, rfl⟩ := in1_of (c := 1) (b := 60) (by decide) (by decide) (Decidable.not_not.mp hc1)
    refine g_aload_0 hX (dk DX11_go_0 7 rfl) ?_
    refine g_getRs (r := 1) hX (dk DX11_go_0 8 rfl) KX11 fX11_12 (by decide) rfl (CLt hH (q := 0) (by decide)) (CC hH 0 (by decide) rfl) (CR hH 0 0 1 (by decide)) ?_
    refine g_getIv hX (dk DX11_go_0 9 rfl) KX5 fX11_122 (by decide) rfl (CLt hH (q := 1) (by decide)) (CC hH 1 (by decide) rfl) ((hN.1 1 (by decide) 6)) ?_
    refine g_iload_1 hX (dk DX11_go_0 10 rfl) ?_
    refine g_iadd hX (dk DX11_go_0 11 rfl) ?_
    refine g_sipush (v := 9999) hX (dk DX11_go_0 12 rfl) (by decide) ?_
    refine g_icmp_le (tgt := 31) hX (dk DX11_go_0 13 rfl) (by decide) (fun hc2 => ?_) (fun hc2 => absurd (go_le hm) hc2)
    refine g_aload_0 hX (dk DX11_go_0 16 rfl) ?_
    refine g_getRs (r := 13) hX (dk DX11_go_0 17 rfl) KX11 fX11_26 (by decide) rfl (CLt hH (q := 0) (by decide)) (CC hH 0 (by decide) rfl) (CR hH 0 3 13 (by decide)) ?_
    refine g_iload_1 hX (dk DX11_go_0 18 rfl) ?_
    refine g_c2v hX sX11_go_36 (by decide) (Nat.le_of_ble_eq_true rfl) (rc0 rfl (CLt hH (by decide)) (CC hH 13 (by decide) rfl)) (by decide) (by decide) (n_X0_look hG hH hN hP (by omega)) ?_
    rintro J2 _ ⟨hN, rfl, hsp, hz⟩
    refine g_aload_0 hX (dk DX11_go_0 20 rfl) ?_
    refine g_getRs (r := 1) hX (dk DX11_go_0 21 rfl) KX11 fX11_12 (by decide) rfl (CLt hH (q := 0) (by decide)) (CC hH 0 (by decide) rfl) (CR hH 0 0 1 (by decide)) ?_
    refine g_dup hX (dk DX11_go_0 22 rfl) rfl ?_
    refine g_getIv hX (dk DX11_go_0 23 rfl) KX5 fX11_162 (by decide) rfl (CLt hH (q := 1) (by decide)) (CC hH 1 (by decide) rfl) ((hN.1 1 (by decide) 7)) ?_
    refine g_aload_0 hX (dk DX11_go_0 24 rfl) ?_
    refine g_getRs (r := 13) hX (dk DX11_go_0 25 rfl) KX11 fX11_26 (by decide) rfl (CLt hH (q := 0) (by decide)) (CC hH 0 (by decide) rfl) (CR hH 0 3 13 (by decide)) ?_
    refine g_aload_0 hX (dk DX11_go_0 26 rfl) ?_
    refine g_getRs (r := 1) hX (dk DX11_go_0 27 rfl) KX11 fX11_12 (by decide) rfl (CLt hH (q := 0) (by decide)) (CC hH 0 (by decide) rfl) (CR hH 0 0 1 (by decide)) ?_
    refine g_getIv hX (dk DX11_go_0 28 rfl) KX5 fX11_116 (by decide) rfl (CLt hH (q := 1) (by decide)) (CC hH 1 (by decide) rfl) ((hN.1 1 (by decide) 3)) ?_
    refine g_aload_0 hX (dk DX11_go_0 29 rfl) ?_
    refine g_getRs (r := 1) hX (dk DX11_go_0 30 rfl) KX11 fX11_12 (by decide) rfl (CLt hH (q := 0) (by decide)) (CC hH 0 (by decide) rfl) (CR hH 0 0 1 (by decide)) ?_
    refine g_getIv hX (dk DX11_go_0 31 rfl) KX5 fX11_109 (by decide) rfl (CLt hH (q := 1) (by decide)) (CC hH 1 (by decide) rfl) ((hN.1 1 (by decide) 4)) ?_
    refine g_c3q hX sX11_go_65 (by decide) (Nat.le_of_ble_eq_true rfl) (rc0 rfl (CLt hH (by decide)) (CC hH 13 (by decide) rfl)) (by decide) (by decide) (n_X0_pass hG hH hN hP (by omega) hsp hz) ?_
    rintro _ J3 _ ⟨rfl, hN, rfl, hsp, hz, h9, h10, h11, h12, h13, hfrp⟩
    refine g_iadd hX (dk DX11_go_0 33 rfl) ?_
    refine g_putI hX (dk DX11_go_0 34 rfl) KX5 fX11_162 (by decide) rfl (CLt hH (q := 1) (by decide)) (CC hH 1 (by decide) rfl) (Or.inl rfl) (rfl) (rfl) ?_
    refine g_aload_0 hX (dk DX11_go_0 35 rfl) ?_
    refine g_getRs (r := 1) hX (dk DX11_go_0 36 rfl) KX11 fX11_12 (by decide) rfl (CLt hH (q := 0) (by decide)) (CC hH 0 (by decide) rfl) (CR hH 0 0 1 (by decide)) ?_
    refine g_dup hX (dk DX11_go_0 37 rfl) rfl ?_
    refine g_getIv hX (dk DX11_go_0 38 rfl) KX5 fX11_165 (by decide) rfl (CLt hH (q := 1) (by decide)) (CC hH 1 (by decide) rfl) ((hN.1 1 (by decide) 8)) ?_
    refine g_aload_0 hX (dk DX11_go_0 39 rfl) ?_
    refine g_getRs (r := 13) hX (dk DX11_go_0 40 rfl) KX11 fX11_26 (by decide) rfl (CLt hH (q := 0) (by decide)) (CC hH 0 (by decide) rfl) (CR hH 0 3 13 (by decide)) ?_
    refine g_getIv hX (dk DX11_go_0 41 rfl) KX0 fX11_193 (by decide) rfl (CLt hH (q := 13) (by decide)) (CC hH 13 (by decide) rfl) (h10) ?_
    refine g_iadd hX (dk DX11_go_0 42 rfl) ?_
    refine g_putI hX (dk DX11_go_0 43 rfl) KX5 fX11_165 (by decide) rfl (CLt hH (q := 1) (by decide)) (CC hH 1 (by decide) rfl) (Or.inl rfl) (rfl) (rfl) ?_
    refine g_aload_0 hX (dk DX11_go_0 44 rfl) ?_
    refine g_getRs (r := 1) hX (dk DX11_go_0 45 rfl) KX11 fX11_12 (by decide) rfl (CLt hH (q := 0) (by decide)) (CC hH 0 (by decide) rfl) (CR hH 0 0 1 (by decide)) ?_
    refine g_dup hX (dk DX11_go_0 46 rfl) rfl ?_
    refine g_getIv hX (dk DX11_go_0 47 rfl) KX5 fX11_168 (by decide) rfl (CLt hH (q := 1) (by decide)) (CC hH 1 (by decide) rfl) ((hN.1 1 (by decide) 9)) ?_
    refine g_aload_0 hX (dk DX11_go_0 48 rfl) ?_
    refine g_getRs (r := 13) hX (dk DX11_go_0 49 rfl) KX11 fX11_26 (by decide) rfl (CLt hH (q := 0) (by decide)) (CC hH 0 (by decide) rfl) (CR hH 0 3 13 (by decide)) ?_
    refine g_getIv hX (dk DX11_go_0 50 rfl) KX0 fX11_194 (by decide) rfl (CLt hH (q := 13) (by decide)) (CC hH 13 (by decide) rfl) (h11) ?_
    refine g_iadd hX (dk DX11_go_0 51 rfl) ?_
    refine g_putI hX (dk DX11_go_0 52 rfl) KX5 fX11_168 (by decide) rfl (CLt hH (q := 1) (by decide)) (CC hH 1 (by decide) rfl) (Or.inl rfl) (rfl) (rfl) ?_
    refine g_aload_0 hX (dk DX11_go_0 53 rfl) ?_
    refine g_getRs (r := 1) hX (dk DX11_go_0 54 rfl) KX11 fX11_12 (by decide) rfl (CLt hH (q := 0) (by decide)) (CC hH 0 (by decide) rfl) (CR hH 0 0 1 (by decide)) ?_
    refine g_aload_0 hX (dk DX11_go_0 55 rfl) ?_
    refine g_getRs (r := 13) hX (dk DX11_go_0 56 rfl) KX11 fX11_26 (by decide) rfl (CLt hH (q := 0) (by decide)) (CC hH 0 (by decide) rfl) (CR hH 0 3 13 (by decide)) ?_
    refine g_getIv hX (dk DX11_go_0 57 rfl) KX0 fX11_195 (by decide) rfl (CLt hH (q := 13) (by decide)) (CC hH 13 (by decide) rfl) (h9) ?_
    refine g_putI hX (dk DX11_go_0 58 rfl) KX5 fX11_116 (by decide) rfl (CLt hH (q := 1) (by decide)) (CC hH 1 (by decide) rfl) (Or.inl rfl) (rfl) (rfl) ?_
    refine g_aload_0 hX (dk DX11_go_0 59 rfl) ?_
    refine g_getRs (r := 1) hX (dk DX11_go_1 0 rfl) KX11 fX11_12 (by decide) rfl (CLt hH (q := 0) (by decide)) (CC hH 0 (by decide) rfl) (CR hH 0 0 1 (by decide)) ?_
    refine g_dup hX (dk DX11_go_1 1 rfl) rfl ?_
    refine g_getIv hX (dk DX11_go_1 2 rfl) KX5 fX11_122 (by decide) rfl (CLt hH (q := 1) (by decide)) (CC hH 1 (by decide) rfl) ((hN.1 1 (by decide) 6)) ?_
    refine g_iload_1 hX (dk DX11_go_1 3 rfl) ?_
    refine g_iadd hX (dk DX11_go_1 4 rfl) ?_
    refine g_putI hX (dk DX11_go_1 5 rfl) KX5 fX11_122 (by decide) rfl (CLt hH (q := 1) (by decide)) (CC hH 1 (by decide) rfl) (Or.inl rfl) (rfl) (rfl) ?_
    refine g_aload_0 hX (dk DX11_go_1 6 rfl) ?_
    refine g_getRs (r := 1) hX (dk DX11_go_1 7 rfl) KX11 fX11_12 (by decide) rfl (CLt hH (q := 0) (by decide)) (CC hH 0 (by decide) rfl) (CR hH 0 0 1 (by decide)) ?_
    refine g_getIv hX (dk DX11_go_1 8 rfl) KX5 fX11_122 (by decide) rfl (CLt hH (q := 1) (by decide)) (CC hH 1 (by decide) rfl) ((show _ = (0 : Int32) + nI m from rfl)) ?_
    refine g_ireturn hX (dk DX11_go_1 9 rfl) rfl (rfl) (by decide) (by decide) ?_
    exact qA_of (by (try first | rw [if_pos hc1] | rw [if_neg hc1] | rw [if_neg (not_not_intro hc1)]); (try first | rw [if_pos hc2] | rw [if_neg hc2] | rw [if_neg (not_not_intro hc2)]); first | done | rfl)
  · refine g_bipush (v := -2) hX (dk DX11_go_0 5 rfl) (by decide) ?_
    refine g_ireturn hX (dk DX11_go_0 6 rfl) rfl (rfl) (by decide) (by decide) ?_
    exact qA_of (by (try first | rw [if_pos hc1] | rw [if_neg hc1] | rw [if_neg (not_not_intro hc1)]); first | done | rfl)

set_option maxRecDepth 8000 in
set_option maxHeartbeats 4000000 in
theorem n_run {G : Gt} (hG : Gok G) {I : It} {h : Ht} (hH : HX h) (hN : NX I) (hP : NRF h) {n w : Int32} : Con G 7 0 0 mX11_run [.ref 0, .int n, .int w] I h (qA (if ¬ (0 ≤ w ∧ w ≤ 5) then -10001 else if ¬ (0 ≤ n ∧ n ≤ 200) then -10002 else if w = 0 then 0 else if w = 1 then 0 else if w = 2 then 0 else if w = 3 then 0 else if w = 4 then -5 else -5)) := by
  refine con_intro (own := RX11) (lo0 := [some (.ref 0), some (.int n), some (.int w), none]) hG rfl pl_X11 (Nat.le_of_ble_eq_true rfl) rfl (fun X hX => ?_)
  refine g_iload_2 hX (dk DX11_run 0 rfl) ?_
  refine g_iconst (v := 0) hX (dk DX11_run 1 rfl) (by decide) ?_
  refine g_iconst (v := 5) hX (dk DX11_run 2 rfl) (by decide) ?_
  refine g_c3I hX sX11_run_3 (by decide) (Nat.le_of_ble_eq_true rfl) rcN (by decide) (by decide) (c_X11_isNot hG ) ?_
  refine g_ifb_eq (tgt := 13) hX (dk DX11_run 4 rfl) (by decide) (fun hc1 => ?_) (fun hc1 => ?_)
  · refine g_iload_1 hX (dk DX11_run 7 rfl) ?_
    refine g_iconst (v := 0) hX (dk DX11_run 8 rfl) (by decide) ?_
    refine g_sipush (v := 200) hX (dk DX11_run 9 rfl) (by decide) ?_
    refine g_c3I hX sX11_run_18 (by decide) (Nat.le_of_ble_eq_true rfl) rcN (by decide) (by decide) (c_X11_isNot hG ) ?_
    refine g_ifb_eq (tgt := 28) hX (dk DX11_run 11 rfl) (by decide) (fun hc2 => ?_) (fun hc2 => ?_)
    · obtain ⟨m, hm, rfl⟩ := in_of (b := 200) (by decide) (Decidable.not_not.mp hc2)
      refine g_aload_0 hX (dk DX11_run 14 rfl) ?_
      refine g_getRs (r := 13) hX (dk DX11_run 15 rfl) KX11 fX11_26 (by decide) rfl (CLt hH (q := 0) (by decide)) (CC hH 0 (by decide) rfl) (CR hH 0 3 13 (by decide)) ?_
      refine g_iload_1 hX (dk DX11_run 16 rfl) ?_
      refine g_c2v hX sX11_run_33 (by decide) (Nat.le_of_ble_eq_true rfl) (rc0 rfl (CLt hH (by decide)) (CC hH 13 (by decide) rfl)) (by decide) (by decide) (n_X0_look hG hH hN hP (by omega)) ?_
      rintro J2 _ ⟨hN, rfl, hsp, hz⟩
      refine g_aload_0 hX (dk DX11_run 18 rfl) ?_
      refine g_getRs (r := 13) hX (dk DX11_run 19 rfl) KX11 fX11_26 (by decide) rfl (CLt hH (q := 0) (by decide)) (CC hH 0 (by decide) rfl) (CR hH 0 3 13 (by decide)) ?_
      refine g_aload_0 hX (dk DX11_run 20 rfl) ?_
      refine g_getRs (r := 1) hX (dk DX11_run 21 rfl) KX11 fX11_12 (by decide) rfl (CLt hH (q := 0) (by decide)) (CC hH 0 (by decide) rfl) (CR hH 0 0 1 (by decide)) ?_
      refine g_getIv hX (dk DX11_run 22 rfl) KX5 fX11_116 (by decide) rfl (CLt hH (q := 1) (by decide)) (CC hH 1 (by decide) rfl) ((hN.1 1 (by decide) 3)) ?_
      refine g_aload_0 hX (dk DX11_run 23 rfl) ?_
      refine g_getRs (r := 1) hX (dk DX11_run 24 rfl) KX11 fX11_12 (by decide) rfl (CLt hH (q := 0) (by decide)) (CC hH 0 (by decide) rfl) (CR hH 0 0 1 (by decide)) ?_
      refine g_getIv hX (dk DX11_run 25 rfl) KX5 fX11_109 (by decide) rfl (CLt hH (q := 1) (by decide)) (CC hH 1 (by decide) rfl) ((hN.1 1 (by decide) 4)) ?_
      refine g_c3q hX sX11_run_54 (by decide) (Nat.le_of_ble_eq_true rfl) (rc0 rfl (CLt hH (by decide)) (CC hH 13 (by decide) rfl)) (by decide) (by decide) (n_X0_pass hG hH hN hP (by omega) hsp hz) ?_
      rintro _ J3 _ ⟨rfl, hN, rfl, hsp, hz, h9, h10, h11, h12, h13, hfrp⟩
      refine g_istore_3 hX (dk DX11_run 27 rfl) (by decide) rfl ?_
      refine g_iload_2 hX (dk DX11_run 28 rfl) ?_
      refine g_tswitch (dt := 129) hX [(0, 92), (1, 94), (2, 102), (3, 110), (4, 121)] (dk DX11_run 29 rfl) (by decide +kernel) ?_
      refine ⟨fun hc3 => ?_, fun hc3n => ?_⟩
      · show GG _ _ _ _ _ _ _ _ _ _ _ _ _
        refine g_iload_3 hX (dk DX11_run 30 rfl) ?_
        refine g_ireturn hX (dk DX11_run 31 rfl) rfl (rfl) (by decide) (by decide) ?_
        exact qA_of (by (try first | rw [if_pos hc1] | rw [if_neg hc1] | rw [if_neg (not_not_intro hc1)]); (try first | rw [if_pos hc2] | rw [if_neg hc2] | rw [if_neg (not_not_intro hc2)]); (try first | rw [if_pos hc3] | rw [if_neg hc3] | rw [if_neg (not_not_intro hc3)]); first | done | rfl)
      refine ⟨fun hc4 => ?_, fun hc4n => ?_⟩
      · show GG _ _ _ _ _ _ _ _ _ _ _ _ _
        refine g_aload_0 hX (dk DX11_run 32 rfl) ?_
        refine g_getRs (r := 13) hX (dk DX11_run 33 rfl) KX11 fX11_26 (by decide) rfl (CLt hH (q := 0) (by decide)) (CC hH 0 (by decide) rfl) (CR hH 0 3 13 (by decide)) ?_
        refine g_getIv hX (dk DX11_run 34 rfl) KX0 fX11_193 (by decide) rfl (CLt hH (q := 13) (by decide)) (CC hH 13 (by decide) rfl) (h10) ?_
        refine g_ireturn hX (dk DX11_run 35 rfl) rfl (rfl) (by decide) (by decide) ?_
        exact qA_of (by (try first | rw [if_pos hc1] | rw [if_neg hc1] | rw [if_neg (not_not_intro hc1)]); (try first | rw [if_pos hc2] | rw [if_neg hc2] | rw [if_neg (not_not_intro hc2)]); (try first | rw [if_pos hc3n] | rw [if_neg hc3n] | rw [if_neg (not_not_intro hc3n)]); (try first | rw [if_pos hc4] | rw [if_neg hc4] | rw [if_neg (not_not_intro hc4)]); first | done | rfl)
      refine ⟨fun hc5 => ?_, fun hc5n => ?_⟩
      · show GG _ _ _ _ _ _ _ _ _ _ _ _ _
        refine g_aload_0 hX (dk DX11_run 36 rfl) ?_
        refine g_getRs (r := 13) hX (dk DX11_run 37 rfl) KX11 fX11_26 (by decide) rfl (CLt hH (q := 0) (by decide)) (CC hH 0 (by decide) rfl) (CR hH 0 3 13 (by decide)) ?_
        refine g_getIv hX (dk DX11_run 38 rfl) KX0 fX11_194 (by decide) rfl (CLt hH (q := 13) (by decide)) (CC hH 13 (by decide) rfl) (h11) ?_
        refine g_ireturn hX (dk DX11_run 39 rfl) rfl (rfl) (by decide) (by decide) ?_
        exact qA_of (by (try first | rw [if_pos hc1] | rw [if_neg hc1] | rw [if_neg (not_not_intro hc1)]); (try first | rw [if_pos hc2] | rw [if_neg hc2] | rw [if_neg (not_not_intro hc2)]); (try first | rw [if_pos hc3n] | rw [if_neg hc3n] | rw [if_neg (not_not_intro hc3n)]); (try first | rw [if_pos hc4n] | rw [if_neg hc4n] | rw [if_neg (not_not_intro hc4n)]); (try first | rw [if_pos hc5] | rw [if_neg hc5] | rw [if_neg (not_not_intro hc5)]); first | done | rfl)
      refine ⟨fun hc6 => ?_, fun hc6n => ?_⟩
      · show GG _ _ _ _ _ _ _ _ _ _ _ _ _
        refine g_aload_0 hX (dk DX11_run 40 rfl) ?_
        refine g_getRs (r := 13) hX (dk DX11_run 41 rfl) KX11 fX11_26 (by decide) rfl (CLt hH (q := 0) (by decide)) (CC hH 0 (by decide) rfl) (CR hH 0 3 13 (by decide)) ?_
        refine g_getIv hX (dk DX11_run 42 rfl) KX0 fX11_195 (by decide) rfl (CLt hH (q := 13) (by decide)) (CC hH 13 (by decide) rfl) (h9) ?_
        refine g_c1q hX sX11_run_117 (by decide) (Nat.le_of_ble_eq_true rfl) rcN (by decide) (by decide) (c_J6_bitCount_0f7a4 hG) ?_
        rintro x I2 h2 ⟨hx, rfl, rfl⟩
        refine g_nmI 0 (hx 0 (by decide) (by decide)) ?_
        refine g_ireturn hX (dk DX11_run 44 rfl) rfl (rfl) (by decide) (by decide) ?_
        exact qA_of (by (try first | rw [if_pos hc1] | rw [if_neg hc1] | rw [if_neg (not_not_intro hc1)]); (try first | rw [if_pos hc2] | rw [if_neg hc2] | rw [if_neg (not_not_intro hc2)]); (try first | rw [if_pos hc3n] | rw [if_neg hc3n] | rw [if_neg (not_not_intro hc3n)]); (try first | rw [if_pos hc4n] | rw [if_neg hc4n] | rw [if_neg (not_not_intro hc4n)]); (try first | rw [if_pos hc5n] | rw [if_neg hc5n] | rw [if_neg (not_not_intro hc5n)]); (try first | rw [if_pos hc6] | rw [if_neg hc6] | rw [if_neg (not_not_intro hc6)]); first | done | rfl)
      refine ⟨fun hc7 => ?_, fun hc7n => ?_⟩
      · show GG _ _ _ _ _ _ _ _ _ _ _ _ _
        refine g_aload_0 hX (dk DX11_run 45 rfl) ?_
        refine g_getRs (r := 13) hX (dk DX11_run 46 rfl) KX11 fX11_26 (by decide) rfl (CLt hH (q := 0) (by decide)) (CC hH 0 (by decide) rfl) (CR hH 0 3 13 (by decide)) ?_
        refine g_getIv hX (dk DX11_run 47 rfl) KX0 fX11_196 (by decide) rfl (CLt hH (q := 13) (by decide)) (CC hH 13 (by decide) rfl) (h12) ?_
        refine g_ireturn hX (dk DX11_run 48 rfl) rfl (rfl) (by decide) (by decide) ?_
        exact qA_of (by (try first | rw [if_pos hc1] | rw [if_neg hc1] | rw [if_neg (not_not_intro hc1)]); (try first | rw [if_pos hc2] | rw [if_neg hc2] | rw [if_neg (not_not_intro hc2)]); (try first | rw [if_pos hc3n] | rw [if_neg hc3n] | rw [if_neg (not_not_intro hc3n)]); (try first | rw [if_pos hc4n] | rw [if_neg hc4n] | rw [if_neg (not_not_intro hc4n)]); (try first | rw [if_pos hc5n] | rw [if_neg hc5n] | rw [if_neg (not_not_intro hc5n)]); (try first | rw [if_pos hc6n] | rw [if_neg hc6n] | rw [if_neg (not_not_intro hc6n)]); (try first | rw [if_pos hc7] | rw [if_neg hc7] | rw [if_neg (not_not_intro hc7)]); first | done | rfl)
      show GG _ _ _ _ _ _ _ _ _ _ _ _ _
      refine g_aload_0 hX (dk DX11_run 49 rfl) ?_
      refine g_getRs (r := 13) hX (dk DX11_run 50 rfl) KX11 fX11_26 (by decide) rfl (CLt hH (q := 0) (by decide)) (CC hH 0 (by decide) rfl) (CR hH 0 3 13 (by decide)) ?_
      refine g_getIv hX (dk DX11_run 51 rfl) KX0 fX11_199 (by decide) rfl (CLt hH (q := 13) (by decide)) (CC hH 13 (by decide) rfl) (h13) ?_
      refine g_ireturn hX (dk DX11_run 52 rfl) rfl (rfl) (by decide) (by decide) ?_
      exact qA_of (by (try first | rw [if_pos hc1] | rw [if_neg hc1] | rw [if_neg (not_not_intro hc1)]); (try first | rw [if_pos hc2] | rw [if_neg hc2] | rw [if_neg (not_not_intro hc2)]); (try first | rw [if_pos hc3n] | rw [if_neg hc3n] | rw [if_neg (not_not_intro hc3n)]); (try first | rw [if_pos hc4n] | rw [if_neg hc4n] | rw [if_neg (not_not_intro hc4n)]); (try first | rw [if_pos hc5n] | rw [if_neg hc5n] | rw [if_neg (not_not_intro hc5n)]); (try first | rw [if_pos hc6n] | rw [if_neg hc6n] | rw [if_neg (not_not_intro hc6n)]); (try first | rw [if_pos hc7n] | rw [if_neg hc7n] | rw [if_neg (not_not_intro hc7n)]); first | done | rfl)
    · refine g_sipush (v := -10002) hX (dk DX11_run 12 rfl) (by decide) ?_
      refine g_ireturn hX (dk DX11_run 13 rfl) rfl (rfl) (by decide) (by decide) ?_
      exact qA_of (by (try first | rw [if_pos hc1] | rw [if_neg hc1] | rw [if_neg (not_not_intro hc1)]); (try first | rw [if_pos hc2] | rw [if_neg hc2] | rw [if_neg (not_not_intro hc2)]); first | done | rfl)
  · refine g_sipush (v := -10001) hX (dk DX11_run 5 rfl) (by decide) ?_
    refine g_ireturn hX (dk DX11_run 6 rfl) rfl (rfl) (by decide) (by decide) ?_
    exact qA_of (by (try first | rw [if_pos hc1] | rw [if_neg hc1] | rw [if_neg (not_not_intro hc1)]); first | done | rfl)

