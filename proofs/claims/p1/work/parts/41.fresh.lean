set_option maxRecDepth 8000 in
set_option maxHeartbeats 4000000 in
theorem n_count {G : Gt} (hG : Gok G) {I : It} {h : Ht} (hH : HX h) (hN : NX I) (hP : NRF h) {w : Int32} : Con G 3 0 0 mX11_count [.ref 0, .int w] I h (qA (if w = 0 then 0 else if w = 1 then 0 else if w = 2 then 0 else if w = 3 then 0 else if w = 4 then 0 else if w = 5 then 0 else -2)) := by
  refine con_intro (own := RX11) (lo0 := [some (.ref 0), some (.int w)]) hG rfl pl_X11 (Nat.le_of_ble_eq_true rfl) rfl (fun X hX => ?_)
  refine g_iload_1 hX (dk DX11_count 0 rfl) ?_
  refine g_tswitch (dt := 85) hX [(0, 40), (1, 48), (2, 53), (3, 61), (4, 66), (5, 74)] (dk DX11_count 1 rfl) (by decide +kernel) ?_
  refine ⟨fun hc1 => ?_, fun hc1n => ?_⟩
  · show GG _ _ _ _ _ _ _ _ _ _ _ _ _
    refine g_aload_0 hX (dk DX11_count 2 rfl) ?_
    refine g_getRs (r := 1) hX (dk DX11_count 3 rfl) KX11 fX11_12 (by decide) rfl (CLt hH (q := 0) (by decide)) (CC hH 0 (by decide) rfl) (CR hH 0 0 1 (by decide)) ?_
    refine g_getIv hX (dk DX11_count 4 rfl) KX5 fX11_72 (by decide) rfl (CLt hH (q := 1) (by decide)) (CC hH 1 (by decide) rfl) ((hN.1 1 (by decide) 2)) ?_
    refine g_ireturn hX (dk DX11_count 5 rfl) rfl (rfl) (by decide) (by decide) ?_
    exact qA_of (by (try first | rw [if_pos hc1] | rw [if_neg hc1] | rw [if_neg (not_not_intro hc1)]); first | done | rfl)
  refine ⟨fun hc2 => ?_, fun hc2n => ?_⟩
  · show GG _ _ _ _ _ _ _ _ _ _ _ _ _
    refine g_aload_0 hX (dk DX11_count 6 rfl) ?_
    refine g_getIv hX (dk DX11_count 7 rfl) KX11 fX11_145 (by decide) rfl (CLt hH (q := 0) (by decide)) (CC hH 0 (by decide) rfl) ((hN.1 0 (by decide) 5)) ?_
    refine g_ireturn hX (dk DX11_count 8 rfl) rfl (rfl) (by decide) (by decide) ?_
    exact qA_of (by (try first | rw [if_pos hc1n] | rw [if_neg hc1n] | rw [if_neg (not_not_intro hc1n)]); (try first | rw [if_pos hc2] | rw [if_neg hc2] | rw [if_neg (not_not_intro hc2)]); first | done | rfl)
  refine ⟨fun hc3 => ?_, fun hc3n => ?_⟩
  · show GG _ _ _ _ _ _ _ _ _ _ _ _ _
    refine g_aload_0 hX (dk DX11_count 9 rfl) ?_
    refine g_getRs (r := 1) hX (dk DX11_count 10 rfl) KX11 fX11_12 (by decide) rfl (CLt hH (q := 0) (by decide)) (CC hH 0 (by decide) rfl) (CR hH 0 0 1 (by decide)) ?_
    refine g_getIv hX (dk DX11_count 11 rfl) KX5 fX11_231 (by decide) rfl (CLt hH (q := 1) (by decide)) (CC hH 1 (by decide) rfl) ((hN.1 1 (by decide) 12)) ?_
    refine g_ireturn hX (dk DX11_count 12 rfl) rfl (rfl) (by decide) (by decide) ?_
    exact qA_of (by (try first | rw [if_pos hc1n] | rw [if_neg hc1n] | rw [if_neg (not_not_intro hc1n)]); (try first | rw [if_pos hc2n] | rw [if_neg hc2n] | rw [if_neg (not_not_intro hc2n)]); (try first | rw [if_pos hc3] | rw [if_neg hc3] | rw [if_neg (not_not_intro hc3)]); first | done | rfl)
  refine ⟨fun hc4 => ?_, fun hc4n => ?_⟩
  · show GG _ _ _ _ _ _ _ _ _ _ _ _ _
    refine g_aload_0 hX (dk DX11_count 13 rfl) ?_
    refine g_getIv hX (dk DX11_count 14 rfl) KX11 fX11_142 (by decide) rfl (CLt hH (q := 0) (by decide)) (CC hH 0 (by decide) rfl) ((hN.1 0 (by decide) 7)) ?_
    refine g_ireturn hX (dk DX11_count 15 rfl) rfl (rfl) (by decide) (by decide) ?_
    exact qA_of (by (try first | rw [if_pos hc1n] | rw [if_neg hc1n] | rw [if_neg (not_not_intro hc1n)]); (try first | rw [if_pos hc2n] | rw [if_neg hc2n] | rw [if_neg (not_not_intro hc2n)]); (try first | rw [if_pos hc3n] | rw [if_neg hc3n] | rw [if_neg (not_not_intro hc3n)]); (try first | rw [if_pos hc4] | rw [if_neg hc4] | rw [if_neg (not_not_intro hc4)]); first | done | rfl)
  refine ⟨fun hc5 => ?_, fun hc5n => ?_⟩
  · show GG _ _ _ _ _ _ _ _ _ _ _ _ _
    refine g_aload_0 hX (dk DX11_count 16 rfl) ?_
    refine g_getRs (r := 32) hX (dk DX11_count 17 rfl) KX11 fX11_43 (by decide) rfl (CLt hH (q := 0) (by decide)) (CC hH 0 (by decide) rfl) (CR hH 0 8 32 (by decide)) ?_
    refine g_getIv hX (dk DX11_count 18 rfl) KX7 fX11_258 (by decide) rfl (CLt hH (q := 32) (by decide)) (CC hH 32 (by decide) rfl) ((hN.1 32 (by decide) 1)) ?_
    refine g_ireturn hX (dk DX11_count 19 rfl) rfl (rfl) (by decide) (by decide) ?_
    exact qA_of (by (try first | rw [if_pos hc1n] | rw [if_neg hc1n] | rw [if_neg (not_not_intro hc1n)]); (try first | rw [if_pos hc2n] | rw [if_neg hc2n] | rw [if_neg (not_not_intro hc2n)]); (try first | rw [if_pos hc3n] | rw [if_neg hc3n] | rw [if_neg (not_not_intro hc3n)]); (try first | rw [if_pos hc4n] | rw [if_neg hc4n] | rw [if_neg (not_not_intro hc4n)]); (try first | rw [if_pos hc5] | rw [if_neg hc5] | rw [if_neg (not_not_intro hc5)]); first | done | rfl)
  refine ⟨fun hc6 => ?_, fun hc6n => ?_⟩
  · show GG _ _ _ _ _ _ _ _ _ _ _ _ _
    refine g_aload_0 hX (dk DX11_count 20 rfl) ?_
    refine g_getRs (r := 1) hX (dk DX11_count 21 rfl) KX11 fX11_12 (by decide) rfl (CLt hH (q := 0) (by decide)) (CC hH 0 (by decide) rfl) (CR hH 0 0 1 (by decide)) ?_
    refine g_getIv hX (dk DX11_count 22 rfl) KX5 fX11_116 (by decide) rfl (CLt hH (q := 1) (by decide)) (CC hH 1 (by decide) rfl) ((hN.1 1 (by decide) 3)) ?_
    refine g_c1q hX sX11_count_81 (by decide) (Nat.le_of_ble_eq_true rfl) rcN (by decide) (by decide) (c_J6_bitCount_0f7a4 hG) ?_
    rintro x I2 h2 ⟨hx, rfl, rfl⟩
    refine g_nmI 0 (hx 0 (by decide) rfl) ?_
    refine g_ireturn hX (dk DX11_count 24 rfl) rfl (rfl) (by decide) (by decide) ?_
    exact qA_of (by (try first | rw [if_pos hc1n] | rw [if_neg hc1n] | rw [if_neg (not_not_intro hc1n)]); (try first | rw [if_pos hc2n] | rw [if_neg hc2n] | rw [if_neg (not_not_intro hc2n)]); (try first | rw [if_pos hc3n] | rw [if_neg hc3n] | rw [if_neg (not_not_intro hc3n)]); (try first | rw [if_pos hc4n] | rw [if_neg hc4n] | rw [if_neg (not_not_intro hc4n)]); (try first | rw [if_pos hc5n] | rw [if_neg hc5n] | rw [if_neg (not_not_intro hc5n)]); (try first | rw [if_pos hc6] | rw [if_neg hc6] | rw [if_neg (not_not_intro hc6)]); first | done | rfl)
  show GG _ _ _ _ _ _ _ _ _ _ _ _ _
  refine g_bipush (v := -2) hX (dk DX11_count 25 rfl) (by decide) ?_
  refine g_ireturn hX (dk DX11_count 26 rfl) rfl (rfl) (by decide) (by decide) ?_
  exact qA_of (by (try first | rw [if_pos hc1n] | rw [if_neg hc1n] | rw [if_neg (not_not_intro hc1n)]); (try first | rw [if_pos hc2n] | rw [if_neg hc2n] | rw [if_neg (not_not_intro hc2n)]); (try first | rw [if_pos hc3n] | rw [if_neg hc3n] | rw [if_neg (not_not_intro hc3n)]); (try first | rw [if_pos hc4n] | rw [if_neg hc4n] | rw [if_neg (not_not_intro hc4n)]); (try first | rw [if_pos hc5n] | rw [if_neg hc5n] | rw [if_neg (not_not_intro hc5n)]); (try first | rw [if_pos hc6n] | rw [if_neg hc6n] | rw [if_neg (not_not_intro hc6n)]); first | done | rfl)

set_option maxRecDepth 8000 in
set_option maxHeartbeats 4000000 in
theorem n_item {G : Gt} (hG : Gok G) {I : It} {h : Ht} (hH : HX h) (hN : NX I) (hP : NRF h) {a e : Int32} {z : Int64} : Con G 3 0 0 mX11_item [.ref 0, .int a, .int e, .long z] I h (qA (if ¬ isT a then -1 else -11)) := by
  refine con_intro (own := RX11) (lo0 := [some (.ref 0), some (.int a), some (.int e), some (.long z), none]) hG rfl pl_X11 (Nat.le_of_ble_eq_true rfl) rfl (fun X hX => ?_)
  refine g_iload_1 hX (dk DX11_item 0 rfl) ?_
  refine g_iconst (v := 0) hX (dk DX11_item 1 rfl) (by decide) ?_
  refine g_iconst (v := 5) hX (dk DX11_item 2 rfl) (by decide) ?_
  refine g_c3I hX sX11_item_3 (by decide) (Nat.le_of_ble_eq_true rfl) rcN (by decide) (by decide) (c_X11_isNot hG ) ?_
  refine g_ifb_eq (tgt := 11) hX (dk DX11_item 4 rfl) (by decide) (fun hc1 => ?_) (fun hc1 => ?_)
  · obtain ⟨t, ht, rfl⟩ := in_of (b := 5) (by decide) (Decidable.not_not.mp hc1)
    refine g_aload_0 hX (dk DX11_item 7 rfl) ?_
    refine g_getRs (r := 34) hX (dk DX11_item 8 rfl) KX11 fX11_47 (by decide) rfl (CLt hH (q := 0) (by decide)) (CC hH 0 (by decide) rfl) (CR hH 0 9 34 (by decide)) ?_
    refine g_iload_1 hX (dk DX11_item 9 rfl) ?_
    refine v_iaload hX (dk DX11_item 10 rfl) (CLt hH (q := 34) (by decide)) (CS hH 34 (by decide) rfl) (⟨rfl, by omega, by decide⟩) (hN.2 _ (by omega)) ?_
    refine g_iconst (v := -1) hX (dk DX11_item 11 rfl) (by decide) ?_
    refine g_icmp_ne (tgt := 24) hX (dk DX11_item 12 rfl) (by decide) (fun hc2 => absurd rfl hc2) (fun hc2 => ?_)
    refine g_bipush (v := -11) hX (dk DX11_item 13 rfl) (by decide) ?_
    refine g_ireturn hX (dk DX11_item 14 rfl) rfl (rfl) (by decide) (by decide) ?_
    exact qA_of (by (try first | rw [if_pos hc1] | rw [if_neg hc1] | rw [if_neg (not_not_intro hc1)]); (try first | rw [if_pos hc2] | rw [if_neg hc2] | rw [if_neg (not_not_intro hc2)]); first | done | rfl)
  · refine g_iconst (v := -1) hX (dk DX11_item 5 rfl) (by decide) ?_
    refine g_ireturn hX (dk DX11_item 6 rfl) rfl (rfl) (by decide) (by decide) ?_
    exact qA_of (by (try first | rw [if_pos hc1] | rw [if_neg hc1] | rw [if_neg (not_not_intro hc1)]); first | done | rfl)

set_option maxRecDepth 8000 in
set_option maxHeartbeats 4000000 in
theorem n_judge {G : Gt} (hG : Gok G) {I : It} {h : Ht} (hH : HX h) (hN : NX I) (hP : NRF h) {a e : Int32} : Con G 3 0 0 mX11_judge [.ref 0, .int a, .int e] I h (qA (if ¬ isT a then -1 else -5)) := by
  refine con_intro (own := RX11) (lo0 := [some (.ref 0), some (.int a), some (.int e), none]) hG rfl pl_X11 (Nat.le_of_ble_eq_true rfl) rfl (fun X hX => ?_)
  refine g_iload_1 hX (dk DX11_judge_0 0 rfl) ?_
  refine g_iconst (v := 0) hX (dk DX11_judge_0 1 rfl) (by decide) ?_
  refine g_iconst (v := 5) hX (dk DX11_judge_0 2 rfl) (by decide) ?_
  refine g_c3I hX sX11_judge_3 (by decide) (Nat.le_of_ble_eq_true rfl) rcN (by decide) (by decide) (c_X11_isNot hG ) ?_
  refine g_ifb_eq (tgt := 11) hX (dk DX11_judge_0 4 rfl) (by decide) (fun hc1 => ?_) (fun hc1 => ?_)
  · obtain ⟨t, ht, rfl⟩ := in_of (b := 5) (by decide) (Decidable.not_not.mp hc1)
    refine g_aload_0 hX (dk DX11_judge_0 7 rfl) ?_
    refine g_getRs (r := 34) hX (dk DX11_judge_0 8 rfl) KX11 fX11_47 (by decide) rfl (CLt hH (q := 0) (by decide)) (CC hH 0 (by decide) rfl) (CR hH 0 9 34 (by decide)) ?_
    refine g_iload_1 hX (dk DX11_judge_0 9 rfl) ?_
    refine v_iaload hX (dk DX11_judge_0 10 rfl) (CLt hH (q := 34) (by decide)) (CS hH 34 (by decide) rfl) (⟨rfl, by omega, by decide⟩) (hN.2 _ (by omega)) ?_
    refine g_iconst (v := -1) hX (dk DX11_judge_0 11 rfl) (by decide) ?_
    refine g_icmp_eq (tgt := 34) hX (dk DX11_judge_0 12 rfl) (by decide) (fun hc2 => ?_) (fun hc2 => absurd rfl hc2)
    refine g_iconst (v := 0) hX (dk DX11_judge_0 21 rfl) (by decide) ?_
    refine g_istore_3 hX (dk DX11_judge_0 22 rfl) (by decide) rfl ?_
    refine g_iload_3 hX (dk DX11_judge_0 23 rfl) ?_
    refine g_aload_0 hX (dk DX11_judge_0 24 rfl) ?_
    refine g_getRs (r := 1) hX (dk DX11_judge_0 25 rfl) KX11 fX11_12 (by decide) rfl (CLt hH (q := 0) (by decide)) (CC hH 0 (by decide) rfl) (CR hH 0 0 1 (by decide)) ?_
    refine g_getIv hX (dk DX11_judge_0 26 rfl) KX5 fX11_72 (by decide) rfl (CLt hH (q := 1) (by decide)) (CC hH 1 (by decide) rfl) ((hN.1 1 (by decide) 2)) ?_
    refine g_icmp_ge (tgt := 102) hX (dk DX11_judge_0 27 rfl) (by decide) (fun hc3 => ?_) (fun hc3 => absurd (by decide) hc3)
    refine g_bipush (v := -5) hX (dk DX11_judge_1 2 rfl) (by decide) ?_
    refine g_ireturn hX (dk DX11_judge_1 3 rfl) rfl (rfl) (by decide) (by decide) ?_
    exact qA_of (by (try first | rw [if_pos hc1] | rw [if_neg hc1] | rw [if_neg (not_not_intro hc1)]); (try first | rw [if_pos hc2] | rw [if_neg hc2] | rw [if_neg (not_not_intro hc2)]); (try first | rw [if_pos hc3] | rw [if_neg hc3] | rw [if_neg (not_not_intro hc3)]); first | done | rfl)
  · refine g_iconst (v := -1) hX (dk DX11_judge_0 5 rfl) (by decide) ?_
    refine g_ireturn hX (dk DX11_judge_0 6 rfl) rfl (rfl) (by decide) (by decide) ?_
    exact qA_of (by (try first | rw [if_pos hc1] | rw [if_neg hc1] | rw [if_neg (not_not_intro hc1)]); first | done | rfl)

set_option maxRecDepth 8000 in
set_option maxHeartbeats 4000000 in
theorem n_shift {G : Gt} (hG : Gok G) {I : It} {h : Ht} (hH : HX h) (hN : NX I) (hP : NRF h) {a e o j n : Int32} : Con G 3 0 0 mX11_shift [.ref 0, .int a, .int e, .int o, .int j, .int n] I h (qA (if ¬ isT a then -1 else if ¬ isT o then -1 else -11)) := by
  refine con_intro (own := RX11) (lo0 := [some (.ref 0), some (.int a), some (.int e), some (.int o), some (.int j), some (.int n)]) hG rfl pl_X11 (Nat.le_of_ble_eq_true rfl) rfl (fun X hX => ?_)
  refine g_iload_1 hX (dk DX11_shift_0 0 rfl) ?_
  refine g_iconst (v := 0) hX (dk DX11_shift_0 1 rfl) (by decide) ?_
  refine g_iconst (v := 5) hX (dk DX11_shift_0 2 rfl) (by decide) ?_
  refine g_c3I hX sX11_shift_3 (by decide) (Nat.le_of_ble_eq_true rfl) rcN (by decide) (by decide) (c_X11_isNot hG ) ?_
  refine g_ifb_ne (tgt := 18) hX (dk DX11_shift_0 4 rfl) (by decide) (fun hc1 => ?_) (fun hc1 => ?_)
  · refine g_iconst (v := -1) hX (dk DX11_shift_0 10 rfl) (by decide) ?_
    refine g_ireturn hX (dk DX11_shift_0 11 rfl) rfl (rfl) (by decide) (by decide) ?_
    exact qA_of (by (try first | rw [if_pos hc1] | rw [if_neg hc1] | rw [if_neg (not_not_intro hc1)]); first | done | rfl)
  · obtain ⟨t, ht, rfl⟩ := in_of (b := 5) (by decide) (Decidable.not_not.mp hc1)
    refine g_iload_3 hX (dk DX11_shift_0 5 rfl) ?_
    refine g_iconst (v := 0) hX (dk DX11_shift_0 6 rfl) (by decide) ?_
    refine g_iconst (v := 5) hX (dk DX11_shift_0 7 rfl) (by decide) ?_
    refine g_c3I hX sX11_shift_12 (by decide) (Nat.le_of_ble_eq_true rfl) rcN (by decide) (by decide) (c_X11_isNot hG ) ?_
    refine g_ifb_eq (tgt := 20) hX (dk DX11_shift_0 9 rfl) (by decide) (fun hc2 => ?_) (fun hc2 => ?_)
    · refine g_aload_0 hX (dk DX11_shift_0 12 rfl) ?_
      refine g_getRs (r := 34) hX (dk DX11_shift_0 13 rfl) KX11 fX11_47 (by decide) rfl (CLt hH (q := 0) (by decide)) (CC hH 0 (by decide) rfl) (CR hH 0 9 34 (by decide)) ?_
      refine g_iload_1 hX (dk DX11_shift_0 14 rfl) ?_
      refine v_iaload hX (dk DX11_shift_0 15 rfl) (CLt hH (q := 34) (by decide)) (CS hH 34 (by decide) rfl) (⟨rfl, by omega, by decide⟩) (hN.2 _ (by omega)) ?_
      refine g_iconst (v := -1) hX (dk DX11_shift_0 16 rfl) (by decide) ?_
      refine g_icmp_eq (tgt := 40) hX (dk DX11_shift_0 17 rfl) (by decide) (fun hc3 => ?_) (fun hc3 => absurd rfl hc3)
      refine g_bipush (v := -11) hX (dk DX11_shift_0 24 rfl) (by decide) ?_
      refine g_ireturn hX (dk DX11_shift_0 25 rfl) rfl (rfl) (by decide) (by decide) ?_
      exact qA_of (by (try first | rw [if_pos hc1] | rw [if_neg hc1] | rw [if_neg (not_not_intro hc1)]); (try first | rw [if_pos hc2] | rw [if_neg hc2] | rw [if_neg (not_not_intro hc2)]); (try first | rw [if_pos hc3] | rw [if_neg hc3] | rw [if_neg (not_not_intro hc3)]); first | done | rfl)
    · refine g_iconst (v := -1) hX (dk DX11_shift_0 10 rfl) (by decide) ?_
      refine g_ireturn hX (dk DX11_shift_0 11 rfl) rfl (rfl) (by decide) (by decide) ?_
      exact qA_of (by (try first | rw [if_pos hc1] | rw [if_neg hc1] | rw [if_neg (not_not_intro hc1)]); (try first | rw [if_pos hc2] | rw [if_neg hc2] | rw [if_neg (not_not_intro hc2)]); first | done | rfl)

set_option maxRecDepth 8000 in
set_option maxHeartbeats 4000000 in
theorem n_feed {G : Gt} (hG : Gok G) {I : It} {h : Ht} (hH : HX h) (hN : NX I) (hP : NRF h) {s : Int32} : Con G 3 0 0 mX11_feed [.ref 0, .int s] I h (qA (if ¬ (0 ≤ s ∧ s ≤ 127) then -2 else 1)) := by
  refine con_intro (own := RX11) (lo0 := [some (.ref 0), some (.int s)]) hG rfl pl_X11 (Nat.le_of_ble_eq_true rfl) rfl (fun X hX => ?_)
  refine g_iload_1 hX (dk DX11_feed 0 rfl) ?_
  refine g_iconst (v := 0) hX (dk DX11_feed 1 rfl) (by decide) ?_
  refine g_bipush (v := 127) hX (dk DX11_feed 2 rfl) (by decide) ?_
  refine g_c3I hX sX11_feed_4 (by decide) (Nat.le_of_ble_eq_true rfl) rcN (by decide) (by decide) (c_X11_isNot hG ) ?_
  refine g_ifb_eq (tgt := 13) hX (dk DX11_feed 4 rfl) (by decide) (fun hc1 => ?_) (fun hc1 => ?_)
  · refine g_aload_0 hX (dk DX11_feed 7 rfl) ?_
    refine g_getIv hX (dk DX11_feed 8 rfl) KX11 fX11_142 (by decide) rfl (CLt hH (q := 0) (by decide)) (CC hH 0 (by decide) rfl) ((hN.1 0 (by decide) 7)) ?_
    refine g_aload_0 hX (dk DX11_feed 9 rfl) ?_
    refine g_getRs (r := 31) hX (dk DX11_feed 10 rfl) KX11 fX11_36 (by decide) rfl (CLt hH (q := 0) (by decide)) (CC hH 0 (by decide) rfl) (CR hH 0 6 31 (by decide)) ?_
    refine g_alen (v := 100) hX (dk DX11_feed 11 rfl) (CLt hH (q := 31) (by decide)) (CS hH 31 (by decide) rfl) (by decide) (i0 := 2) rfl (by decide) ?_
    refine g_icmp_lt (tgt := 28) hX (dk DX11_feed 12 rfl) (by decide) (fun hc2 => ?_) (fun hc2 => absurd (by decide) hc2)
    refine g_aload_0 hX (dk DX11_feed 15 rfl) ?_
    refine g_getRs (r := 31) hX (dk DX11_feed 16 rfl) KX11 fX11_36 (by decide) rfl (CLt hH (q := 0) (by decide)) (CC hH 0 (by decide) rfl) (CR hH 0 6 31 (by decide)) ?_
    refine g_aload_0 hX (dk DX11_feed 17 rfl) ?_
    refine g_getIv hX (dk DX11_feed 18 rfl) KX11 fX11_142 (by decide) rfl (CLt hH (q := 0) (by decide)) (CC hH 0 (by decide) rfl) ((hN.1 0 (by decide) 7)) ?_
    refine g_iload_1 hX (dk DX11_feed 19 rfl) ?_
    refine g_i2b hX (dk DX11_feed 20 rfl) ?_
    refine i_bastore (j := 0) hX (dk DX11_feed 21 rfl) (CLt hH (q := 31) (by decide)) (CS hH 31 (by decide) rfl) (⟨rfl, by decide, by decide⟩) ?_
    refine g_aload_0 hX (dk DX11_feed 22 rfl) ?_
    refine g_dup hX (dk DX11_feed 23 rfl) rfl ?_
    refine g_getIv hX (dk DX11_feed 24 rfl) KX11 fX11_142 (by decide) rfl (CLt hH (q := 0) (by decide)) (CC hH 0 (by decide) rfl) ((hN.1 0 (by decide) 7)) ?_
    refine g_iconst (v := 1) hX (dk DX11_feed 25 rfl) (by decide) ?_
    refine g_iadd hX (dk DX11_feed 26 rfl) ?_
    refine g_putI hX (dk DX11_feed 27 rfl) KX11 fX11_142 (by decide) rfl (CLt hH (q := 0) (by decide)) (CC hH 0 (by decide) rfl) (Or.inl rfl) (rfl) (rfl) ?_
    refine g_aload_0 hX (dk DX11_feed 28 rfl) ?_
    refine g_getIv hX (dk DX11_feed 29 rfl) KX11 fX11_142 (by decide) rfl (CLt hH (q := 0) (by decide)) (CC hH 0 (by decide) rfl) ((show _ = (1 : Int32) from rfl)) ?_
    refine g_ireturn hX (dk DX11_feed 30 rfl) rfl (rfl) (by decide) (by decide) ?_
    exact qA_of (by (try first | rw [if_pos hc1] | rw [if_neg hc1] | rw [if_neg (not_not_intro hc1)]); (try first | rw [if_pos hc2] | rw [if_neg hc2] | rw [if_neg (not_not_intro hc2)]); first | done | rfl)
  · refine g_bipush (v := -2) hX (dk DX11_feed 5 rfl) (by decide) ?_
    refine g_ireturn hX (dk DX11_feed 6 rfl) rfl (rfl) (by decide) (by decide) ?_
    exact qA_of (by (try first | rw [if_pos hc1] | rw [if_neg hc1] | rw [if_neg (not_not_intro hc1)]); first | done | rfl)

