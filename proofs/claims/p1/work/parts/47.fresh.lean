theorem all_no {s : Int32} (h : s &&& (0 ^^^ -1) = 0) : s = 0 := by
  rw [show (0 : Int32) ^^^ -1 = -1 by decide, Int32.and_neg_one] at h
  exact h
set_option maxRecDepth 8000 in
set_option maxHeartbeats 4000000 in
theorem n_more {G : Gt} (hG : Gok G) {I : It} {h : Ht} (hH : HX h) (hN : NX I) (hP : NRF h) {y n : Int32} : Con G 6 0 0 mX11_more [.ref 0, .int y, .int n] I h (qA (if ¬ (0 ≤ y ∧ y ≤ 3) then -10001 else if ¬ (0 ≤ n ∧ n ≤ 60) then -10002 else 0)) := by
  refine con_intro (own := RX11) (lo0 := [some (.ref 0), some (.int y), some (.int n)]) hG rfl pl_X11 (Nat.le_of_ble_eq_true rfl) rfl (fun X hX => ?_)
  refine g_iload_1 hX (dk DX11_more 0 rfl) ?_
  refine g_iconst (v := 0) hX (dk DX11_more 1 rfl) (by decide) ?_
  refine g_iconst (v := 3) hX (dk DX11_more 2 rfl) (by decide) ?_
  refine g_c3I hX sX11_more_3 (by decide) (Nat.le_of_ble_eq_true rfl) rcN (by decide) (by decide) (c_X11_isNot hG ) ?_
  refine g_ifb_eq (tgt := 13) hX (dk DX11_more 4 rfl) (by decide) (fun hc1 => ?_) (fun hc1 => ?_)
  · obtain ⟨y, hy, rfl⟩ := in_of (b := 3) (by decide) (Decidable.not_not.mp hc1)
    refine g_iload_2 hX (dk DX11_more 7 rfl) ?_
    refine g_iconst (v := 0) hX (dk DX11_more 8 rfl) (by decide) ?_
    refine g_bipush (v := 60) hX (dk DX11_more 9 rfl) (by decide) ?_
    refine g_c3I hX sX11_more_17 (by decide) (Nat.le_of_ble_eq_true rfl) rcN (by decide) (by decide) (c_X11_isNot hG ) ?_
    refine g_ifb_eq (tgt := 27) hX (dk DX11_more 11 rfl) (by decide) (fun hc2 => ?_) (fun hc2 => ?_)
    · obtain ⟨m, hm, rfl⟩ := in_of (b := 60) (by decide) (Decidable.not_not.mp hc2)
      refine g_aload_0 hX (dk DX11_more 14 rfl) ?_
      refine g_getRs (r := 1) hX (dk DX11_more 15 rfl) KX11 fX11_12 (by decide) rfl (CLt hH (q := 0) (by decide)) (CC hH 0 (by decide) rfl) (CR hH 0 0 1 (by decide)) ?_
      refine g_getRs (r := 4) hX (dk DX11_more 16 rfl) KX5 fX11_139 (by decide) rfl (CLt hH (q := 1) (by decide)) (CC hH 1 (by decide) rfl) (CR hH 1 5 4 (by decide)) ?_
      refine g_iload_1 hX (dk DX11_more 17 rfl) ?_
      refine v_iaload hX (dk DX11_more 18 rfl) (CLt hH (q := 4) (by decide)) (CS hH 4 (by decide) rfl) (⟨rfl, by omega, by decide⟩) ((hN.1 4 (by decide) _)) ?_
      refine g_bipush (v := 9) hX (dk DX11_more 19 rfl) (by decide) ?_
      refine g_icmp_lt (tgt := 43) hX (dk DX11_more 20 rfl) (by decide) (fun hc3 => ?_) (fun hc3 => absurd (by decide) hc3)
      refine g_aload_0 hX (dk DX11_more 23 rfl) ?_
      refine g_getRs (r := 13) hX (dk DX11_more 24 rfl) KX11 fX11_26 (by decide) rfl (CLt hH (q := 0) (by decide)) (CC hH 0 (by decide) rfl) (CR hH 0 3 13 (by decide)) ?_
      refine g_iload_2 hX (dk DX11_more 25 rfl) ?_
      refine g_c2v hX sX11_more_48 (by decide) (Nat.le_of_ble_eq_true rfl) (rc0 rfl (CLt hH (by decide)) (CC hH 13 (by decide) rfl)) (by decide) (by decide) (n_X0_look hG hH hN hP (by omega)) ?_
      rintro J2 _ ⟨hN, rfl, hsp, hz⟩
      refine g_aload_0 hX (dk DX11_more 27 rfl) ?_
      refine g_getRs (r := 13) hX (dk DX11_more 28 rfl) KX11 fX11_26 (by decide) rfl (CLt hH (q := 0) (by decide)) (CC hH 0 (by decide) rfl) (CR hH 0 3 13 (by decide)) ?_
      refine g_c1V hX sX11_more_55 (by decide) (Nat.le_of_ble_eq_true rfl) (rc0 rfl (CLt hH (by decide)) (CC hH 13 (by decide) rfl)) (by decide) (by decide) (n_X0_hear hG hH hN hP) ?_
      refine g_aload_0 hX (dk DX11_more 30 rfl) ?_
      refine g_getRs (r := 13) hX (dk DX11_more 31 rfl) KX11 fX11_26 (by decide) rfl (CLt hH (q := 0) (by decide)) (CC hH 0 (by decide) rfl) (CR hH 0 3 13 (by decide)) ?_
      refine g_aload_0 hX (dk DX11_more 32 rfl) ?_
      refine g_getRs (r := 1) hX (dk DX11_more 33 rfl) KX11 fX11_12 (by decide) rfl (CLt hH (q := 0) (by decide)) (CC hH 0 (by decide) rfl) (CR hH 0 0 1 (by decide)) ?_
      refine g_getRs (r := 4) hX (dk DX11_more 34 rfl) KX5 fX11_139 (by decide) rfl (CLt hH (q := 1) (by decide)) (CC hH 1 (by decide) rfl) (CR hH 1 5 4 (by decide)) ?_
      refine g_c2q hX sX11_more_69 (by decide) (Nat.le_of_ble_eq_true rfl) (rc0 rfl (CLt hH (by decide)) (CC hH 13 (by decide) rfl)) (by decide) (by decide) (n_X0_costHanded hG hH hN hP (by omega) hsp hz) ?_
      rintro _ J4 _ ⟨rfl, hN, rfl, hsp, hz, hfrp⟩
      refine g_aload_0 hX (dk DX11_more 36 rfl) ?_
      refine g_getRs (r := 13) hX (dk DX11_more 37 rfl) KX11 fX11_26 (by decide) rfl (CLt hH (q := 0) (by decide)) (CC hH 0 (by decide) rfl) (CR hH 0 3 13 (by decide)) ?_
      refine g_aload_0 hX (dk DX11_more 38 rfl) ?_
      refine g_getRs (r := 13) hX (dk DX11_more 39 rfl) KX11 fX11_26 (by decide) rfl (CLt hH (q := 0) (by decide)) (CC hH 0 (by decide) rfl) (CR hH 0 3 13 (by decide)) ?_
      refine g_iload_1 hX (dk DX11_more 40 rfl) ?_
      refine g_c2 hX sX11_more_81 (by decide) (Nat.le_of_ble_eq_true rfl) (rc0 rfl (CLt hH (by decide)) (CC hH 13 (by decide) rfl)) (by decide) (by decide) (n_X0_hourMore hG hH hN hP) (fun r I2 h2 hq => ?_)
      obtain ⟨rfl, hf, rfl⟩ := hq
      have hsp : I2 13 1 = nI m := by rw [hf 13 (by decide)]; exact hsp
      have hz : ∀ z, z < m → I2 14 z = 0 := fun z hz2 => by rw [hf 14 (by decide)]; exact hz z hz2
      have hN := NX.kp hN hf rfl rfl
      refine g_c2q hX sX11_more_84 (by decide) (Nat.le_of_ble_eq_true rfl) (rc0 rfl (CLt hH (by decide)) (CC hH 13 (by decide) rfl)) (by decide) (by decide) (n_X0_costHanded hG hH hN hP (by omega) hsp hz) ?_
      rintro _ J4 _ ⟨rfl, hN, rfl, hsp, hz, hfrp⟩
      refine g_isub hX (dk DX11_more 43 rfl) ?_
      refine g_ireturn hX (dk DX11_more 44 rfl) rfl (rfl) (by decide) (by decide) ?_
      exact qA_of (by (try first | rw [if_pos hc1] | rw [if_neg hc1] | rw [if_neg (not_not_intro hc1)]); (try first | rw [if_pos hc2] | rw [if_neg hc2] | rw [if_neg (not_not_intro hc2)]); (try first | rw [if_pos hc3] | rw [if_neg hc3] | rw [if_neg (not_not_intro hc3)]); first | done | rfl)
    · refine g_sipush (v := -10002) hX (dk DX11_more 12 rfl) (by decide) ?_
      refine g_ireturn hX (dk DX11_more 13 rfl) rfl (rfl) (by decide) (by decide) ?_
      exact qA_of (by (try first | rw [if_pos hc1] | rw [if_neg hc1] | rw [if_neg (not_not_intro hc1)]); (try first | rw [if_pos hc2] | rw [if_neg hc2] | rw [if_neg (not_not_intro hc2)]); first | done | rfl)
  · refine g_sipush (v := -10001) hX (dk DX11_more 5 rfl) (by decide) ?_
    refine g_ireturn hX (dk DX11_more 6 rfl) rfl (rfl) (by decide) (by decide) ?_
    exact qA_of (by (try first | rw [if_pos hc1] | rw [if_neg hc1] | rw [if_neg (not_not_intro hc1)]); first | done | rfl)

set_option maxRecDepth 8000 in
set_option maxHeartbeats 4000000 in
theorem n_X5_longestWait {G : Gt} (hG : Gok G) {I : It} {h : Ht} (hH : HX h) (hN : NX I) (hP : NRF h) {a w : Int32} : Con G 4 0 0 mX5_longestWait [.ref 1, .int a, .int w] I h (rI 0 I h) := by
  refine con_intro (own := RX5) (lo0 := [some (.ref 1), some (.int a), some (.int w), none, none, none]) hG rfl pl_X5 (Nat.le_of_ble_eq_true rfl) rfl (fun X hX => ?_)
  refine g_iconst (v := 0) hX (dk DX5_longestWait 0 rfl) (by decide) ?_
  refine g_istore_3 hX (dk DX5_longestWait 1 rfl) (by decide) rfl ?_
  refine g_iconst (v := 0) hX (dk DX5_longestWait 2 rfl) (by decide) ?_
  refine g_istore_4 hX (dk DX5_longestWait 3 rfl) (by decide) rfl ?_
  refine g_iload_4 hX (dk DX5_longestWait 4 rfl) ?_
  refine g_aload_0 hX (dk DX5_longestWait 5 rfl) ?_
  refine g_getIv hX (dk DX5_longestWait 6 rfl) KX5 fX5_36 (by decide) rfl (CLt hH (q := 1) (by decide)) (CC hH 1 (by decide) rfl) ((hN.1 1 (by decide) 2)) ?_
  refine g_icmp_ge (tgt := 53) hX (dk DX5_longestWait 7 rfl) (by decide) (fun hc1 => ?_) (fun hc1 => absurd (by decide) hc1)
  refine g_iload_3 hX (dk DX5_longestWait 26 rfl) ?_
  refine g_ireturn hX (dk DX5_longestWait 27 rfl) rfl (rfl) (by decide) (by decide) ?_
  exact rI_of rfl rfl rfl

set_option maxRecDepth 8000 in
set_option maxHeartbeats 4000000 in
theorem n_X5_everyDoing {G : Gt} (hG : Gok G) {I : It} {h : Ht} (hH : HX h) (hN : NX I) (hP : NRF h)  : Con G 1 0 0 mX5_everyDoing [.ref 1] I h (rI 0 I h) := by
  refine con_intro (own := RX5) (lo0 := [some (.ref 1)]) hG rfl pl_X5 (Nat.le_of_ble_eq_true rfl) rfl (fun X hX => ?_)
  refine g_iconst (v := 1) hX (dk DX5_everyDoing 0 rfl) (by decide) ?_
  refine g_aload_0 hX (dk DX5_everyDoing 1 rfl) ?_
  refine g_getIv hX (dk DX5_everyDoing 2 rfl) KX5 fX5_36 (by decide) rfl (CLt hH (q := 1) (by decide)) (CC hH 1 (by decide) rfl) ((hN.1 1 (by decide) 2)) ?_
  refine g_ishl hX (dk DX5_everyDoing 3 rfl) ?_
  refine g_iconst (v := 1) hX (dk DX5_everyDoing 4 rfl) (by decide) ?_
  refine g_isub hX (dk DX5_everyDoing 5 rfl) ?_
  refine g_ireturn hX (dk DX5_everyDoing 6 rfl) rfl (rfl) (by decide) (by decide) ?_
  exact rI_of (by decide) rfl rfl

set_option maxRecDepth 8000 in
set_option maxHeartbeats 4000000 in
theorem n_all {G : Gt} (hG : Gok G) {I : It} {h : Ht} (hH : HX h) (hN : NX I) (hP : NRF h) {s : Int32} : Con G 5 0 0 mX11_all [.ref 0, .int s] I h (qA (-2)) := by
  refine con_intro (own := RX11) (lo0 := [some (.ref 0), some (.int s), none, none]) hG rfl pl_X11 (Nat.le_of_ble_eq_true rfl) rfl (fun X hX => ?_)
  refine g_iload_1 hX (dk DX11_all 0 rfl) ?_
  refine g_if_eq (tgt := 18) hX (dk DX11_all 1 rfl) (by decide) (fun hc1 => ?_) (fun hc1 => ?_)
  · refine g_bipush (v := -2) hX (dk DX11_all 10 rfl) (by decide) ?_
    refine g_ireturn hX (dk DX11_all 11 rfl) rfl (rfl) (by decide) (by decide) ?_
    exact qA_of (by (try first | rw [if_pos hc1] | rw [if_neg hc1] | rw [if_neg (not_not_intro hc1)]); first | done | rfl)
  · refine g_iload_1 hX (dk DX11_all 2 rfl) ?_
    refine g_aload_0 hX (dk DX11_all 3 rfl) ?_
    refine g_getRs (r := 1) hX (dk DX11_all 4 rfl) KX11 fX11_12 (by decide) rfl (CLt hH (q := 0) (by decide)) (CC hH 0 (by decide) rfl) (CR hH 0 0 1 (by decide)) ?_
    refine g_c1I hX sX11_all_9 (by decide) (Nat.le_of_ble_eq_true rfl) (rc0 rfl (CLt hH (by decide)) (CC hH 1 (by decide) rfl)) (by decide) (by decide) (n_X5_everyDoing hG hH hN hP) ?_
    refine g_iconst (v := -1) hX (dk DX11_all 6 rfl) (by decide) ?_
    refine g_ixor hX (dk DX11_all 7 rfl) ?_
    refine g_iand hX (dk DX11_all 8 rfl) ?_
    refine g_if_eq (tgt := 21) hX (dk DX11_all 9 rfl) (by decide) (fun hc2 => absurd (all_no hc2) hc1) (fun hc2 => ?_)
    refine g_bipush (v := -2) hX (dk DX11_all 10 rfl) (by decide) ?_
    refine g_ireturn hX (dk DX11_all 11 rfl) rfl (rfl) (by decide) (by decide) ?_
    exact qA_of (by (try first | rw [if_pos hc1] | rw [if_neg hc1] | rw [if_neg (not_not_intro hc1)]); (try first | rw [if_pos hc2] | rw [if_neg hc2] | rw [if_neg (not_not_intro hc2)]); first | done | rfl)

