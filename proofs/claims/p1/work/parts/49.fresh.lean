set_option maxRecDepth 8000 in
set_option maxHeartbeats 4000000 in
theorem n_looked {G : Gt} (hG : Gok G) {I : It} {h : Ht} (hH : HX h) (hN : NX I) (hP : NRF h)  : Con G 7 0 0 mX11_looked [.ref 0] I h (qA (-5)) := by
  refine con_intro (own := RX11) (lo0 := [some (.ref 0)]) hG rfl pl_X11 (Nat.le_of_ble_eq_true rfl) rfl (fun X hX => ?_)
  refine g_aload_0 hX (dk DX11_looked 0 rfl) ?_
  refine g_getRs (r := 13) hX (dk DX11_looked 1 rfl) KX11 fX11_26 (by decide) rfl (CLt hH (q := 0) (by decide)) (CC hH 0 (by decide) rfl) (CR hH 0 3 13 (by decide)) ?_
  refine g_aload_0 hX (dk DX11_looked 2 rfl) ?_
  refine g_getRs (r := 1) hX (dk DX11_looked 3 rfl) KX11 fX11_12 (by decide) rfl (CLt hH (q := 0) (by decide)) (CC hH 0 (by decide) rfl) (CR hH 0 0 1 (by decide)) ?_
  refine g_c1I hX sX11_looked_8 (by decide) (Nat.le_of_ble_eq_true rfl) (rc0 rfl (CLt hH (by decide)) (CC hH 1 (by decide) rfl)) (by decide) (by decide) (n_X5_weeksToRows hG hH hN hP) ?_
  refine g_c2v hX sX11_looked_11 (by decide) (Nat.le_of_ble_eq_true rfl) (rc0 rfl (CLt hH (by decide)) (CC hH 13 (by decide) rfl)) (by decide) (by decide) (n_X0_look (m := 0) hG hH hN hP (by omega)) ?_
  rintro J2 _ ⟨hN, rfl, hsp, hz⟩
  refine g_aload_0 hX (dk DX11_looked 6 rfl) ?_
  refine g_getRs (r := 13) hX (dk DX11_looked 7 rfl) KX11 fX11_26 (by decide) rfl (CLt hH (q := 0) (by decide)) (CC hH 0 (by decide) rfl) (CR hH 0 3 13 (by decide)) ?_
  refine g_aload_0 hX (dk DX11_looked 8 rfl) ?_
  refine g_getRs (r := 1) hX (dk DX11_looked 9 rfl) KX11 fX11_12 (by decide) rfl (CLt hH (q := 0) (by decide)) (CC hH 0 (by decide) rfl) (CR hH 0 0 1 (by decide)) ?_
  refine g_getIv hX (dk DX11_looked 10 rfl) KX5 fX11_116 (by decide) rfl (CLt hH (q := 1) (by decide)) (CC hH 1 (by decide) rfl) ((hN.1 1 (by decide) 3)) ?_
  refine g_aload_0 hX (dk DX11_looked 11 rfl) ?_
  refine g_getRs (r := 1) hX (dk DX11_looked 12 rfl) KX11 fX11_12 (by decide) rfl (CLt hH (q := 0) (by decide)) (CC hH 0 (by decide) rfl) (CR hH 0 0 1 (by decide)) ?_
  refine g_getIv hX (dk DX11_looked 13 rfl) KX5 fX11_109 (by decide) rfl (CLt hH (q := 1) (by decide)) (CC hH 1 (by decide) rfl) ((hN.1 1 (by decide) 4)) ?_
  refine g_c3q hX sX11_looked_32 (by decide) (Nat.le_of_ble_eq_true rfl) (rc0 rfl (CLt hH (by decide)) (CC hH 13 (by decide) rfl)) (by decide) (by decide) (n_X0_pass (m := 0) hG hH hN hP (by omega) hsp hz) ?_
  rintro _ J3 _ ⟨rfl, hN, rfl, hsp, hz, h9, h10, h11, h12, h13, hfrp⟩
  refine g_pop hX (dk DX11_looked 15 rfl) rfl ?_
  refine g_aload_0 hX (dk DX11_looked 16 rfl) ?_
  refine g_getRs (r := 13) hX (dk DX11_looked 17 rfl) KX11 fX11_26 (by decide) rfl (CLt hH (q := 0) (by decide)) (CC hH 0 (by decide) rfl) (CR hH 0 3 13 (by decide)) ?_
  refine g_c1I hX sX11_looked_40 (by decide) (Nat.le_of_ble_eq_true rfl) (rc0 rfl (CLt hH (by decide)) (CC hH 13 (by decide) rfl)) (by decide) (by decide) (n_X0_firstRowNotSo hG hH hN hP) ?_
  refine g_ireturn hX (dk DX11_looked 19 rfl) rfl (rfl) (by decide) (by decide) ?_
  exact qA_of (by  first | done | rfl)

set_option maxRecDepth 8000 in
set_option maxHeartbeats 4000000 in
theorem n_fits {G : Gt} (hG : Gok G) {I : It} {h : Ht} (hH : HX h) (hN : NX I) (hP : NRF h)  : Con G 7 0 0 mX11_fits [.ref 0] I h (qA (1)) := by
  refine con_intro (own := RX11) (lo0 := [some (.ref 0), none, none]) hG rfl pl_X11 (Nat.le_of_ble_eq_true rfl) rfl (fun X hX => ?_)
  refine g_aload_0 hX (dk DX11_fits 0 rfl) ?_
  refine g_getRs (r := 1) hX (dk DX11_fits 1 rfl) KX11 fX11_12 (by decide) rfl (CLt hH (q := 0) (by decide)) (CC hH 0 (by decide) rfl) (CR hH 0 0 1 (by decide)) ?_
  refine g_getIv hX (dk DX11_fits 2 rfl) KX5 fX11_72 (by decide) rfl (CLt hH (q := 1) (by decide)) (CC hH 1 (by decide) rfl) ((hN.1 1 (by decide) 2)) ?_
  refine g_bipush (v := 8) hX (dk DX11_fits 3 rfl) (by decide) ?_
  refine g_icmp_le (tgt := 15) hX (dk DX11_fits 4 rfl) (by decide) (fun hc1 => ?_) (fun hc1 => absurd (by decide) hc1)
  refine g_aload_0 hX (dk DX11_fits 7 rfl) ?_
  refine g_getRs (r := 13) hX (dk DX11_fits 8 rfl) KX11 fX11_26 (by decide) rfl (CLt hH (q := 0) (by decide)) (CC hH 0 (by decide) rfl) (CR hH 0 3 13 (by decide)) ?_
  refine g_aload_0 hX (dk DX11_fits 9 rfl) ?_
  refine g_getRs (r := 1) hX (dk DX11_fits 10 rfl) KX11 fX11_12 (by decide) rfl (CLt hH (q := 0) (by decide)) (CC hH 0 (by decide) rfl) (CR hH 0 0 1 (by decide)) ?_
  refine g_c1I hX sX11_fits_23 (by decide) (Nat.le_of_ble_eq_true rfl) (rc0 rfl (CLt hH (by decide)) (CC hH 1 (by decide) rfl)) (by decide) (by decide) (n_X5_weeksToRows hG hH hN hP) ?_
  refine g_c2v hX sX11_fits_26 (by decide) (Nat.le_of_ble_eq_true rfl) (rc0 rfl (CLt hH (by decide)) (CC hH 13 (by decide) rfl)) (by decide) (by decide) (n_X0_look (m := 0) hG hH hN hP (by omega)) ?_
  rintro J2 _ ⟨hN, rfl, hsp, hz⟩
  refine g_iconst (v := 0) hX (dk DX11_fits 13 rfl) (by decide) ?_
  refine g_istore_1 hX (dk DX11_fits 14 rfl) (by decide) rfl ?_
  refine g_iconst (v := 0) hX (dk DX11_fits 15 rfl) (by decide) ?_
  refine g_istore_2 hX (dk DX11_fits 16 rfl) (by decide) rfl ?_
  refine g_iload_2 hX (dk DX11_fits 17 rfl) ?_
  refine g_aload_0 hX (dk DX11_fits 18 rfl) ?_
  refine g_getRs (r := 1) hX (dk DX11_fits 19 rfl) KX11 fX11_12 (by decide) rfl (CLt hH (q := 0) (by decide)) (CC hH 0 (by decide) rfl) (CR hH 0 0 1 (by decide)) ?_
  refine g_c1I hX sX11_fits_38 (by decide) (Nat.le_of_ble_eq_true rfl) (rc0 rfl (CLt hH (by decide)) (CC hH 1 (by decide) rfl)) (by decide) (by decide) (n_X5_everyDoing hG hH hN hP) ?_
  refine g_icmp_gt (tgt := 81) hX (dk DX11_fits 21 rfl) (by decide) (fun hc2 => absurd hc2 (by decide)) (fun hc2 => ?_)
  refine g_aload_0 hX (dk DX11_fits 22 rfl) ?_
  refine g_getRs (r := 13) hX (dk DX11_fits 23 rfl) KX11 fX11_26 (by decide) rfl (CLt hH (q := 0) (by decide)) (CC hH 0 (by decide) rfl) (CR hH 0 3 13 (by decide)) ?_
  refine g_iload_2 hX (dk DX11_fits 24 rfl) ?_
  refine g_aload_0 hX (dk DX11_fits 25 rfl) ?_
  refine g_getRs (r := 1) hX (dk DX11_fits 26 rfl) KX11 fX11_12 (by decide) rfl (CLt hH (q := 0) (by decide)) (CC hH 0 (by decide) rfl) (CR hH 0 0 1 (by decide)) ?_
  refine g_getIv hX (dk DX11_fits 27 rfl) KX5 fX11_109 (by decide) rfl (CLt hH (q := 1) (by decide)) (CC hH 1 (by decide) rfl) ((hN.1 1 (by decide) 4)) ?_
  refine g_c3q hX sX11_fits_56 (by decide) (Nat.le_of_ble_eq_true rfl) (rc0 rfl (CLt hH (by decide)) (CC hH 13 (by decide) rfl)) (by decide) (by decide) (n_X0_pass (m := 0) hG hH hN hP (by omega) hsp hz) ?_
  rintro _ J3 _ ⟨rfl, hN, rfl, hsp, hz, h9, h10, h11, h12, h13, hfrp⟩
  refine g_pop hX (dk DX11_fits 29 rfl) rfl ?_
  refine g_aload_0 hX (dk DX11_fits 30 rfl) ?_
  refine g_getRs (r := 13) hX (dk DX11_fits 31 rfl) KX11 fX11_26 (by decide) rfl (CLt hH (q := 0) (by decide)) (CC hH 0 (by decide) rfl) (CR hH 0 3 13 (by decide)) ?_
  refine g_c1I hX sX11_fits_64 (by decide) (Nat.le_of_ble_eq_true rfl) (rc0 rfl (CLt hH (by decide)) (CC hH 13 (by decide) rfl)) (by decide) (by decide) (n_X0_firstRowNotSo hG hH hN hP) ?_
  refine g_bipush (v := -5) hX (dk DX11_fits 33 rfl) (by decide) ?_
  refine g_icmp_ne (tgt := 75) hX (dk DX11_fits 34 rfl) (by decide) (fun hc3 => absurd hc3 (by decide)) (fun hc3 => ?_)
  refine g_iinc_1 (v := 1) hX (dk DX11_fits 35 rfl) (by decide) (by decide) rfl ?_
  refine g_iinc_2 (v := 1) hX (dk DX11_fits 36 rfl) (by decide) (by decide) rfl ?_
  refine g_goto (tgt := 33) hX (dk DX11_fits 37 rfl) (by decide) ?_
  refine g_iload_2 hX (dk DX11_fits 17 rfl) ?_
  refine g_aload_0 hX (dk DX11_fits 18 rfl) ?_
  refine g_getRs (r := 1) hX (dk DX11_fits 19 rfl) KX11 fX11_12 (by decide) rfl (CLt hH (q := 0) (by decide)) (CC hH 0 (by decide) rfl) (CR hH 0 0 1 (by decide)) ?_
  refine g_c1I hX sX11_fits_38 (by decide) (Nat.le_of_ble_eq_true rfl) (rc0 rfl (CLt hH (by decide)) (CC hH 1 (by decide) rfl)) (by decide) (by decide) (n_X5_everyDoing hG hH hN hP) ?_
  refine g_icmp_gt (tgt := 81) hX (dk DX11_fits 21 rfl) (by decide) (fun hc4 => ?_) (fun hc4 => absurd (by decide) hc4)
  refine g_iload_1 hX (dk DX11_fits 38 rfl) ?_
  refine g_ireturn hX (dk DX11_fits 39 rfl) rfl (rfl) (by decide) (by decide) ?_
  exact qA_of (by (try first | rw [if_pos hc1] | rw [if_neg hc1] | rw [if_neg (not_not_intro hc1)]); (try first | rw [if_pos hc2] | rw [if_neg hc2] | rw [if_neg (not_not_intro hc2)]); (try first | rw [if_pos hc3] | rw [if_neg hc3] | rw [if_neg (not_not_intro hc3)]); (try first | rw [if_pos hc4] | rw [if_neg hc4] | rw [if_neg (not_not_intro hc4)]); first | done | rfl)

set_option maxRecDepth 8000 in
set_option maxHeartbeats 4000000 in
theorem n_busiest {G : Gt} (hG : Gok G) {I : It} {h : Ht} (hH : HX h) (hN : NX I) (hP : NRF h) {n w : Int32} : Con G 5 0 0 mX11_busiest [.ref 0, .int n, .int w] I h (qA (if ¬ (0 ≤ w ∧ w ≤ 1) then -1 else if ¬ (1 ≤ n ∧ n ≤ 200) then -2 else 0)) := by
  refine con_intro (own := RX11) (lo0 := [some (.ref 0), some (.int n), some (.int w), none, none, none, none]) hG rfl pl_X11 (Nat.le_of_ble_eq_true rfl) rfl (fun X hX => ?_)
  have loop33 : (0 ≤ w ∧ w ≤ 1) → ∀ m, 1 ≤ m → m ≤ 200 → n = nI m → ∀ (k j : Nat) (t : Int32), j + k = m → ((j = 0 ∧ t = -1) ∨ (1 ≤ j ∧ t = 0)) → GG G 5 0 0 X (qA (if ¬ (0 ≤ w ∧ w ≤ 1) then -1 else if ¬ (1 ≤ n ∧ n ≤ 200) then -2 else 0)) 33 [some (.ref 0), some (.int (nI m)), some (.int w), some (.int 0), some (.int t), some (.int (nI j)), none] [] (I) (h) 0 0 := by
    intro hw m hm1 hm hn k
    subst hn
    have hin : 1 ≤ nI m ∧ nI m ≤ 200 := ⟨(nI_leI (a := 1) (by decide) (by omega)).mpr hm1, (nI_leI (b := 200) (by omega) (by decide)).mpr hm⟩
    induction k using Nat.strongRecOn with | _ k ih => ?_
    intro j t hk ht
    refine g_iload_5 hX (dk DX11_busiest 20 rfl) ?_
    refine g_iload_1 hX (dk DX11_busiest 21 rfl) ?_
    refine g_icmp_ge (tgt := 81) hX (dk DX11_busiest 22 rfl) (by decide) (fun hc1 => ?_) (fun hc1 => ?_)
    · refine g_iload_2 hX (dk DX11_busiest 42 rfl) ?_
      refine g_if_ne (tgt := 97) hX (dk DX11_busiest 43 rfl) (by decide) (fun hc2 => ?_) (fun hc2 => ?_)
      · refine g_iload_4 hX (dk DX11_busiest 50 rfl) ?_
        refine g_ireturn hX (dk DX11_busiest 51 rfl) rfl (rfl) (by decide) (by decide) ?_
        have hk0 := ct_end hk (by omega) hc1
        subst hk0
        rcases ht with ⟨rfl, rfl⟩ | ⟨hj, rfl⟩
        · omega
        · exact qA_of (by rw [if_neg (not_not_intro hw), if_neg (not_not_intro hin)]; first | done | rfl | decide)
      · refine g_aload_0 hX (dk DX11_busiest 44 rfl) ?_
        refine g_getRs (r := 1) hX (dk DX11_busiest 45 rfl) KX11 fX11_12 (by decide) rfl (CLt hH (q := 0) (by decide)) (CC hH 0 (by decide) rfl) (CR hH 0 0 1 (by decide)) ?_
        refine g_getIv hX (dk DX11_busiest 46 rfl) KX5 fX11_122 (by decide) rfl (CLt hH (q := 1) (by decide)) (CC hH 1 (by decide) rfl) ((hN.1 1 (by decide) 6)) ?_
        refine g_iload_3 hX (dk DX11_busiest 47 rfl) ?_
        refine g_iadd hX (dk DX11_busiest 48 rfl) ?_
        refine g_goto (tgt := 99) hX (dk DX11_busiest 49 rfl) (by decide) ?_
        refine g_ireturn hX (dk DX11_busiest 51 rfl) rfl (rfl) (by decide) (by decide) ?_
        have hk0 := ct_end hk (by omega) hc1
        subst hk0
        rcases ht with ⟨rfl, rfl⟩ | ⟨hj, rfl⟩
        · omega
        · exact qA_of (by rw [if_neg (not_not_intro hw), if_neg (not_not_intro hin)]; first | done | rfl | decide)
    · obtain ⟨k, rfl⟩ := ct_go hk (by omega) hc1
      refine g_aload_0 hX (dk DX11_busiest 23 rfl) ?_
      refine g_getRs (r := 1) hX (dk DX11_busiest 24 rfl) KX11 fX11_12 (by decide) rfl (CLt hH (q := 0) (by decide)) (CC hH 0 (by decide) rfl) (CR hH 0 0 1 (by decide)) ?_
      refine g_aload_0 hX (dk DX11_busiest 25 rfl) ?_
      refine g_getRs (r := 1) hX (dk DX11_busiest 26 rfl) KX11 fX11_12 (by decide) rfl (CLt hH (q := 0) (by decide)) (CC hH 0 (by decide) rfl) (CR hH 0 0 1 (by decide)) ?_
      refine g_getIv hX (dk DX11_busiest 27 rfl) KX5 fX11_122 (by decide) rfl (CLt hH (q := 1) (by decide)) (CC hH 1 (by decide) rfl) ((hN.1 1 (by decide) 6)) ?_
      refine g_iload_5 hX (dk DX11_busiest 28 rfl) ?_
      refine g_iadd hX (dk DX11_busiest 29 rfl) ?_
      refine g_c2I hX sX11_busiest_53 (by decide) (Nat.le_of_ble_eq_true rfl) (rc0 rfl (CLt hH (by decide)) (CC hH 1 (by decide) rfl)) (by decide) (by decide) (n_X5_coming hG hH hN hP) ?_
      refine g_c1q hX sX11_busiest_56 (by decide) (Nat.le_of_ble_eq_true rfl) rcN (by decide) (by decide) (c_J6_bitCount_0f7a4 hG) ?_
      rintro x I2 h2 ⟨hx, rfl, rfl⟩
      refine g_nmI 0 (hx 0 (by decide) (by decide)) ?_
      refine g_istore_6 hX (dk DX11_busiest 32 rfl) (by decide) rfl ?_
      refine g_iload_6 hX (dk DX11_busiest 33 rfl) ?_
      refine g_iload_4 hX (dk DX11_busiest 34 rfl) ?_
      refine g_icmp_le (tgt := 75) hX (dk DX11_busiest 35 rfl) (by decide) (fun hc3 => ?_) (fun hc3 => ?_)
      · refine g_iinc_5 hX (dk DX11_busiest 40 rfl) (nI_1 j) (by decide) rfl ?_
        refine g_goto (tgt := 33) hX (dk DX11_busiest 41 rfl) (by decide) ?_
        rcases ht with ⟨rfl, rfl⟩ | ⟨hj, rfl⟩
        · first
          | exact g_fgt (ih k (by omega) (0 + 1) 0 (by omega) (Or.inr ⟨by omega, rfl⟩)) ⟨rfl, rfl, rfl, rfl, rfl, rfl, trivial⟩
          | exact absurd ‹(0 : Int32) ≤ -1› (by decide)
        · first
          | exact g_fgt (ih k (by omega) (j + 1) 0 (by omega) (Or.inr ⟨by omega, rfl⟩)) ⟨rfl, rfl, rfl, rfl, rfl, rfl, trivial⟩
          | exact absurd (Int32.le_refl 0) ‹¬ (0 : Int32) ≤ 0›
      · refine g_iload_6 hX (dk DX11_busiest 36 rfl) ?_
        refine g_istore_4 hX (dk DX11_busiest 37 rfl) (by decide) rfl ?_
        refine g_iload_5 hX (dk DX11_busiest 38 rfl) ?_
        refine g_istore_3 hX (dk DX11_busiest 39 rfl) (by decide) rfl ?_
        refine g_iinc_5 hX (dk DX11_busiest 40 rfl) (nI_1 j) (by decide) rfl ?_
        refine g_goto (tgt := 33) hX (dk DX11_busiest 41 rfl) (by decide) ?_
        rcases ht with ⟨rfl, rfl⟩ | ⟨hj, rfl⟩
        · first
          | exact g_fgt (ih k (by omega) (0 + 1) 0 (by omega) (Or.inr ⟨by omega, rfl⟩)) ⟨rfl, rfl, rfl, rfl, rfl, rfl, trivial⟩
          | exact absurd ‹(0 : Int32) ≤ -1› (by decide)
        · first
          | exact g_fgt (ih k (by omega) (j + 1) 0 (by omega) (Or.inr ⟨by omega, rfl⟩)) ⟨rfl, rfl, rfl, rfl, rfl, rfl, trivial⟩
          | exact absurd (Int32.le_refl 0) ‹¬ (0 : Int32) ≤ 0›
  refine g_iload_2 hX (dk DX11_busiest 0 rfl) ?_
  refine g_iconst (v := 0) hX (dk DX11_busiest 1 rfl) (by decide) ?_
  refine g_iconst (v := 1) hX (dk DX11_busiest 2 rfl) (by decide) ?_
  refine g_c3I hX sX11_busiest_3 (by decide) (Nat.le_of_ble_eq_true rfl) rcN (by decide) (by decide) (c_X11_isNot hG ) ?_
  refine g_ifb_eq (tgt := 11) hX (dk DX11_busiest 4 rfl) (by decide) (fun hc1 => ?_) (fun hc1 => ?_)
  · have hw := Decidable.not_not.mp hc1
    refine g_iload_1 hX (dk DX11_busiest 7 rfl) ?_
    refine g_iconst (v := 1) hX (dk DX11_busiest 8 rfl) (by decide) ?_
    refine g_sipush (v := 200) hX (dk DX11_busiest 9 rfl) (by decide) ?_
    refine g_c3I hX sX11_busiest_16 (by decide) (Nat.le_of_ble_eq_true rfl) rcN (by decide) (by decide) (c_X11_isNot hG ) ?_
    refine g_ifb_eq (tgt := 25) hX (dk DX11_busiest 11 rfl) (by decide) (fun hc2 => ?_) (fun hc2 => ?_)
    · obtain ⟨m, hm1, hm, rfl⟩ := in1_of (c := 1) (b := 200) (by decide) (by decide) (Decidable.not_not.mp hc2)
      refine g_iconst (v := 0) hX (dk DX11_busiest 14 rfl) (by decide) ?_
      refine g_istore_3 hX (dk DX11_busiest 15 rfl) (by decide) rfl ?_
      refine g_iconst (v := -1) hX (dk DX11_busiest 16 rfl) (by decide) ?_
      refine g_istore_4 hX (dk DX11_busiest 17 rfl) (by decide) rfl ?_
      refine g_iconst (v := 0) hX (dk DX11_busiest 18 rfl) (by decide) ?_
      refine g_istore_5 hX (dk DX11_busiest 19 rfl) (by decide) rfl ?_
      exact loop33 hw m hm1 hm rfl m 0 (-1) (Nat.zero_add _) (Or.inl ⟨rfl, rfl⟩)
    · refine g_bipush (v := -2) hX (dk DX11_busiest 12 rfl) (by decide) ?_
      refine g_ireturn hX (dk DX11_busiest 13 rfl) rfl (rfl) (by decide) (by decide) ?_
      exact qA_of (by (try first | rw [if_pos hc1] | rw [if_neg hc1] | rw [if_neg (not_not_intro hc1)]); (try first | rw [if_pos hc2] | rw [if_neg hc2] | rw [if_neg (not_not_intro hc2)]); first | done | rfl)
  · refine g_iconst (v := -1) hX (dk DX11_busiest 5 rfl) (by decide) ?_
    refine g_ireturn hX (dk DX11_busiest 6 rfl) rfl (rfl) (by decide) (by decide) ?_
    exact qA_of (by (try first | rw [if_pos hc1] | rw [if_neg hc1] | rw [if_neg (not_not_intro hc1)]); first | done | rfl)

