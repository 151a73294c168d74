set_option maxRecDepth 8000 in
set_option maxHeartbeats 4000000 in
theorem n_X0_bestOf {G : Gt} (hG : Gok G) {I : It} {h : Ht} (hH : HX h) (hN : NX I) (hP : NRF h) {a z : Int32} : Con G 5 0 0 mX0_bestOf [.ref 13, .int a, .int z] I h (rI (-5) I h) := by
  refine con_intro (own := RX0) (lo0 := [some (.ref 13), some (.int a), some (.int z), none, none, none, none, none]) hG rfl pl_X0 (Nat.le_of_ble_eq_true rfl) rfl (fun X hX => ?_)
  refine g_bipush (v := -5) hX (dk DX0_bestOf 0 rfl) (by decide) ?_
  refine g_istore_3 hX (dk DX0_bestOf 1 rfl) (by decide) rfl ?_
  refine g_ldc (v := 2147483647) hX (dk DX0_bestOf 2 rfl) (tg_3 231 rfl rfl) ?_
  refine g_istore_4 hX (dk DX0_bestOf 3 rfl) (by decide) rfl ?_
  refine g_iconst (v := 0) hX (dk DX0_bestOf 4 rfl) (by decide) ?_
  refine g_istore_5 hX (dk DX0_bestOf 5 rfl) (by decide) rfl ?_
  refine g_iload_5 hX (dk DX0_bestOf 6 rfl) ?_
  refine g_aload_0 hX (dk DX0_bestOf 7 rfl) ?_
  refine g_getRs (r := 1) hX (dk DX0_bestOf 8 rfl) KX0 fX0_34 (by decide) rfl (CLt hH (q := 13) (by decide)) (CC hH 13 (by decide) rfl) (CR hH 13 0 1 (by decide)) ?_
  refine g_getIv hX (dk DX0_bestOf 9 rfl) KX5 fX0_69 (by decide) rfl (CLt hH (q := 1) (by decide)) (CC hH 1 (by decide) rfl) ((hN.1 1 (by decide) 2)) ?_
  refine g_icmp_ge (tgt := 108) hX (dk DX0_bestOf 10 rfl) (by decide) (fun hc1 => ?_) (fun hc1 => absurd (by decide) hc1)
  refine g_iload_3 hX (dk DX0_bestOf 52 rfl) ?_
  refine g_ireturn hX (dk DX0_bestOf 53 rfl) rfl (rfl) (by decide) (by decide) ?_
  exact rI_of rfl rfl rfl

set_option maxRecDepth 8000 in
set_option maxHeartbeats 4000000 in
theorem n_X0_costHanded {G : Gt} (hG : Gok G) {I : It} {h : Ht} (hH : HX h) (hN : NX I) (hP : NRF h) {q m : Nat} (hm : m ≤ 200) (hsp : I 13 1 = nI m) (hz : ∀ z, z < m → I 14 z = 0) : Con G 5 0 0 mX0_costHanded [.ref 13, .ref q] I h (qI (fun x I2 h2 => x = 0 ∧ NX I2 ∧ h2 = h ∧ I2 13 1 = nI m ∧ (∀ z, z < m → I2 14 z = 0) ∧ ∀ a, a ≠ 13 → a ≠ 27 → I2 a = I a)) := by
  refine con_intro (own := RX0) (lo0 := [some (.ref 13), some (.ref q)]) hG rfl pl_X0 (Nat.le_of_ble_eq_true rfl) rfl (fun X hX => ?_)
  refine g_aload_0 hX (dk DX0_costHanded 0 rfl) ?_
  refine g_aload_0 hX (dk DX0_costHanded 1 rfl) ?_
  refine g_getRs (r := 1) hX (dk DX0_costHanded 2 rfl) KX0 fX0_34 (by decide) rfl (CLt hH (q := 13) (by decide)) (CC hH 13 (by decide) rfl) (CR hH 13 0 1 (by decide)) ?_
  refine g_getIv hX (dk DX0_costHanded 3 rfl) KX5 fX0_161 (by decide) rfl (CLt hH (q := 1) (by decide)) (CC hH 1 (by decide) rfl) ((hN.1 1 (by decide) 3)) ?_
  refine g_aload_0 hX (dk DX0_costHanded 4 rfl) ?_
  refine g_aload_1 hX (dk DX0_costHanded 5 rfl) ?_
  refine g_c2I hX sX0_costHanded_10 (by decide) (Nat.le_of_ble_eq_true rfl) (rc0 rfl (CLt hH (by decide)) (CC hH 13 (by decide) rfl)) (by decide) (by decide) (n_X0_goingOver hG hH hN hP) ?_
  refine g_ior hX (dk DX0_costHanded 7 rfl) ?_
  refine g_aload_0 hX (dk DX0_costHanded 8 rfl) ?_
  refine g_getRs (r := 1) hX (dk DX0_costHanded 9 rfl) KX0 fX0_34 (by decide) rfl (CLt hH (q := 13) (by decide)) (CC hH 13 (by decide) rfl) (CR hH 13 0 1 (by decide)) ?_
  refine g_getIv hX (dk DX0_costHanded 10 rfl) KX5 fX0_166 (by decide) rfl (CLt hH (q := 1) (by decide)) (CC hH 1 (by decide) rfl) ((hN.1 1 (by decide) 4)) ?_
  refine g_c3q hX sX0_costHanded_21 (by decide) (Nat.le_of_ble_eq_true rfl) (rc0 rfl (CLt hH (by decide)) (CC hH 13 (by decide) rfl)) (by decide) (by decide) (n_X0_pass hG hH hN hP (by omega) hsp hz) ?_
  rintro _ J3 _ ⟨rfl, hN, rfl, hsp, hz, h9, h10, h11, h12, h13, hfrp⟩
  refine g_ireturn hX (dk DX0_costHanded 12 rfl) rfl (rfl) (by decide) (by decide) ?_
  exact qI_of ⟨rfl, hN, rfl, hsp, hz, hfrp⟩

set_option maxRecDepth 8000 in
set_option maxHeartbeats 4000000 in
theorem n_X0_hourMore {G : Gt} (hG : Gok G) {I : It} {h : Ht} (hH : HX h) (hN : NX I) (hP : NRF h) {y : Int32} : Con G 3 0 0 mX0_hourMore [.ref 13, .int y] I h (fun r I2 h2 => r = some (.ref 28) ∧ (∀ a, a ≠ 28 → I2 a = I a) ∧ h2 = h) := by
  refine con_intro (own := RX0) (lo0 := [some (.ref 13), some (.int y), none]) hG rfl pl_X0 (Nat.le_of_ble_eq_true rfl) rfl (fun X hX => ?_)
  have loop2 : ∀ (k n : Nat) (J : It), n + k = 4 → NX J → (∀ a, a ≠ 28 → J a = I a) → GG G 3 0 0 X (fun r I2 h2 => r = some (.ref 28) ∧ (∀ a, a ≠ 28 → I2 a = I a) ∧ h2 = h) 2 [some (.ref 13), some (.int y), some (.int (nI n))] [] (J) (h) 0 0 := by
    intro k
    induction k using Nat.strongRecOn with | _ k ih => ?_
    intro n J hk hN hf
    refine g_iload_2 hX (dk DX0_hourMore 2 rfl) ?_
    refine g_iconst (v := 4) hX (dk DX0_hourMore 3 rfl) (by decide) ?_
    refine g_icmp_ge (tgt := 39) hX (dk DX0_hourMore 4 rfl) (by decide) (fun hc1 => ?_) (fun hc1 => ?_)
    · refine g_aload_0 hX (dk DX0_hourMore 23 rfl) ?_
      refine g_getRs (r := 28) hX (dk DX0_hourMore 24 rfl) KX0 fX0_28 (by decide) rfl (CLt hH (q := 13) (by decide)) (CC hH 13 (by decide) rfl) (CR hH 13 14 28 (by decide)) ?_
      refine g_areturn (r := some 28) hX (dk DX0_hourMore 25 rfl) rfl rfl (Or.inr ⟨_, rfl⟩) (by decide) (by decide) ?_
      exact ⟨rfl, hf, rfl⟩
    · obtain ⟨k, rfl⟩ := cl_go (e := 4) hk (by decide) hc1
      refine g_aload_0 hX (dk DX0_hourMore 5 rfl) ?_
      refine g_getRs (r := 28) hX (dk DX0_hourMore 6 rfl) KX0 fX0_28 (by decide) rfl (CLt hH (q := 13) (by decide)) (CC hH 13 (by decide) rfl) (CR hH 13 14 28 (by decide)) ?_
      refine g_iload_2 hX (dk DX0_hourMore 7 rfl) ?_
      refine g_aload_0 hX (dk DX0_hourMore 8 rfl) ?_
      refine g_getRs (r := 1) hX (dk DX0_hourMore 9 rfl) KX0 fX0_34 (by decide) rfl (CLt hH (q := 13) (by decide)) (CC hH 13 (by decide) rfl) (CR hH 13 0 1 (by decide)) ?_
      refine g_getRs (r := 4) hX (dk DX0_hourMore 10 rfl) KX5 fX0_101 (by decide) rfl (CLt hH (q := 1) (by decide)) (CC hH 1 (by decide) rfl) (CR hH 1 5 4 (by decide)) ?_
      refine g_iload_2 hX (dk DX0_hourMore 11 rfl) ?_
      refine v_iaload hX (dk DX0_hourMore 12 rfl) (CLt hH (q := 4) (by decide)) (CS hH 4 (by decide) rfl) (⟨rfl, by omega, by decide⟩) ((hN.1 4 (by decide) _)) ?_
      refine g_iload_2 hX (dk DX0_hourMore 13 rfl) ?_
      refine g_iload_1 hX (dk DX0_hourMore 14 rfl) ?_
      refine g_icmp_ne (tgt := 30) hX (dk DX0_hourMore 15 rfl) (by decide) (fun hc2 => ?_) (fun hc2 => ?_)
      · refine g_iconst (v := 0) hX (dk DX0_hourMore 18 rfl) (by decide) ?_
        refine g_iadd hX (dk DX0_hourMore 19 rfl) ?_
        refine i_iastore hX (dk DX0_hourMore 20 rfl) (CLt hH (q := 28) (by decide)) (CS hH 28 (by decide) rfl) (⟨rfl, by omega, by decide⟩) ?_
        refine g_iinc_2 hX (dk DX0_hourMore 21 rfl) (nI_1 n) (by decide) rfl ?_
        refine g_goto (tgt := 2) hX (dk DX0_hourMore 22 rfl) (by decide) ?_
        exact ih k (by omega) (n + 1) _ (by omega) (NX.sc hN rfl rfl) (fun a ha => by rw [upI_off ha]; exact hf a ha)
      · refine g_iconst (v := 1) hX (dk DX0_hourMore 16 rfl) (by decide) ?_
        refine g_goto (tgt := 31) hX (dk DX0_hourMore 17 rfl) (by decide) ?_
        refine g_iadd hX (dk DX0_hourMore 19 rfl) ?_
        refine i_iastore hX (dk DX0_hourMore 20 rfl) (CLt hH (q := 28) (by decide)) (CS hH 28 (by decide) rfl) (⟨rfl, by omega, by decide⟩) ?_
        refine g_iinc_2 hX (dk DX0_hourMore 21 rfl) (nI_1 n) (by decide) rfl ?_
        refine g_goto (tgt := 2) hX (dk DX0_hourMore 22 rfl) (by decide) ?_
        exact ih k (by omega) (n + 1) _ (by omega) (NX.sc hN rfl rfl) (fun a ha => by rw [upI_off ha]; exact hf a ha)
  refine g_iconst (v := 0) hX (dk DX0_hourMore 0 rfl) (by decide) ?_
  refine g_istore_2 hX (dk DX0_hourMore 1 rfl) (by decide) rfl ?_
  exact loop2 4 0 I (Nat.zero_add _) hN (fun a ha => rfl)

set_option maxRecDepth 8000 in
set_option maxHeartbeats 4000000 in
theorem n_ask {G : Gt} (hG : Gok G) {I : It} {h : Ht} (hH : HX h) (hN : NX I) (hP : NRF h) {n : Int32} : Con G 6 0 0 mX11_ask [.ref 0, .int n] I h (qA (if ¬ (0 ≤ n ∧ n ≤ 60) then -2 else -5)) := by
  refine con_intro (own := RX11) (lo0 := [some (.ref 0), some (.int n)]) hG rfl pl_X11 (Nat.le_of_ble_eq_true rfl) rfl (fun X hX => ?_)
  refine g_iload_1 hX (dk DX11_ask 0 rfl) ?_
  refine g_iconst (v := 0) hX (dk DX11_ask 1 rfl) (by decide) ?_
  refine g_bipush (v := 60) hX (dk DX11_ask 2 rfl) (by decide) ?_
  refine g_c3I hX sX11_ask_4 (by decide) (Nat.le_of_ble_eq_true rfl) rcN (by decide) (by decide) (c_X11_isNot hG ) ?_
  refine g_ifb_eq (tgt := 13) hX (dk DX11_ask 4 rfl) (by decide) (fun hc1 => ?_) (fun hc1 => ?_)
  · obtain ⟨m, hm, rfl⟩ := in_of (b := 60) (by decide) (Decidable.not_not.mp hc1)
    refine g_aload_0 hX (dk DX11_ask 7 rfl) ?_
    refine g_getRs (r := 13) hX (dk DX11_ask 8 rfl) KX11 fX11_26 (by decide) rfl (CLt hH (q := 0) (by decide)) (CC hH 0 (by decide) rfl) (CR hH 0 3 13 (by decide)) ?_
    refine g_iload_1 hX (dk DX11_ask 9 rfl) ?_
    refine g_c2v hX sX11_ask_18 (by decide) (Nat.le_of_ble_eq_true rfl) (rc0 rfl (CLt hH (by decide)) (CC hH 13 (by decide) rfl)) (by decide) (by decide) (n_X0_look hG hH hN hP (by omega)) ?_
    rintro J2 _ ⟨hN, rfl, hsp, hz⟩
    refine g_aload_0 hX (dk DX11_ask 11 rfl) ?_
    refine g_getRs (r := 13) hX (dk DX11_ask 12 rfl) KX11 fX11_26 (by decide) rfl (CLt hH (q := 0) (by decide)) (CC hH 0 (by decide) rfl) (CR hH 0 3 13 (by decide)) ?_
    refine g_aload_0 hX (dk DX11_ask 13 rfl) ?_
    refine g_getRs (r := 1) hX (dk DX11_ask 14 rfl) KX11 fX11_12 (by decide) rfl (CLt hH (q := 0) (by decide)) (CC hH 0 (by decide) rfl) (CR hH 0 0 1 (by decide)) ?_
    refine g_getIv hX (dk DX11_ask 15 rfl) KX5 fX11_116 (by decide) rfl (CLt hH (q := 1) (by decide)) (CC hH 1 (by decide) rfl) ((hN.1 1 (by decide) 3)) ?_
    refine g_iconst (v := -1) hX (dk DX11_ask 16 rfl) (by decide) ?_
    refine g_ixor hX (dk DX11_ask 17 rfl) ?_
    refine g_iconst (v := 1) hX (dk DX11_ask 18 rfl) (by decide) ?_
    refine g_c3I hX sX11_ask_35 (by decide) (Nat.le_of_ble_eq_true rfl) (rc0 rfl (CLt hH (by decide)) (CC hH 13 (by decide) rfl)) (by decide) (by decide) (n_X0_bestOf hG hH hN hP) ?_
    refine g_ireturn hX (dk DX11_ask 20 rfl) rfl (rfl) (by decide) (by decide) ?_
    exact qA_of (by (try first | rw [if_pos hc1] | rw [if_neg hc1] | rw [if_neg (not_not_intro hc1)]); first | done | rfl)
  · refine g_bipush (v := -2) hX (dk DX11_ask 5 rfl) (by decide) ?_
    refine g_ireturn hX (dk DX11_ask 6 rfl) rfl (rfl) (by decide) (by decide) ?_
    exact qA_of (by (try first | rw [if_pos hc1] | rw [if_neg hc1] | rw [if_neg (not_not_intro hc1)]); first | done | rfl)

set_option maxRecDepth 8000 in
set_option maxHeartbeats 4000000 in
theorem n_drop {G : Gt} (hG : Gok G) {I : It} {h : Ht} (hH : HX h) (hN : NX I) (hP : NRF h) {n : Int32} : Con G 6 0 0 mX11_drop [.ref 0, .int n] I h (qA (if ¬ (0 ≤ n ∧ n ≤ 60) then -2 else -5)) := by
  refine con_intro (own := RX11) (lo0 := [some (.ref 0), some (.int n)]) hG rfl pl_X11 (Nat.le_of_ble_eq_true rfl) rfl (fun X hX => ?_)
  refine g_iload_1 hX (dk DX11_drop 0 rfl) ?_
  refine g_iconst (v := 0) hX (dk DX11_drop 1 rfl) (by decide) ?_
  refine g_bipush (v := 60) hX (dk DX11_drop 2 rfl) (by decide) ?_
  refine g_c3I hX sX11_drop_4 (by decide) (Nat.le_of_ble_eq_true rfl) rcN (by decide) (by decide) (c_X11_isNot hG ) ?_
  refine g_ifb_eq (tgt := 13) hX (dk DX11_drop 4 rfl) (by decide) (fun hc1 => ?_) (fun hc1 => ?_)
  · obtain ⟨m, hm, rfl⟩ := in_of (b := 60) (by decide) (Decidable.not_not.mp hc1)
    refine g_aload_0 hX (dk DX11_drop 7 rfl) ?_
    refine g_getRs (r := 13) hX (dk DX11_drop 8 rfl) KX11 fX11_26 (by decide) rfl (CLt hH (q := 0) (by decide)) (CC hH 0 (by decide) rfl) (CR hH 0 3 13 (by decide)) ?_
    refine g_iload_1 hX (dk DX11_drop 9 rfl) ?_
    refine g_c2v hX sX11_drop_18 (by decide) (Nat.le_of_ble_eq_true rfl) (rc0 rfl (CLt hH (by decide)) (CC hH 13 (by decide) rfl)) (by decide) (by decide) (n_X0_look hG hH hN hP (by omega)) ?_
    rintro J2 _ ⟨hN, rfl, hsp, hz⟩
    refine g_aload_0 hX (dk DX11_drop 11 rfl) ?_
    refine g_getRs (r := 13) hX (dk DX11_drop 12 rfl) KX11 fX11_26 (by decide) rfl (CLt hH (q := 0) (by decide)) (CC hH 0 (by decide) rfl) (CR hH 0 3 13 (by decide)) ?_
    refine g_aload_0 hX (dk DX11_drop 13 rfl) ?_
    refine g_getRs (r := 1) hX (dk DX11_drop 14 rfl) KX11 fX11_12 (by decide) rfl (CLt hH (q := 0) (by decide)) (CC hH 0 (by decide) rfl) (CR hH 0 0 1 (by decide)) ?_
    refine g_getIv hX (dk DX11_drop 15 rfl) KX5 fX11_109 (by decide) rfl (CLt hH (q := 1) (by decide)) (CC hH 1 (by decide) rfl) ((hN.1 1 (by decide) 4)) ?_
    refine g_iconst (v := -1) hX (dk DX11_drop 16 rfl) (by decide) ?_
    refine g_ixor hX (dk DX11_drop 17 rfl) ?_
    refine g_iconst (v := 0) hX (dk DX11_drop 18 rfl) (by decide) ?_
    refine g_c3I hX sX11_drop_35 (by decide) (Nat.le_of_ble_eq_true rfl) (rc0 rfl (CLt hH (by decide)) (CC hH 13 (by decide) rfl)) (by decide) (by decide) (n_X0_bestOf hG hH hN hP) ?_
    refine g_ireturn hX (dk DX11_drop 20 rfl) rfl (rfl) (by decide) (by decide) ?_
    exact qA_of (by (try first | rw [if_pos hc1] | rw [if_neg hc1] | rw [if_neg (not_not_intro hc1)]); first | done | rfl)
  · refine g_bipush (v := -2) hX (dk DX11_drop 5 rfl) (by decide) ?_
    refine g_ireturn hX (dk DX11_drop 6 rfl) rfl (rfl) (by decide) (by decide) ?_
    exact qA_of (by (try first | rw [if_pos hc1] | rw [if_neg hc1] | rw [if_neg (not_not_intro hc1)]); first | done | rfl)

