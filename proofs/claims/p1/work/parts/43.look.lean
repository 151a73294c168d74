set_option maxRecDepth 8000 in
set_option maxHeartbeats 4000000 in
theorem n_X0_look {G : Gt} (hG : Gok G) {I : It} {h : Ht} (hH : HX h) (hN : NX I) (hP : NRF h) {m : Nat} (hm : m ≤ 200) : Con G 5 0 0 mX0_look [.ref 13, .int (nI m)] I h (qV (fun I2 h2 => NX I2 ∧ h2 = h ∧ I2 13 1 = nI m ∧ ∀ z, z < m → I2 14 z = 0)) := by
  refine con_intro (own := RX0) (lo0 := [some (.ref 13), some (.int (nI m)), none]) hG rfl pl_X0 (Nat.le_of_ble_eq_true rfl) rfl (fun X hX => ?_)
  have loop25 : ∀ (k n : Nat) (J : It), NX J → J 13 1 = nI m → n + k = m → (∀ z, z < n → J 14 z = 0) → GG G 5 0 0 X (qV (fun I2 h2 => NX I2 ∧ h2 = h ∧ I2 13 1 = nI m ∧ ∀ z, z < m → I2 14 z = 0)) 25 [some (.ref 13), some (.int (nI m)), some (.int (nI n))] [] (J) (h) 0 0 := by
    intro k
    induction k using Nat.strongRecOn with | _ k ih => ?_
    intro n J hN hsp hk hz
    refine g_iload_2 hX (dk DX0_look 13 rfl) ?_
    refine g_aload_0 hX (dk DX0_look 14 rfl) ?_
    refine g_getIv hX (dk DX0_look 15 rfl) KX0 fX0_47 (by decide) rfl (CLt hH (q := 13) (by decide)) (CC hH 13 (by decide) rfl) (hsp) ?_
    refine g_icmp_ge (tgt := 80) hX (dk DX0_look 16 rfl) (by decide) (fun hc1 => ?_) (fun hc1 => ?_)
    · refine g_return hX (dk DX0_look 42 rfl) rfl (by decide) (by decide) ?_
      have hk0 := ct_end hk (by omega) hc1
      subst hk0
      exact qV_of ⟨hN, rfl, hsp, fun z hz2 => hz z (by omega)⟩
    · obtain ⟨k, rfl⟩ := ct_go hk (by omega) hc1
      refine g_aload_0 hX (dk DX0_look 17 rfl) ?_
      refine g_getRs (r := 14) hX (dk DX0_look 18 rfl) KX0 fX0_9 (by decide) rfl (CLt hH (q := 13) (by decide)) (CC hH 13 (by decide) rfl) (CR hH 13 2 14 (by decide)) ?_
      refine g_iload_2 hX (dk DX0_look 19 rfl) ?_
      refine g_aload_0 hX (dk DX0_look 20 rfl) ?_
      refine g_getRs (r := 1) hX (dk DX0_look 21 rfl) KX0 fX0_34 (by decide) rfl (CLt hH (q := 13) (by decide)) (CC hH 13 (by decide) rfl) (CR hH 13 0 1 (by decide)) ?_
      refine g_aload_0 hX (dk DX0_look 22 rfl) ?_
      refine g_getRs (r := 1) hX (dk DX0_look 23 rfl) KX0 fX0_34 (by decide) rfl (CLt hH (q := 13) (by decide)) (CC hH 13 (by decide) rfl) (CR hH 13 0 1 (by decide)) ?_
      refine g_getIv hX (dk DX0_look 24 rfl) KX5 fX0_57 (by decide) rfl (CLt hH (q := 1) (by decide)) (CC hH 1 (by decide) rfl) ((hN.1 1 (by decide) 6)) ?_
      refine g_iload_2 hX (dk DX0_look 25 rfl) ?_
      refine g_iadd hX (dk DX0_look 26 rfl) ?_
      refine g_c2I hX sX0_look_51 (by decide) (Nat.le_of_ble_eq_true rfl) (rc0 rfl (CLt hH (by decide)) (CC hH 1 (by decide) rfl)) (by decide) (by decide) (n_X5_coming hG hH hN hP) ?_
      refine i_iastore hX (dk DX0_look 28 rfl) (CLt hH (q := 14) (by decide)) (CS hH 14 (by decide) rfl) (⟨rfl, by omega, by decide⟩) ?_
      refine g_aload_0 hX (dk DX0_look 29 rfl) ?_
      refine g_aload_0 hX (dk DX0_look 30 rfl) ?_
      refine g_getRs (r := 14) hX (dk DX0_look 31 rfl) KX0 fX0_9 (by decide) rfl (CLt hH (q := 13) (by decide)) (CC hH 13 (by decide) rfl) (CR hH 13 2 14 (by decide)) ?_
      refine g_iload_2 hX (dk DX0_look 32 rfl) ?_
      refine v_iaload hX (dk DX0_look 33 rfl) (CLt hH (q := 14) (by decide)) (CS hH 14 (by decide) rfl) (⟨rfl, by omega, by decide⟩) (up0 _ _ _ _) ?_
      refine g_aload_0 hX (dk DX0_look 34 rfl) ?_
      refine g_getRs (r := 1) hX (dk DX0_look 35 rfl) KX0 fX0_34 (by decide) rfl (CLt hH (q := 13) (by decide)) (CC hH 13 (by decide) rfl) (CR hH 13 0 1 (by decide)) ?_
      refine g_getIv hX (dk DX0_look 36 rfl) KX5 fX0_57 (by decide) rfl (CLt hH (q := 1) (by decide)) (CC hH 1 (by decide) rfl) ((hN.1 1 (by decide) 6)) ?_
      refine g_iload_2 hX (dk DX0_look 37 rfl) ?_
      refine g_iadd hX (dk DX0_look 38 rfl) ?_
      refine g_c3V hX sX0_look_71 (by decide) (Nat.le_of_ble_eq_true rfl) (rc0 rfl (CLt hH (by decide)) (CC hH 13 (by decide) rfl)) (by decide) (by decide) (n_X0_lookDear hG hH (NX.sc hN rfl rfl) hP) ?_
      refine g_iinc_2 hX (dk DX0_look 40 rfl) (nI_1 n) (by decide) rfl ?_
      refine g_goto (tgt := 25) hX (dk DX0_look 41 rfl) (by decide) ?_
      exact ih k (by omega) (n + 1) _ (NX.sc hN rfl rfl) (by rw [upn (by omega)]; exact hsp) (by omega) (fun z hz2 => by
        by_cases e : z = n
        · subst e; rw [up0]
        · rw [upn (by omega)]; exact hz z (by omega))
  refine g_aload_0 hX (dk DX0_look 0 rfl) ?_
  refine g_iconst (v := 0) hX (dk DX0_look 1 rfl) (by decide) ?_
  refine g_iload_1 hX (dk DX0_look 2 rfl) ?_
  refine g_sipush (v := 200) hX (dk DX0_look 3 rfl) (by decide) ?_
  refine g_c2I hX sX0_look_6 (by decide) (Nat.le_of_ble_eq_true rfl) rcN (by decide) (by decide) (c_J9_min_7cf53 hG) ?_
  refine g_nmI (nI m) (mn200 hm) ?_
  refine g_c2I hX sX0_look_9 (by decide) (Nat.le_of_ble_eq_true rfl) rcN (by decide) (by decide) (c_J9_max_7cf53 hG) ?_
  refine g_nmI (nI m) (mx0 (by omega)) ?_
  refine g_putI hX (dk DX0_look 6 rfl) KX0 fX0_47 (by decide) rfl (CLt hH (q := 13) (by decide)) (CC hH 13 (by decide) rfl) (Or.inl rfl) (rfl) (rfl) ?_
  refine g_aload_0 hX (dk DX0_look 7 rfl) ?_
  refine g_getRs (r := 15) hX (dk DX0_look 8 rfl) KX0 fX0_17 (by decide) rfl (CLt hH (q := 13) (by decide)) (CC hH 13 (by decide) rfl) (CR hH 13 3 15 (by decide)) ?_
  refine g_iconst (v := -1) hX (dk DX0_look 9 rfl) (by decide) ?_
  refine g_c2v hX sX0_look_20 (by decide) (Nat.le_of_ble_eq_true rfl) rcN (by decide) (by decide) (c_J7_fill_53178 hG (len := 600) (CLt hH (q := 15) (by decide)) (CS hH 15 (by decide) rfl) (by decide)) ?_
  rintro J2 _ ⟨hf1, hf2, hf3, rfl⟩
  have hN2 : NX J2 := NX.kp (NX.sc hN rfl rfl) hf3 rfl rfl
  have hsp : J2 13 1 = nI m := by rw [hf3 13 (by decide), up0]
  refine g_iconst (v := 0) hX (dk DX0_look 11 rfl) (by decide) ?_
  refine g_istore_2 hX (dk DX0_look 12 rfl) (by decide) rfl ?_
  exact loop25 m 0 J2 hN2 hsp (Nat.zero_add _) (fun z hz => absurd hz (Nat.not_lt_zero z))

