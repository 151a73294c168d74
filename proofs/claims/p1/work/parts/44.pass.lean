set_option maxRecDepth 8000 in
set_option maxHeartbeats 4000000 in
theorem n_X0_pass {G : Gt} (hG : Gok G) {I : It} {h : Ht} (hH : HX h) (hN : NX I) (hP : NRF h) {a b : Int32} {m : Nat} (hm : m ≤ 200) (hsp : I 13 1 = nI m) (hz : ∀ z, z < m → I 14 z = 0) : Con G 4 0 0 mX0_pass [.ref 13, .int a, .int b] I h (qI (fun x I2 h2 => x = 0 ∧ NX I2 ∧ h2 = h ∧ I2 13 1 = nI m ∧ (∀ z, z < m → I2 14 z = 0) ∧ I2 13 9 = a ∧ I2 13 10 = 0 ∧ I2 13 11 = 0 ∧ I2 13 12 = -5 ∧ I2 13 13 = -5 ∧ ∀ a, a ≠ 13 → a ≠ 27 → I2 a = I a)) := by
  refine con_intro (own := RX0) (lo0 := [some (.ref 13), some (.int a), some (.int b), none]) hG rfl pl_X0 (Nat.le_of_ble_eq_true rfl) rfl (fun X hX => ?_)
  have loop39 : ∀ (k n : Nat) (J : It), NX J → J 13 1 = nI m → (∀ z, z < m → J 14 z = 0) → J 13 6 = b → J 13 7 = 0 → J 13 9 = a → J 13 10 = 0 → J 13 11 = 0 → J 13 12 = -5 → J 13 13 = -5 → (∀ a, a ≠ 13 → a ≠ 27 → J a = I a) → n + k = m → GG G 4 0 0 X (qI (fun x I2 h2 => x = 0 ∧ NX I2 ∧ h2 = h ∧ I2 13 1 = nI m ∧ (∀ z, z < m → I2 14 z = 0) ∧ I2 13 9 = a ∧ I2 13 10 = 0 ∧ I2 13 11 = 0 ∧ I2 13 12 = -5 ∧ I2 13 13 = -5 ∧ ∀ a, a ≠ 13 → a ≠ 27 → I2 a = I a)) 39 [some (.ref 13), some (.int a), some (.int b), some (.int (nI n))] [] (J) (h) 0 0 := by
    intro k
    induction k using Nat.strongRecOn with | _ k ih => ?_
    intro n J hN h1 hz h6 h7 h9 h10 h11 h12 h13 hfr hk
    refine g_iload_3 hX (dk DX0_pass_0 23 rfl) ?_
    refine g_aload_0 hX (dk DX0_pass_0 24 rfl) ?_
    refine g_getIv hX (dk DX0_pass_0 25 rfl) KX0 fX0_47 (by decide) rfl (CLt hH (q := 13) (by decide)) (CC hH 13 (by decide) rfl) (h1) ?_
    refine g_icmp_ge (tgt := 135) hX (dk DX0_pass_0 26 rfl) (by decide) (fun hc1 => ?_) (fun hc1 => ?_)
    · refine g_aload_0 hX (dk DX0_pass_1 19 rfl) ?_
      refine g_getIv hX (dk DX0_pass_1 20 rfl) KX0 fX0_117 (by decide) rfl (CLt hH (q := 13) (by decide)) (CC hH 13 (by decide) rfl) (h7) ?_
      refine g_ireturn hX (dk DX0_pass_1 21 rfl) rfl (rfl) (by decide) (by decide) ?_
      exact qI_of ⟨rfl, hN, rfl, h1, hz, h9, h10, h11, h12, h13, hfr⟩
    · obtain ⟨k, rfl⟩ := ct_go hk (by omega) hc1
      refine g_aload_0 hX (dk DX0_pass_0 27 rfl) ?_
      refine g_getRs (r := 27) hX (dk DX0_pass_0 28 rfl) KX0 fX0_25 (by decide) rfl (CLt hH (q := 13) (by decide)) (CC hH 13 (by decide) rfl) (CR hH 13 5 27 (by decide)) ?_
      refine g_iload_3 hX (dk DX0_pass_0 29 rfl) ?_
      refine g_aload_0 hX (dk DX0_pass_0 30 rfl) ?_
      refine g_getRs (r := 14) hX (dk DX0_pass_0 31 rfl) KX0 fX0_9 (by decide) rfl (CLt hH (q := 13) (by decide)) (CC hH 13 (by decide) rfl) (CR hH 13 2 14 (by decide)) ?_
      refine g_iload_3 hX (dk DX0_pass_0 32 rfl) ?_
      refine v_iaload hX (dk DX0_pass_0 33 rfl) (CLt hH (q := 14) (by decide)) (CS hH 14 (by decide) rfl) (⟨rfl, by omega, by decide⟩) (hz n (by omega)) ?_
      refine g_aload_0 hX (dk DX0_pass_0 34 rfl) ?_
      refine g_getI hX (dk DX0_pass_0 35 rfl) KX0 fX0_114 (by decide) rfl (CLt hH (q := 13) (by decide)) (CC hH 13 (by decide) rfl) ?_
      refine g_iconst (v := -1) hX (dk DX0_pass_0 36 rfl) (by decide) ?_
      refine g_ixor hX (dk DX0_pass_0 37 rfl) ?_
      refine g_iand hX (dk DX0_pass_0 38 rfl) ?_
      refine g_aload_0 hX (dk DX0_pass_0 39 rfl) ?_
      refine g_getI hX (dk DX0_pass_0 40 rfl) KX0 fX0_111 (by decide) rfl (CLt hH (q := 13) (by decide)) (CC hH 13 (by decide) rfl) ?_
      refine g_iconst (v := -1) hX (dk DX0_pass_0 41 rfl) (by decide) ?_
      refine g_ixor hX (dk DX0_pass_0 42 rfl) ?_
      refine g_iand hX (dk DX0_pass_0 43 rfl) ?_
      refine i_iastore hX (dk DX0_pass_0 44 rfl) (CLt hH (q := 27) (by decide)) (CS hH 27 (by decide) rfl) (⟨rfl, by omega, by decide⟩) ?_
      refine g_aload_0 hX (dk DX0_pass_0 45 rfl) ?_
      refine g_getRs (r := 27) hX (dk DX0_pass_0 46 rfl) KX0 fX0_25 (by decide) rfl (CLt hH (q := 13) (by decide)) (CC hH 13 (by decide) rfl) (CR hH 13 5 27 (by decide)) ?_
      refine g_iload_3 hX (dk DX0_pass_0 47 rfl) ?_
      refine v_iaload hX (dk DX0_pass_0 48 rfl) (CLt hH (q := 27) (by decide)) (CS hH 27 (by decide) rfl) (⟨rfl, by omega, by decide⟩) (up0 _ _ _ _) ?_
      refine g_if_eq (tgt := 101) hX (dk DX0_pass_0 49 rfl) (by decide) (fun hc2 => ?_) (fun hc2 => absurd (by simp) hc2)
      refine g_aload_0 hX (dk DX0_pass_1 1 rfl) ?_
      refine g_dup hX (dk DX0_pass_1 2 rfl) rfl ?_
      refine g_getIv hX (dk DX0_pass_1 3 rfl) KX0 fX0_117 (by decide) rfl (CLt hH (q := 13) (by decide)) (CC hH 13 (by decide) rfl) (h7) ?_
      refine g_aload_0 hX (dk DX0_pass_1 4 rfl) ?_
      refine g_getRs (r := 14) hX (dk DX0_pass_1 5 rfl) KX0 fX0_9 (by decide) rfl (CLt hH (q := 13) (by decide)) (CC hH 13 (by decide) rfl) (CR hH 13 2 14 (by decide)) ?_
      refine g_iload_3 hX (dk DX0_pass_1 6 rfl) ?_
      refine v_iaload hX (dk DX0_pass_1 7 rfl) (CLt hH (q := 14) (by decide)) (CS hH 14 (by decide) rfl) (⟨rfl, by omega, by decide⟩) (hz n (by omega)) ?_
      refine g_aload_0 hX (dk DX0_pass_1 8 rfl) ?_
      refine g_getI hX (dk DX0_pass_1 9 rfl) KX0 fX0_114 (by decide) rfl (CLt hH (q := 13) (by decide)) (CC hH 13 (by decide) rfl) ?_
      refine g_iand hX (dk DX0_pass_1 10 rfl) ?_
      refine g_aload_0 hX (dk DX0_pass_1 11 rfl) ?_
      refine g_getI hX (dk DX0_pass_1 12 rfl) KX0 fX0_111 (by decide) rfl (CLt hH (q := 13) (by decide)) (CC hH 13 (by decide) rfl) ?_
      refine g_iand hX (dk DX0_pass_1 13 rfl) ?_
      refine g_c1q hX sX0_pass_122 (by decide) (Nat.le_of_ble_eq_true rfl) rcN (by decide) (by decide) (c_J6_bitCount_0f7a4 hG) ?_
      rintro x I2 h2 ⟨hx, rfl, rfl⟩
      refine g_nmI 0 (hx 0 (by decide) (show _ = (0 : Int32) by simp)) ?_
      refine g_iadd hX (dk DX0_pass_1 15 rfl) ?_
      refine g_putI hX (dk DX0_pass_1 16 rfl) KX0 fX0_117 (by decide) rfl (CLt hH (q := 13) (by decide)) (CC hH 13 (by decide) rfl) (Or.inl rfl) (rfl) (rfl) ?_
      refine g_iinc_3 hX (dk DX0_pass_1 17 rfl) (nI_1 n) (by decide) rfl ?_
      refine g_goto (tgt := 39) hX (dk DX0_pass_1 18 rfl) (by decide) ?_
      exact ih k (by omega) (n + 1) _ (NX.sc (NX.sc hN rfl rfl) rfl rfl) h1 hz h6 ((up0 _ _ _ _).trans (by decide)) h9 h10 h11 h12 h13 (fun a z1 z2 => by simp only [upI_off z1, upI_off z2]; exact hfr a z1 z2) (by omega)
  refine g_aload_0 hX (dk DX0_pass_0 0 rfl) ?_
  refine g_iload_1 hX (dk DX0_pass_0 1 rfl) ?_
  refine g_putI hX (dk DX0_pass_0 2 rfl) KX0 fX0_111 (by decide) rfl (CLt hH (q := 13) (by decide)) (CC hH 13 (by decide) rfl) (Or.inl rfl) (rfl) (rfl) ?_
  refine g_aload_0 hX (dk DX0_pass_0 3 rfl) ?_
  refine g_iload_2 hX (dk DX0_pass_0 4 rfl) ?_
  refine g_putI hX (dk DX0_pass_0 5 rfl) KX0 fX0_114 (by decide) rfl (CLt hH (q := 13) (by decide)) (CC hH 13 (by decide) rfl) (Or.inl rfl) (rfl) (rfl) ?_
  refine g_aload_0 hX (dk DX0_pass_0 6 rfl) ?_
  refine g_iconst (v := 0) hX (dk DX0_pass_0 7 rfl) (by decide) ?_
  refine g_putI hX (dk DX0_pass_0 8 rfl) KX0 fX0_117 (by decide) rfl (CLt hH (q := 13) (by decide)) (CC hH 13 (by decide) rfl) (Or.inl rfl) (rfl) (rfl) ?_
  refine g_aload_0 hX (dk DX0_pass_0 9 rfl) ?_
  refine g_iconst (v := 0) hX (dk DX0_pass_0 10 rfl) (by decide) ?_
  refine g_putI hX (dk DX0_pass_0 11 rfl) KX0 fX0_120 (by decide) rfl (CLt hH (q := 13) (by decide)) (CC hH 13 (by decide) rfl) (Or.inl rfl) (rfl) (rfl) ?_
  refine g_aload_0 hX (dk DX0_pass_0 12 rfl) ?_
  refine g_iconst (v := 0) hX (dk DX0_pass_0 13 rfl) (by decide) ?_
  refine g_putI hX (dk DX0_pass_0 14 rfl) KX0 fX0_123 (by decide) rfl (CLt hH (q := 13) (by decide)) (CC hH 13 (by decide) rfl) (Or.inl rfl) (rfl) (rfl) ?_
  refine g_aload_0 hX (dk DX0_pass_0 15 rfl) ?_
  refine g_bipush (v := -5) hX (dk DX0_pass_0 16 rfl) (by decide) ?_
  refine g_putI hX (dk DX0_pass_0 17 rfl) KX0 fX0_126 (by decide) rfl (CLt hH (q := 13) (by decide)) (CC hH 13 (by decide) rfl) (Or.inl rfl) (rfl) (rfl) ?_
  refine g_aload_0 hX (dk DX0_pass_0 18 rfl) ?_
  refine g_bipush (v := -5) hX (dk DX0_pass_0 19 rfl) (by decide) ?_
  refine g_putI hX (dk DX0_pass_0 20 rfl) KX0 fX0_129 (by decide) rfl (CLt hH (q := 13) (by decide)) (CC hH 13 (by decide) rfl) (Or.inl rfl) (rfl) (rfl) ?_
  refine g_iconst (v := 0) hX (dk DX0_pass_0 21 rfl) (by decide) ?_
  refine g_istore_3 hX (dk DX0_pass_0 22 rfl) (by decide) rfl ?_
  exact loop39 m 0 _ (NX.sc (NX.sc (NX.sc (NX.sc (NX.sc (NX.sc (NX.sc hN rfl rfl) rfl rfl) rfl rfl) rfl rfl) rfl rfl) rfl rfl) rfl rfl) hsp hz rfl rfl rfl rfl rfl rfl rfl (fun a h1 _ => by simp only [upI_off h1]) (Nat.zero_add _)

