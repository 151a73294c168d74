set_option maxRecDepth 8000 in
set_option maxHeartbeats 4000000 in
theorem c_X5_add {G : Gt} (hG : Gok G) {I : It} {h : Ht}  (hH : HX h) {v n : Nat} (hn1 : I 1 2 = nI n) (hn10 : n < 10) (hv : v < hn h) (hvd : isDC (hs h v).1) : Con G (2) 0 0 mX5_add [.ref 1, .ref v] I h (qI (fun x I2 h2 => x = nI n ∧ I2 = upI (upI I 3 n 5) 1 2 (nI (n + 1)) ∧ h2 = wR h 2 n (some v))) := by
  refine con_intro (own := RX5) (lo0 := [some (.ref 1), some (.ref v)]) hG rfl pl_X5 (Nat.le_of_ble_eq_true rfl) rfl (fun X hX => ?_)
  refine g_aload_0 hX (dk DX5_add 0 rfl) ?_
  refine g_getIv hX (dk DX5_add 1 rfl) KX5 fX5_36 (by decide) rfl (CLt hH (q := 1) (by decide)) (CC hH 1 (by decide) rfl) (hn1) ?_
  refine g_bipush (v := 10) hX (dk DX5_add 2 rfl) (by decide) ?_
  refine g_icmp_lt (tgt := 12) hX (dk DX5_add 3 rfl) (by decide) (fun hc1 => ?_) (fun hc1 => absurd (show nI n < nI 10 from nI_lt hn10 (by decide)) hc1)
  refine g_aload_0 hX (dk DX5_add 6 rfl) ?_
  refine g_getRs (r := 2) hX (dk DX5_add 7 rfl) KX5 fX5_11 (by decide) rfl (CLt hH (q := 1) (by decide)) (CC hH 1 (by decide) rfl) (CR hH 1 0 2 (by decide)) ?_
  refine g_aload_0 hX (dk DX5_add 8 rfl) ?_
  refine g_getIv hX (dk DX5_add 9 rfl) KX5 fX5_36 (by decide) rfl (CLt hH (q := 1) (by decide)) (CC hH 1 (by decide) rfl) (hn1) ?_
  refine g_aload_1 hX (dk DX5_add 10 rfl) ?_
  refine g_aastoreD (r := some v) (j := n) hX (dk DX5_add 11 rfl) (CLt hH (q := 2) (by decide)) (CS hH 2 (by decide) rfl) (⟨rfl, hn10, by decide⟩) (fun z e => by cases e; exact ⟨hv, hvd⟩) ?_
  refine g_aload_0 hX (dk DX5_add 12 rfl) ?_
  refine g_getRs (r := 3) hX (dk DX5_add 13 rfl) KX5 fX5_17 (by decide) rfl (CLt hH (q := 1) (by decide)) (CC hH 1 (by decide) rfl) (CR hH 1 1 3 (by decide)) ?_
  refine g_aload_0 hX (dk DX5_add 14 rfl) ?_
  refine g_getIv hX (dk DX5_add 15 rfl) KX5 fX5_36 (by decide) rfl (CLt hH (q := 1) (by decide)) (CC hH 1 (by decide) rfl) (hn1) ?_
  refine g_iconst (v := 5) hX (dk DX5_add 16 rfl) (by decide) ?_
  refine i_iastore hX (dk DX5_add 17 rfl) (CLt hH (q := 3) (by decide)) (CS hH 3 (by decide) rfl) (⟨rfl, hn10, by decide⟩) ?_
  refine g_aload_0 hX (dk DX5_add 18 rfl) ?_
  refine g_dup hX (dk DX5_add 19 rfl) rfl ?_
  refine g_getIv hX (dk DX5_add 20 rfl) KX5 fX5_36 (by decide) rfl (CLt hH (q := 1) (by decide)) (CC hH 1 (by decide) rfl) ((show _ = nI n from hn1)) ?_
  refine g_iconst (v := 1) hX (dk DX5_add 21 rfl) (by decide) ?_
  refine g_iadd hX (dk DX5_add 22 rfl) ?_
  refine g_putI hX (dk DX5_add 23 rfl) KX5 fX5_36 (by decide) rfl (CLt hH (q := 1) (by decide)) (CC hH 1 (by decide) rfl) (Or.inl rfl) (rfl) (rfl) ?_
  refine g_aload_0 hX (dk DX5_add 24 rfl) ?_
  refine g_getIv hX (dk DX5_add 25 rfl) KX5 fX5_36 (by decide) rfl (CLt hH (q := 1) (by decide)) (CC hH 1 (by decide) rfl) ((up0 _ _ _ _).trans (nI_1 n)) ?_
  refine g_iconst (v := 1) hX (dk DX5_add 26 rfl) (by decide) ?_
  refine g_isub hX (dk DX5_add 27 rfl) ?_
  refine g_ireturn hX (dk DX5_add 28 rfl) rfl (rfl) (by decide) (by decide) ?_
  exact qI_of ⟨nI_pred n, by rw [nI_1], rfl⟩

