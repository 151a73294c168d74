set_option maxRecDepth 8000 in
set_option maxHeartbeats 4000000 in
theorem c_X5_find {G : Gt} (hG : Gok G) {I : It} {h : Ht}  (hW : WX I h) {d : Nat} (hd : d < cN I) : Con G (1) 0 0 mX5_find [.ref 1, .int (nI d)] I h (rR (some (dn h d)) I h) := by
  refine con_intro (own := RX5) (lo0 := [some (.ref 1), some (.int (nI d))]) hG rfl pl_X5 (Nat.le_of_ble_eq_true rfl) rfl (fun X hX => ?_)
  have hH := hW.1
  have hc10 := hW.2.1.2
  refine g_iload_1 hX (dk DX5_find 0 rfl) ?_
  refine g_if_lt (tgt := 18) hX (dk DX5_find 1 rfl) (by decide) (fun hc1 => absurd hc1 (nI_pos (by omega))) (fun hc1 => ?_)
  refine g_iload_1 hX (dk DX5_find 2 rfl) ?_
  refine g_aload_0 hX (dk DX5_find 3 rfl) ?_
  refine g_getIv hX (dk DX5_find 4 rfl) KX5 fX5_36 (by decide) rfl (CLt hH (q := 1) (by decide)) (CC hH 1 (by decide) rfl) (hW.2.1.1) ?_
  refine g_icmp_ge (tgt := 18) hX (dk DX5_find 5 rfl) (by decide) (fun hc2 => absurd hc2 (Int32.not_le.mpr (nI_lt hd (by omega)))) (fun hc2 => ?_)
  refine g_iload_1 hX (dk DX5_find 6 rfl) ?_
  refine g_bipush (v := 10) hX (dk DX5_find 7 rfl) (by decide) ?_
  refine g_icmp_lt (tgt := 22) hX (dk DX5_find 8 rfl) (by decide) (fun hc3 => ?_) (fun hc3 => absurd (show nI d < nI 10 from nI_lt (by omega) (by decide)) hc3)
  refine g_aload_0 hX (dk DX5_find 11 rfl) ?_
  refine g_getRs (r := 2) hX (dk DX5_find 12 rfl) KX5 fX5_11 (by decide) rfl (CLt hH (q := 1) (by decide)) (CC hH 1 (by decide) rfl) (CR hH 1 0 2 (by decide)) ?_
  refine g_iload_1 hX (dk DX5_find 13 rfl) ?_
  refine i_aaload (i0 := 4) hX (dk DX5_find 14 rfl) (CLt hH (q := 2) (by decide)) (CS hH 2 (by decide) rfl) (by decide) rfl rfl (⟨rfl, by omega, by decide⟩) ((hW.2.2.1 d hd).1) ?_
  refine g_areturn (r := some (dn h d)) hX (dk DX5_find 15 rfl) rfl rfl (Or.inl ⟨_, rfl⟩) (by decide) (by decide) ?_
  exact rR_of rfl rfl rfl

set_option maxRecDepth 8000 in
set_option maxHeartbeats 4000000 in
theorem c_X5_find0 {G : Gt} (hG : Gok G) {I : It} {h : Ht}  (hW : WX I h) {a : Int32} (hno : ¬ (0 ≤ a ∧ a < I 1 2)) : Con G (1) 0 0 mX5_find [.ref 1, .int a] I h (rR none I h) := by
  refine con_intro (own := RX5) (lo0 := [some (.ref 1), some (.int a)]) hG rfl pl_X5 (Nat.le_of_ble_eq_true rfl) rfl (fun X hX => ?_)
  have hH := hW.1
  have hc10 := hW.2.1.2
  refine g_iload_1 hX (dk DX5_find 0 rfl) ?_
  refine g_if_lt (tgt := 18) hX (dk DX5_find 1 rfl) (by decide) (fun hc1 => ?_) (fun hc1 => ?_)
  · refine g_aconst_null hX (dk DX5_find 9 rfl) ?_
    refine g_goto (tgt := 28) hX (dk DX5_find 10 rfl) (by decide) ?_
    refine g_areturn (r := none) hX (dk DX5_find 15 rfl) rfl rfl (Or.inl ⟨_, rfl⟩) (by decide) (by decide) ?_
    exact rR_of rfl rfl rfl
  · refine g_iload_1 hX (dk DX5_find 2 rfl) ?_
    refine g_aload_0 hX (dk DX5_find 3 rfl) ?_
    refine g_getI hX (dk DX5_find 4 rfl) KX5 fX5_36 (by decide) rfl (CLt hH (q := 1) (by decide)) (CC hH 1 (by decide) rfl) ?_
    refine g_icmp_ge (tgt := 18) hX (dk DX5_find 5 rfl) (by decide) (fun hc2 => ?_) (fun hc2 => absurd (⟨Int32.not_lt.mp hc1, Int32.not_le.mp hc2⟩ : 0 ≤ a ∧ a < I 1 2) hno)
    refine g_aconst_null hX (dk DX5_find 9 rfl) ?_
    refine g_goto (tgt := 28) hX (dk DX5_find 10 rfl) (by decide) ?_
    refine g_areturn (r := none) hX (dk DX5_find 15 rfl) rfl rfl (Or.inl ⟨_, rfl⟩) (by decide) (by decide) ?_
    exact rR_of rfl rfl rfl

set_option maxRecDepth 8000 in
set_option maxHeartbeats 4000000 in
theorem c_X5_coming {G : Gt} (hG : Gok G) {I : It} {h : Ht}  (hW : WX I h) {w : Int32} : Con G (4) 0 0 mX5_coming [.ref 1, .int w] I h (rI (cmF I h w) I h) := by
  refine con_intro (own := RX5) (lo0 := [some (.ref 1), some (.int w), none, none, none]) hG rfl pl_X5 (Nat.le_of_ble_eq_true rfl) rfl (fun X hX => ?_)
  have hH := hW.1
  have hc10 := hW.2.1.2
  have loop4 : ∀ (k d : Nat) (b : Int32), d + k = cN I → cmR I h w k d b = cmF I h w → GG G (4) 0 0 X (rI (cmF I h w) I h) 4 [some (.ref 1), some (.int w), some (.int b), some (.int (nI d)), none] [] (I) (h) 0 0 := by
    intro k
    induction k using Nat.strongRecOn with | _ k ih => ?_
    intro d b hk hv
    refine g_iload_3 hX (dk DX5_coming 4 rfl) ?_
    refine g_aload_0 hX (dk DX5_coming 5 rfl) ?_
    refine g_getIv hX (dk DX5_coming 6 rfl) KX5 fX5_36 (by decide) rfl (CLt hH (q := 1) (by decide)) (CC hH 1 (by decide) rfl) (hW.2.1.1) ?_
    refine g_icmp_ge (tgt := 45) hX (dk DX5_coming 7 rfl) (by decide) (fun hc1 => ?_) (fun hc1 => ?_)
    · refine g_iload_2 hX (dk DX5_coming 26 rfl) ?_
      refine g_ireturn hX (dk DX5_coming 27 rfl) rfl (rfl) (by decide) (by decide) ?_
      have hk0 := cl_end hk (by omega) hc1
      subst hk0
      exact rI_of hv rfl rfl
    · obtain ⟨k, rfl⟩ := cl_go hk (by omega) hc1
      obtain ⟨g1, g2, g3, g4, g5, g6⟩ := hW.2.2.1 d (by omega)
      refine g_aload_0 hX (dk DX5_coming 8 rfl) ?_
      refine g_iload_3 hX (dk DX5_coming 9 rfl) ?_
      refine g_c2R hX sX5_coming_14 (by decide) (Nat.le_of_ble_eq_true rfl) (rc0 rfl (CLt hH (by decide)) (CC hH 1 (by decide) rfl)) (by decide) (by decide) (c_X5_find hG hW (by omega)) ?_
      refine g_astore_4 hX (dk DX5_coming 11 rfl) (by decide) rfl ?_
      refine g_aload_4 hX (dk DX5_coming 12 rfl) ?_
      refine g_ifnullR hX (dk DX5_coming 13 rfl) ?_
      refine g_aload_4 hX (dk DX5_coming 14 rfl) ?_
      refine g_iload_1 hX (dk DX5_coming 15 rfl) ?_
      refine g_c2I hX (sD_X5_coming_27 _ g4) (by decide) (Nat.le_of_ble_eq_true rfl) (rc0 rfl g3 rfl) (by decide) (by decide) (cD_weeksUntil hG g3 g4 g6) ?_
      refine g_if_ne (tgt := 39) hX (dk DX5_coming 17 rfl) (by decide) (fun hc2 => ?_) (fun hc2 => ?_)
      · refine g_iinc_3 hX (dk DX5_coming 24 rfl) (nI_1 d) (by decide) rfl ?_
        refine g_goto (tgt := 4) hX (dk DX5_coming 25 rfl) (by decide) ?_
        exact g_fgt (ih k (by omega) (d + 1) _ (by omega) (by rw [← hv, cmR_s]; unfold wuF; (try first | rw [if_pos hc1] | rw [if_neg hc1] | rw [if_neg (not_not_intro hc1)]); (try first | rw [if_pos hc2] | rw [if_neg hc2] | rw [if_neg (not_not_intro hc2)]); first | done | rfl)) ⟨rfl, rfl, rfl, rfl, trivial⟩
      · refine g_iload_2 hX (dk DX5_coming 18 rfl) ?_
        refine g_iconst (v := 1) hX (dk DX5_coming 19 rfl) (by decide) ?_
        refine g_iload_3 hX (dk DX5_coming 20 rfl) ?_
        refine g_ishl hX (dk DX5_coming 21 rfl) ?_
        refine g_ior hX (dk DX5_coming 22 rfl) ?_
        refine g_istore_2 hX (dk DX5_coming 23 rfl) (by decide) rfl ?_
        refine g_iinc_3 hX (dk DX5_coming 24 rfl) (nI_1 d) (by decide) rfl ?_
        refine g_goto (tgt := 4) hX (dk DX5_coming 25 rfl) (by decide) ?_
        exact g_fgt (ih k (by omega) (d + 1) _ (by omega) (by rw [← hv, cmR_s]; unfold wuF; (try first | rw [if_pos hc1] | rw [if_neg hc1] | rw [if_neg (not_not_intro hc1)]); (try first | rw [if_pos hc2] | rw [if_neg hc2] | rw [if_neg (not_not_intro hc2)]); first | done | rfl)) ⟨rfl, rfl, rfl, rfl, trivial⟩
  refine g_iconst (v := 0) hX (dk DX5_coming 0 rfl) (by decide) ?_
  refine g_istore_2 hX (dk DX5_coming 1 rfl) (by decide) rfl ?_
  refine g_iconst (v := 0) hX (dk DX5_coming 2 rfl) (by decide) ?_
  refine g_istore_3 hX (dk DX5_coming 3 rfl) (by decide) rfl ?_
  exact g_fgt (loop4 (cN I) 0 0 (Nat.zero_add _) rfl) ⟨rfl, rfl, rfl, rfl, trivial⟩

set_option maxRecDepth 8000 in
set_option maxHeartbeats 4000000 in
theorem c_X5_longestWait {G : Gt} (hG : Gok G) {I : It} {h : Ht}  (hW : WX I h) {s w : Int32} : Con G (4) 0 0 mX5_longestWait [.ref 1, .int s, .int w] I h (rI (lwR I h s w (cN I) 0 0) I h) := by
  refine con_intro (own := RX5) (lo0 := [some (.ref 1), some (.int s), some (.int w), none, none, none]) hG rfl pl_X5 (Nat.le_of_ble_eq_true rfl) rfl (fun X hX => ?_)
  have hH := hW.1
  have hc10 := hW.2.1.2
  have loop5 : ∀ (k d : Nat) (z : Int32), d + k = cN I → lwR I h s w k d z = lwR I h s w (cN I) 0 0 → GG G (4) 0 0 X (rI (lwR I h s w (cN I) 0 0) I h) 5 [some (.ref 1), some (.int s), some (.int w), some (.int z), some (.int (nI d)), none] [] (I) (h) 0 0 := by
    intro k
    induction k using Nat.strongRecOn with | _ k ih => ?_
    intro d z hk hv
    refine g_iload_4 hX (dk DX5_longestWait 4 rfl) ?_
    refine g_aload_0 hX (dk DX5_longestWait 5 rfl) ?_
    refine g_getIv hX (dk DX5_longestWait 6 rfl) KX5 fX5_36 (by decide) rfl (CLt hH (q := 1) (by decide)) (CC hH 1 (by decide) rfl) (hW.2.1.1) ?_
    refine g_icmp_ge (tgt := 53) hX (dk DX5_longestWait 7 rfl) (by decide) (fun hc1 => ?_) (fun hc1 => ?_)
    · refine g_iload_3 hX (dk DX5_longestWait 26 rfl) ?_
      refine g_ireturn hX (dk DX5_longestWait 27 rfl) rfl (rfl) (by decide) (by decide) ?_
      have hk0 := cl_end hk (by omega) hc1
      subst hk0
      exact rI_of hv rfl rfl
    · obtain ⟨k, rfl⟩ := cl_go hk (by omega) hc1
      obtain ⟨g1, g2, g3, g4, g5, g6⟩ := hW.2.2.1 d (by omega)
      refine g_aload_0 hX (dk DX5_longestWait 8 rfl) ?_
      refine g_iload_4 hX (dk DX5_longestWait 9 rfl) ?_
      refine g_c2R hX sX5_longestWait_17 (by decide) (Nat.le_of_ble_eq_true rfl) (rc0 rfl (CLt hH (by decide)) (CC hH 1 (by decide) rfl)) (by decide) (by decide) (c_X5_find hG hW (by omega)) ?_
      refine g_astore_5 hX (dk DX5_longestWait 11 rfl) (by decide) rfl ?_
      refine g_aload_5 hX (dk DX5_longestWait 12 rfl) ?_
      refine g_ifnullR hX (dk DX5_longestWait 13 rfl) ?_
      refine g_iload_1 hX (dk DX5_longestWait 14 rfl) ?_
      refine g_iload_4 hX (dk DX5_longestWait 15 rfl) ?_
      refine g_c2I hX sX5_longestWait_30 (by decide) (Nat.le_of_ble_eq_true rfl) rcN (by decide) (by decide) (c_X11_bit hG) ?_
      refine g_if_eq (tgt := 47) hX (dk DX5_longestWait 17 rfl) (by decide) (fun hc2 => ?_) (fun hc2 => ?_)
      · refine g_iinc_4 hX (dk DX5_longestWait 24 rfl) (nI_1 d) (by decide) rfl ?_
        refine g_goto (tgt := 5) hX (dk DX5_longestWait 25 rfl) (by decide) ?_
        exact g_fgt (ih k (by omega) (d + 1) _ (by omega) (by rw [← hv, lwR_s]; unfold wuF; (try first | rw [if_pos hc1] | rw [if_neg hc1] | rw [if_neg (not_not_intro hc1)]); (try first | rw [if_pos hc2] | rw [if_neg hc2] | rw [if_neg (not_not_intro hc2)]); first | done | rfl)) ⟨rfl, rfl, rfl, rfl, rfl, trivial⟩
      · refine g_iload_3 hX (dk DX5_longestWait 18 rfl) ?_
        refine g_aload_5 hX (dk DX5_longestWait 19 rfl) ?_
        refine g_iload_2 hX (dk DX5_longestWait 20 rfl) ?_
        refine g_c2I hX (sD_X5_longestWait_40 _ g4) (by decide) (Nat.le_of_ble_eq_true rfl) (rc0 rfl g3 rfl) (by decide) (by decide) (cD_weeksUntil hG g3 g4 g6) ?_
        refine g_c2I hX sX5_longestWait_43 (by decide) (Nat.le_of_ble_eq_true rfl) rcN (by decide) (by decide) (c_J9_max_7cf53 hG) ?_
        refine g_istore_3 hX (dk DX5_longestWait 23 rfl) (by decide) rfl ?_
        refine g_iinc_4 hX (dk DX5_longestWait 24 rfl) (nI_1 d) (by decide) rfl ?_
        refine g_goto (tgt := 5) hX (dk DX5_longestWait 25 rfl) (by decide) ?_
        exact g_fgt (ih k (by omega) (d + 1) _ (by omega) (by rw [← hv, lwR_s]; unfold wuF; (try first | rw [if_pos hc1] | rw [if_neg hc1] | rw [if_neg (not_not_intro hc1)]); (try first | rw [if_pos hc2] | rw [if_neg hc2] | rw [if_neg (not_not_intro hc2)]); first | done | rfl)) ⟨rfl, rfl, rfl, rfl, rfl, trivial⟩
  refine g_iconst (v := 0) hX (dk DX5_longestWait 0 rfl) (by decide) ?_
  refine g_istore_3 hX (dk DX5_longestWait 1 rfl) (by decide) rfl ?_
  refine g_iconst (v := 0) hX (dk DX5_longestWait 2 rfl) (by decide) ?_
  refine g_istore_4 hX (dk DX5_longestWait 3 rfl) (by decide) rfl ?_
  exact g_fgt (loop5 (cN I) 0 0 (Nat.zero_add _) rfl) ⟨rfl, rfl, rfl, rfl, rfl, trivial⟩

set_option maxRecDepth 8000 in
set_option maxHeartbeats 4000000 in
theorem c_X5_everyDoing {G : Gt} (hG : Gok G) {I : It} {h : Ht}  (hW : WX I h)  : Con G (1) 0 0 mX5_everyDoing [.ref 1] I h (rI (bitI (I 1 2) - 1) I h) := by
  refine con_intro (own := RX5) (lo0 := [some (.ref 1)]) hG rfl pl_X5 (Nat.le_of_ble_eq_true rfl) rfl (fun X hX => ?_)
  have hH := hW.1
  have hc10 := hW.2.1.2
  refine g_iconst (v := 1) hX (dk DX5_everyDoing 0 rfl) (by decide) ?_
  refine g_aload_0 hX (dk DX5_everyDoing 1 rfl) ?_
  refine g_getI hX (dk DX5_everyDoing 2 rfl) KX5 fX5_36 (by decide) rfl (CLt hH (q := 1) (by decide)) (CC hH 1 (by decide) rfl) ?_
  refine g_ishl hX (dk DX5_everyDoing 3 rfl) ?_
  refine g_iconst (v := 1) hX (dk DX5_everyDoing 4 rfl) (by decide) ?_
  refine g_isub hX (dk DX5_everyDoing 5 rfl) ?_
  refine g_ireturn hX (dk DX5_everyDoing 6 rfl) rfl (rfl) (by decide) (by decide) ?_
  exact rI_of rfl rfl rfl

set_option maxRecDepth 8000 in
set_option maxHeartbeats 4000000 in
theorem c_X5_addRow {G : Gt} (hG : Gok G) {I : It} {h : Ht}  (hW : WX I h) {w a : Int32} {r : Nat} (hr : I 1 12 = nI r) (hr12 : r < 12) : Con G (1) 0 0 mX5_addRow [.ref 1, .int w, .int a] I h (rI (nI (r + 1)) (upI (upI (upI I 5 r w) 6 r a) 1 12 (nI (r + 1))) h) := by
  refine con_intro (own := RX5) (lo0 := [some (.ref 1), some (.int w), some (.int a)]) hG rfl pl_X5 (Nat.le_of_ble_eq_true rfl) rfl (fun X hX => ?_)
  have hH := hW.1
  have hc10 := hW.2.1.2
  refine g_aload_0 hX (dk DX5_addRow 0 rfl) ?_
  refine g_getIv hX (dk DX5_addRow 1 rfl) KX5 fX5_58 (by decide) rfl (CLt hH (q := 1) (by decide)) (CC hH 1 (by decide) rfl) (hr) ?_
  refine g_bipush (v := 12) hX (dk DX5_addRow 2 rfl) (by decide) ?_
  refine g_icmp_lt (tgt := 12) hX (dk DX5_addRow 3 rfl) (by decide) (fun hc1 => ?_) (fun hc1 => absurd (show nI r < nI 12 from nI_lt hr12 (by decide)) hc1)
  refine g_aload_0 hX (dk DX5_addRow 6 rfl) ?_
  refine g_getRs (r := 5) hX (dk DX5_addRow 7 rfl) KX5 fX5_24 (by decide) rfl (CLt hH (q := 1) (by decide)) (CC hH 1 (by decide) rfl) (CR hH 1 10 5 (by decide)) ?_
  refine g_aload_0 hX (dk DX5_addRow 8 rfl) ?_
  refine g_getIv hX (dk DX5_addRow 9 rfl) KX5 fX5_58 (by decide) rfl (CLt hH (q := 1) (by decide)) (CC hH 1 (by decide) rfl) (hr) ?_
  refine g_iload_1 hX (dk DX5_addRow 10 rfl) ?_
  refine i_iastore hX (dk DX5_addRow 11 rfl) (CLt hH (q := 5) (by decide)) (CS hH 5 (by decide) rfl) (⟨rfl, hr12, by decide⟩) ?_
  refine g_aload_0 hX (dk DX5_addRow 12 rfl) ?_
  refine g_getRs (r := 6) hX (dk DX5_addRow 13 rfl) KX5 fX5_27 (by decide) rfl (CLt hH (q := 1) (by decide)) (CC hH 1 (by decide) rfl) (CR hH 1 11 6 (by decide)) ?_
  refine g_aload_0 hX (dk DX5_addRow 14 rfl) ?_
  refine g_getIv hX (dk DX5_addRow 15 rfl) KX5 fX5_58 (by decide) rfl (CLt hH (q := 1) (by decide)) (CC hH 1 (by decide) rfl) ((show _ = nI r from hr)) ?_
  refine g_iload_2 hX (dk DX5_addRow 16 rfl) ?_
  refine i_iastore hX (dk DX5_addRow 17 rfl) (CLt hH (q := 6) (by decide)) (CS hH 6 (by decide) rfl) (⟨rfl, hr12, by decide⟩) ?_
  refine g_aload_0 hX (dk DX5_addRow 18 rfl) ?_
  refine g_dup hX (dk DX5_addRow 19 rfl) rfl ?_
  refine g_getIv hX (dk DX5_addRow 20 rfl) KX5 fX5_58 (by decide) rfl (CLt hH (q := 1) (by decide)) (CC hH 1 (by decide) rfl) ((show _ = nI r from hr)) ?_
  refine g_iconst (v := 1) hX (dk DX5_addRow 21 rfl) (by decide) ?_
  refine g_iadd hX (dk DX5_addRow 22 rfl) ?_
  refine g_putI hX (dk DX5_addRow 23 rfl) KX5 fX5_58 (by decide) rfl (CLt hH (q := 1) (by decide)) (CC hH 1 (by decide) rfl) (Or.inl rfl) (rfl) (rfl) ?_
  refine g_aload_0 hX (dk DX5_addRow 24 rfl) ?_
  refine g_getIv hX (dk DX5_addRow 25 rfl) KX5 fX5_58 (by decide) rfl (CLt hH (q := 1) (by decide)) (CC hH 1 (by decide) rfl) ((up0 _ _ _ _).trans (nI_1 r)) ?_
  refine g_ireturn hX (dk DX5_addRow 26 rfl) rfl (rfl) (by decide) (by decide) ?_
  exact rI_of rfl (by rw [nI_1]) rfl

set_option maxRecDepth 8000 in
set_option maxHeartbeats 4000000 in
theorem c_X5_weeksToRows {G : Gt} (hG : Gok G) {I : It} {h : Ht}  (hW : WX I h)  : Con G (3) 0 0 mX5_weeksToRows [.ref 1] I h (qI (fun _ I2 h2 => I2 = I ∧ h2 = h)) := by
  refine con_intro (own := RX5) (lo0 := [some (.ref 1), none, none]) hG rfl pl_X5 (Nat.le_of_ble_eq_true rfl) rfl (fun X hX => ?_)
  have hH := hW.1
  have hc10 := hW.2.1.2
  have loop4 : ∀ r, r ≤ 12 → I 1 12 = nI r → ∀ (k d : Nat) (z : Int32), d + k = r → GG G (3) 0 0 X (qI (fun _ I2 h2 => I2 = I ∧ h2 = h)) 4 [some (.ref 1), some (.int z), some (.int (nI d))] [] (I) (h) 0 0 := by
    intro r hr12 hr k
    induction k using Nat.strongRecOn with | _ k ih => ?_
    intro d z hk
    refine g_iload_2 hX (dk DX5_weeksToRows 4 rfl) ?_
    refine g_aload_0 hX (dk DX5_weeksToRows 5 rfl) ?_
    refine g_getIv hX (dk DX5_weeksToRows 6 rfl) KX5 fX5_58 (by decide) rfl (CLt hH (q := 1) (by decide)) (CC hH 1 (by decide) rfl) (hr) ?_
    refine g_icmp_ge (tgt := 36) hX (dk DX5_weeksToRows 7 rfl) (by decide) (fun hc1 => ?_) (fun hc1 => ?_)
    · refine g_iload_1 hX (dk DX5_weeksToRows 22 rfl) ?_
      refine g_bipush (v := 100) hX (dk DX5_weeksToRows 23 rfl) (by decide) ?_
      refine g_c2I hX sX5_weeksToRows_39 (by decide) (Nat.le_of_ble_eq_true rfl) rcN (by decide) (by decide) (c_J9_min_7cf53 hG) ?_
      refine g_ireturn hX (dk DX5_weeksToRows 25 rfl) rfl (rfl) (by decide) (by decide) ?_
      exact qI_of ⟨rfl, rfl⟩
    · obtain ⟨k, rfl⟩ := cl_go hk (by omega) hc1
      refine g_iload_1 hX (dk DX5_weeksToRows 8 rfl) ?_
      refine g_aload_0 hX (dk DX5_weeksToRows 9 rfl) ?_
      refine g_getRs (r := 5) hX (dk DX5_weeksToRows 10 rfl) KX5 fX5_24 (by decide) rfl (CLt hH (q := 1) (by decide)) (CC hH 1 (by decide) rfl) (CR hH 1 10 5 (by decide)) ?_
      refine g_iload_2 hX (dk DX5_weeksToRows 11 rfl) ?_
      refine i_iaload hX (dk DX5_weeksToRows 12 rfl) (CLt hH (q := 5) (by decide)) (CS hH 5 (by decide) rfl) (⟨rfl, by omega, by decide⟩) ?_
      refine g_aload_0 hX (dk DX5_weeksToRows 13 rfl) ?_
      refine g_getI hX (dk DX5_weeksToRows 14 rfl) KX5 fX5_46 (by decide) rfl (CLt hH (q := 1) (by decide)) (CC hH 1 (by decide) rfl) ?_
      refine g_isub hX (dk DX5_weeksToRows 15 rfl) ?_
      refine g_iconst (v := 1) hX (dk DX5_weeksToRows 16 rfl) (by decide) ?_
      refine g_iadd hX (dk DX5_weeksToRows 17 rfl) ?_
      refine g_c2I hX sX5_weeksToRows_26 (by decide) (Nat.le_of_ble_eq_true rfl) rcN (by decide) (by decide) (c_J9_max_7cf53 hG) ?_
      refine g_istore_1 hX (dk DX5_weeksToRows 19 rfl) (by decide) rfl ?_
      refine g_iinc_2 hX (dk DX5_weeksToRows 20 rfl) (nI_1 d) (by decide) rfl ?_
      refine g_goto (tgt := 4) hX (dk DX5_weeksToRows 21 rfl) (by decide) ?_
      exact g_fgt (ih k (by omega) (d + 1) _ (by omega)) ⟨rfl, rfl, rfl, trivial⟩
  refine g_iconst (v := 0) hX (dk DX5_weeksToRows 0 rfl) (by decide) ?_
  refine g_istore_1 hX (dk DX5_weeksToRows 1 rfl) (by decide) rfl ?_
  refine g_iconst (v := 0) hX (dk DX5_weeksToRows 2 rfl) (by decide) ?_
  refine g_istore_2 hX (dk DX5_weeksToRows 3 rfl) (by decide) rfl ?_
  obtain ⟨r, hr12, hr⟩ := hW.2.2.2.2.2
  exact g_fgt (loop4 r hr12 hr r 0 0 (Nat.zero_add _)) ⟨rfl, rfl, rfl, trivial⟩

