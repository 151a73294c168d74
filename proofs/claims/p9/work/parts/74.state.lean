section
set_option maxRecDepth 8000 in
set_option maxHeartbeats 4000000 in
theorem c_X5_find {G : Gt} (hG : Gok G) {I : It} {h : Ht}  (hW : WX I h) {d : Nat} (hd : d < cN I) : Con G (1) 0 0 mX5_find [.ref 1, .int (nI d)] I h (rR (some (dn h d)) I h) := by
  refine con_intro (own := RX5) (lo0 := [some (.ref 1), some (.int (nI d))]) hG rfl pl_X5 (Nat.le_of_ble_eq_true rfl) rfl (fun X hX => ?_)
  have hH := hW.1
  have hc10 := hW.2.1.2
  refine g_iload_1 hX (dk DX5_find 0 rfl) ?_
  refine g_if_lt (tgt := 18) hX (dk DX5_find 1 rfl) (by decide) (fun hc1 => absurd hc1 (nI_pos (by omega))) (fun hc1 => ?_)
  refine g_iload_1 hX (dk DX5_find 2 rfl) ?_
  refine g_aload_0 hX (dk DX5_find 3 rfl) ?_
  refine g_getIv hX (dk DX5_find 4 rfl) KX5 fX5_36 (by decide) rfl (CLt hH (q := 1) (by decide)) (CC hH 1 (by decide) rfl) (hW.2.1.1) ?_
  refine g_icmp_ge (tgt := 18) hX (dk DX5_find 5 rfl) (by decide) (fun hc2 => absurd hc2 (Int32.not_le.mpr (nI_lt hd (by omega)))) (fun hc2 => ?_)
  refine g_iload_1 hX (dk DX5_find 6 rfl) ?_
  refine g_bipush (v := 10) hX (dk DX5_find 7 rfl) (by decide) ?_
  refine g_icmp_lt (tgt := 22) hX (dk DX5_find 8 rfl) (by decide) (fun hc3 => ?_) (fun hc3 => absurd (show nI d < nI 10 from nI_lt (by omega) (by decide)) hc3)
  refine g_aload_0 hX (dk DX5_find 11 rfl) ?_
  refine g_getRs (r := 2) hX (dk DX5_find 12 rfl) KX5 fX5_11 (by decide) rfl (CLt hH (q := 1) (by decide)) (CC hH 1 (by decide) rfl) (CR hH 1 0 2 (by decide)) ?_
  refine g_iload_1 hX (dk DX5_find 13 rfl) ?_
  refine i_aaload (i0 := 4) hX (dk DX5_find 14 rfl) (CLt hH (q := 2) (by decide)) (CS hH 2 (by decide) rfl) (by decide) rfl rfl (⟨rfl, by omega, by decide⟩) ((hW.2.2.1 d hd).1) ?_
  refine g_areturn (r := some (dn h d)) hX (dk DX5_find 15 rfl) rfl rfl (Or.inl ⟨_, rfl⟩) (by decide) (by decide) ?_
  exact rR_of rfl rfl rfl

set_option maxRecDepth 8000 in
set_option maxHeartbeats 4000000 in
theorem c_X5_find0 {G : Gt} (hG : Gok G) {I : It} {h : Ht}  (hW : WX I h) {a : Int32} (hno : ¬ (0 ≤ a ∧ a < I 1 2)) : Con G (1) 0 0 mX5_find [.ref 1, .int a] I h (rR none I h) := by
  refine con_intro (own := RX5) (lo0 := [some (.ref 1), some (.int a)]) hG rfl pl_X5 (Nat.le_of_ble_eq_true rfl) rfl (fun X hX => ?_)
  have hH := hW.1
  have hc10 := hW.2.1.2
  refine g_iload_1 hX (dk DX5_find 0 rfl) ?_
  refine g_if_lt (tgt := 18) hX (dk DX5_find 1 rfl) (by decide) (fun hc1 => ?_) (fun hc1 => ?_)
  · refine g_aconst_null hX (dk DX5_find 9 rfl) ?_
    refine g_goto (tgt := 28) hX (dk DX5_find 10 rfl) (by decide) ?_
    refine g_areturn (r := none) hX (dk DX5_find 15 rfl) rfl rfl (Or.inl ⟨_, rfl⟩) (by decide) (by decide) ?_
    exact rR_of rfl rfl rfl
  · refine g_iload_1 hX (dk DX5_find 2 rfl) ?_
    refine g_aload_0 hX (dk DX5_find 3 rfl) ?_
    refine g_getI hX (dk DX5_find 4 rfl) KX5 fX5_36 (by decide) rfl (CLt hH (q := 1) (by decide)) (CC hH 1 (by decide) rfl) ?_
    refine g_icmp_ge (tgt := 18) hX (dk DX5_find 5 rfl) (by decide) (fun hc2 => ?_) (fun hc2 => absurd (⟨Int32.not_lt.mp hc1, Int32.not_le.mp hc2⟩ : 0 ≤ a ∧ a < I 1 2) hno)
    refine g_aconst_null hX (dk DX5_find 9 rfl) ?_
    refine g_goto (tgt := 28) hX (dk DX5_find 10 rfl) (by decide) ?_
    refine g_areturn (r := none) hX (dk DX5_find 15 rfl) rfl rfl (Or.inl ⟨_, rfl⟩) (by decide) (by decide) ?_
    exact rR_of rfl rfl rfl

set_option maxRecDepth 8000 in
set_option maxHeartbeats 4000000 in
theorem c_X5_coming {G : Gt} (hG : Gok G) {I : It} {h : Ht}  (hW : WX I h) {w : Int32} : Con G (4) 0 0 mX5_coming [.ref 1, .int w] I h (rI (cmF I h w) I h) := by
  refine con_intro (own := RX5) (lo0 := [some (.ref 1), some (.int w), none, none, none]) hG rfl pl_X5 (Nat.le_of_ble_eq_true rfl) rfl (fun X hX => ?_)
  have hH := hW.1
  have hc10 := hW.2.1.2
  have loop4 : ∀ (k d : Nat) (b : Int32), d + k = cN I → cmR I h w k d b = cmF I h w → GG G (4) 0 0 X (rI (cmF I h w) I h) 4 [some (.ref 1), some (.int w), some (.int b), some (.int (nI d)), none] [] (I) (h) 0 0 := by
    intro k
    induction k using Nat.strongRecOn with | _ k ih => ?_
    intro d b hk hv
    refine g_iload_3 hX (dk DX5_coming 4 rfl) ?_
    refine g_aload_0 hX (dk DX5_coming 5 rfl) ?_
    refine g_getIv hX (dk DX5_coming 6 rfl) KX5 fX5_36 (by decide) rfl (CLt hH (q := 1) (by decide)) (CC hH 1 (by decide) rfl) (hW.2.1.1) ?_
    refine g_icmp_ge (tgt := 45) hX (dk DX5_coming 7 rfl) (by decide) (fun hc1 => ?_) (fun hc1 => ?_)
    · refine g_iload_2 hX (dk DX5_coming 26 rfl) ?_
      refine g_ireturn hX (dk DX5_coming 27 rfl) rfl (rfl) (by decide) (by decide) ?_
      have hk0 := cl_end hk (by omega) hc1
      subst hk0
      exact rI_of hv rfl rfl
    · obtain ⟨k, rfl⟩ := cl_go hk (by omega) hc1
      obtain ⟨g1, g2, g3, g4, g5, g6⟩ := hW.2.2.1 d (by omega)
      refine g_aload_0 hX (dk DX5_coming 8 rfl) ?_
      refine g_iload_3 hX (dk DX5_coming 9 rfl) ?_
      refine g_c2R hX sX5_coming_14 (by decide) (Nat.le_of_ble_eq_true rfl) (rc0 rfl (CLt hH (by decide)) (CC hH 1 (by decide) rfl)) (by decide) (by decide) (c_X5_find hG hW (by omega)) ?_
      refine g_astore_4 hX (dk DX5_coming 11 rfl) (by decide) rfl ?_
      refine g_aload_4 hX (dk DX5_coming 12 rfl) ?_
      refine g_ifnullR hX (dk DX5_coming 13 rfl) ?_
      refine g_aload_4 hX (dk DX5_coming 14 rfl) ?_
      refine g_iload_1 hX (dk DX5_coming 15 rfl) ?_
      refine g_c2I hX (sD_X5_coming_27 _ g4) (by decide) (Nat.le_of_ble_eq_true rfl) (rc0 rfl g3 rfl) (by decide) (by decide) (cD_weeksUntil hG g3 g4 g6) ?_
      refine g_if_ne (tgt := 39) hX (dk DX5_coming 17 rfl) (by decide) (fun hc2 => ?_) (fun hc2 => ?_)
      · refine g_iinc_3 hX (dk DX5_coming 24 rfl) (nI_1 d) (by decide) rfl ?_
        refine g_goto (tgt := 4) hX (dk DX5_coming 25 rfl) (by decide) ?_
        exact g_fgt (ih k (by omega) (d + 1) _ (by omega) (by rw [← hv, cmR_s]; unfold wuF; (try first | rw [if_pos hc1] | rw [if_neg hc1] | rw [if_neg (not_not_intro hc1)]); (try first | rw [if_pos hc2] | rw [if_neg hc2] | rw [if_neg (not_not_intro hc2)]); first | done | rfl)) ⟨rfl, rfl, rfl, rfl, trivial⟩
      · refine g_iload_2 hX (dk DX5_coming 18 rfl) ?_
        refine g_iconst (v := 1) hX (dk DX5_coming 19 rfl) (by decide) ?_
        refine g_iload_3 hX (dk DX5_coming 20 rfl) ?_
        refine g_ishl hX (dk DX5_coming 21 rfl) ?_
        refine g_ior hX (dk DX5_coming 22 rfl) ?_
        refine g_istore_2 hX (dk DX5_coming 23 rfl) (by decide) rfl ?_
        refine g_iinc_3 hX (dk DX5_coming 24 rfl) (nI_1 d) (by decide) rfl ?_
        refine g_goto (tgt := 4) hX (dk DX5_coming 25 rfl) (by decide) ?_
        exact g_fgt (ih k (by omega) (d + 1) _ (by omega) (by rw [← hv, cmR_s]; unfold wuF; (try first | rw [if_pos hc1] | rw [if_neg hc1] | rw [if_neg (not_not_intro hc1)]); (try first | rw [if_pos hc2] | rw [if_neg hc2] | rw [if_neg (not_not_intro hc2)]); first | done | rfl)) ⟨rfl, rfl, rfl, rfl, trivial⟩
  refine g_iconst (v := 0) hX (dk DX5_coming 0 rfl) (by decide) ?_
  refine g_istore_2 hX (dk DX5_coming 1 rfl) (by decide) rfl ?_
  refine g_iconst (v := 0) hX (dk DX5_coming 2 rfl) (by decide) ?_
  refine g_istore_3 hX (dk DX5_coming 3 rfl) (by decide) rfl ?_
  exact g_fgt (loop4 (cN I) 0 0 (Nat.zero_add _) rfl) ⟨rfl, rfl, rfl, rfl, trivial⟩

set_option maxRecDepth 8000 in
set_option maxHeartbeats 4000000 in
theorem c_X5_longestWait {G : Gt} (hG : Gok G) {I : It} {h : Ht}  (hW : WX I h) {s w : Int32} : Con G (4) 0 0 mX5_longestWait [.ref 1, .int s, .int w] I h (rI (lwR I h s w (cN I) 0 0) I h) := by
  refine con_intro (own := RX5) (lo0 := [some (.ref 1), some (.int s), some (.int w), none, none, none]) hG rfl pl_X5 (Nat.le_of_ble_eq_true rfl) rfl (fun X hX => ?_)
  have hH := hW.1
  have hc10 := hW.2.1.2
  have loop5 : ∀ (k d : Nat) (z : Int32), d + k = cN I → lwR I h s w k d z = lwR I h s w (cN I) 0 0 → GG G (4) 0 0 X (rI (lwR I h s w (cN I) 0 0) I h) 5 [some (.ref 1), some (.int s), some (.int w), some (.int z), some (.int (nI d)), none] [] (I) (h) 0 0 := by
    intro k
    induction k using Nat.strongRecOn with | _ k ih => ?_
    intro d z hk hv
    refine g_iload_4 hX (dk DX5_longestWait 4 rfl) ?_
    refine g_aload_0 hX (dk DX5_longestWait 5 rfl) ?_
    refine g_getIv hX (dk DX5_longestWait 6 rfl) KX5 fX5_36 (by decide) rfl (CLt hH (q := 1) (by decide)) (CC hH 1 (by decide) rfl) (hW.2.1.1) ?_
    refine g_icmp_ge (tgt := 53) hX (dk DX5_longestWait 7 rfl) (by decide) (fun hc1 => ?_) (fun hc1 => ?_)
    · refine g_iload_3 hX (dk DX5_longestWait 26 rfl) ?_
      refine g_ireturn hX (dk DX5_longestWait 27 rfl) rfl (rfl) (by decide) (by decide) ?_
      have hk0 := cl_end hk (by omega) hc1
      subst hk0
      exact rI_of hv rfl rfl
    · obtain ⟨k, rfl⟩ := cl_go hk (by omega) hc1
      obtain ⟨g1, g2, g3, g4, g5, g6⟩ := hW.2.2.1 d (by omega)
      refine g_aload_0 hX (dk DX5_longestWait 8 rfl) ?_
      refine g_iload_4 hX (dk DX5_longestWait 9 rfl) ?_
      refine g_c2R hX sX5_longestWait_17 (by decide) (Nat.le_of_ble_eq_true rfl) (rc0 rfl (CLt hH (by decide)) (CC hH 1 (by decide) rfl)) (by decide) (by decide) (c_X5_find hG hW (by omega)) ?_
      refine g_astore_5 hX (dk DX5_longestWait 11 rfl) (by decide) rfl ?_
      refine g_aload_5 hX (dk DX5_longestWait 12 rfl) ?_
      refine g_ifnullR hX (dk DX5_longestWait 13 rfl) ?_
      refine g_iload_1 hX (dk DX5_longestWait 14 rfl) ?_
      refine g_iload_4 hX (dk DX5_longestWait 15 rfl) ?_
      refine g_c2I hX sX5_longestWait_30 (by decide) (Nat.le_of_ble_eq_true rfl) rcN (by decide) (by decide) (c_X11_bit hG) ?_
      refine g_if_eq (tgt := 47) hX (dk DX5_longestWait 17 rfl) (by decide) (fun hc2 => ?_) (fun hc2 => ?_)
      · refine g_iinc_4 hX (dk DX5_longestWait 24 rfl) (nI_1 d) (by decide) rfl ?_
        refine g_goto (tgt := 5) hX (dk DX5_longestWait 25 rfl) (by decide) ?_
        exact g_fgt (ih k (by omega) (d + 1) _ (by omega) (by rw [← hv, lwR_s]; unfold wuF; (try first | rw [if_pos hc1] | rw [if_neg hc1] | rw [if_neg (not_not_intro hc1)]); (try first | rw [if_pos hc2] | rw [if_neg hc2] | rw [if_neg (not_not_intro hc2)]); first | done | rfl)) ⟨rfl, rfl, rfl, rfl, rfl, trivial⟩
      · refine g_iload_3 hX (dk DX5_longestWait 18 rfl) ?_
        refine g_aload_5 hX (dk DX5_longestWait 19 rfl) ?_
        refine g_iload_2 hX (dk DX5_longestWait 20 rfl) ?_
        refine g_c2I hX (sD_X5_longestWait_40 _ g4) (by decide) (Nat.le_of_ble_eq_true rfl) (rc0 rfl g3 rfl) (by decide) (by decide) (cD_weeksUntil hG g3 g4 g6) ?_
        refine g_c2I hX sX5_longestWait_43 (by decide) (Nat.le_of_ble_eq_true rfl) rcN (by decide) (by decide) (c_J9_max_7cf53 hG) ?_
        refine g_istore_3 hX (dk DX5_longestWait 23 rfl) (by decide) rfl ?_
        refine g_iinc_4 hX (dk DX5_longestWait 24 rfl) (nI_1 d) (by decide) rfl ?_
        refine g_goto (tgt := 5) hX (dk DX5_longestWait 25 rfl) (by decide) ?_
        exact g_fgt (ih k (by omega) (d + 1) _ (by omega) (by rw [← hv, lwR_s]; unfold wuF; (try first | rw [if_pos hc1] | rw [if_neg hc1] | rw [if_neg (not_not_intro hc1)]); (try first | rw [if_pos hc2] | rw [if_neg hc2] | rw [if_neg (not_not_intro hc2)]); first | done | rfl)) ⟨rfl, rfl, rfl, rfl, rfl, trivial⟩
  refine g_iconst (v := 0) hX (dk DX5_longestWait 0 rfl) (by decide) ?_
  refine g_istore_3 hX (dk DX5_longestWait 1 rfl) (by decide) rfl ?_
  refine g_iconst (v := 0) hX (dk DX5_longestWait 2 rfl) (by decide) ?_
  refine g_istore_4 hX (dk DX5_longestWait 3 rfl) (by decide) rfl ?_
  exact g_fgt (loop5 (cN I) 0 0 (Nat.zero_add _) rfl) ⟨rfl, rfl, rfl, rfl, rfl, trivial⟩

set_option maxRecDepth 8000 in
set_option maxHeartbeats 4000000 in
theorem c_X5_everyDoing {G : Gt} (hG : Gok G) {I : It} {h : Ht}  (hW : WX I h)  : Con G (1) 0 0 mX5_everyDoing [.ref 1] I h (rI (bitI (I 1 2) - 1) I h) := by
  refine con_intro (own := RX5) (lo0 := [some (.ref 1)]) hG rfl pl_X5 (Nat.le_of_ble_eq_true rfl) rfl (fun X hX => ?_)
  have hH := hW.1
  have hc10 := hW.2.1.2
  refine g_iconst (v := 1) hX (dk DX5_everyDoing 0 rfl) (by decide) ?_
  refine g_aload_0 hX (dk DX5_everyDoing 1 rfl) ?_
  refine g_getI hX (dk DX5_everyDoing 2 rfl) KX5 fX5_36 (by decide) rfl (CLt hH (q := 1) (by decide)) (CC hH 1 (by decide) rfl) ?_
  refine g_ishl hX (dk DX5_everyDoing 3 rfl) ?_
  refine g_iconst (v := 1) hX (dk DX5_everyDoing 4 rfl) (by decide) ?_
  refine g_isub hX (dk DX5_everyDoing 5 rfl) ?_
  refine g_ireturn hX (dk DX5_everyDoing 6 rfl) rfl (rfl) (by decide) (by decide) ?_
  exact rI_of rfl rfl rfl

set_option maxRecDepth 8000 in
set_option maxHeartbeats 4000000 in
theorem c_X5_addRow {G : Gt} (hG : Gok G) {I : It} {h : Ht}  (hW : WX I h) {w a : Int32} {r : Nat} (hr : I 1 12 = nI r) (hr12 : r < 12) : Con G (1) 0 0 mX5_addRow [.ref 1, .int w, .int a] I h (rI (nI (r + 1)) (upI (upI (upI I 5 r w) 6 r a) 1 12 (nI (r + 1))) h) := by
  refine con_intro (own := RX5) (lo0 := [some (.ref 1), some (.int w), some (.int a)]) hG rfl pl_X5 (Nat.le_of_ble_eq_true rfl) rfl (fun X hX => ?_)
  have hH := hW.1
  have hc10 := hW.2.1.2
  refine g_aload_0 hX (dk DX5_addRow 0 rfl) ?_
  refine g_getIv hX (dk DX5_addRow 1 rfl) KX5 fX5_58 (by decide) rfl (CLt hH (q := 1) (by decide)) (CC hH 1 (by decide) rfl) (hr) ?_
  refine g_bipush (v := 12) hX (dk DX5_addRow 2 rfl) (by decide) ?_
  refine g_icmp_lt (tgt := 12) hX (dk DX5_addRow 3 rfl) (by decide) (fun hc1 => ?_) (fun hc1 => absurd (show nI r < nI 12 from nI_lt hr12 (by decide)) hc1)
  refine g_aload_0 hX (dk DX5_addRow 6 rfl) ?_
  refine g_getRs (r := 5) hX (dk DX5_addRow 7 rfl) KX5 fX5_24 (by decide) rfl (CLt hH (q := 1) (by decide)) (CC hH 1 (by decide) rfl) (CR hH 1 10 5 (by decide)) ?_
  refine g_aload_0 hX (dk DX5_addRow 8 rfl) ?_
  refine g_getIv hX (dk DX5_addRow 9 rfl) KX5 fX5_58 (by decide) rfl (CLt hH (q := 1) (by decide)) (CC hH 1 (by decide) rfl) (hr) ?_
  refine g_iload_1 hX (dk DX5_addRow 10 rfl) ?_
  refine i_iastore hX (dk DX5_addRow 11 rfl) (CLt hH (q := 5) (by decide)) (CS hH 5 (by decide) rfl) (⟨rfl, hr12, by decide⟩) ?_
  refine g_aload_0 hX (dk DX5_addRow 12 rfl) ?_
  refine g_getRs (r := 6) hX (dk DX5_addRow 13 rfl) KX5 fX5_27 (by decide) rfl (CLt hH (q := 1) (by decide)) (CC hH 1 (by decide) rfl) (CR hH 1 11 6 (by decide)) ?_
  refine g_aload_0 hX (dk DX5_addRow 14 rfl) ?_
  refine g_getIv hX (dk DX5_addRow 15 rfl) KX5 fX5_58 (by decide) rfl (CLt hH (q := 1) (by decide)) (CC hH 1 (by decide) rfl) ((show _ = nI r from hr)) ?_
  refine g_iload_2 hX (dk DX5_addRow 16 rfl) ?_
  refine i_iastore hX (dk DX5_addRow 17 rfl) (CLt hH (q := 6) (by decide)) (CS hH 6 (by decide) rfl) (⟨rfl, hr12, by decide⟩) ?_
  refine g_aload_0 hX (dk DX5_addRow 18 rfl) ?_
  refine g_dup hX (dk DX5_addRow 19 rfl) rfl ?_
  refine g_getIv hX (dk DX5_addRow 20 rfl) KX5 fX5_58 (by decide) rfl (CLt hH (q := 1) (by decide)) (CC hH 1 (by decide) rfl) ((show _ = nI r from hr)) ?_
  refine g_iconst (v := 1) hX (dk DX5_addRow 21 rfl) (by decide) ?_
  refine g_iadd hX (dk DX5_addRow 22 rfl) ?_
  refine g_putI hX (dk DX5_addRow 23 rfl) KX5 fX5_58 (by decide) rfl (CLt hH (q := 1) (by decide)) (CC hH 1 (by decide) rfl) (Or.inl rfl) (rfl) (rfl) ?_
  refine g_aload_0 hX (dk DX5_addRow 24 rfl) ?_
  refine g_getIv hX (dk DX5_addRow 25 rfl) KX5 fX5_58 (by decide) rfl (CLt hH (q := 1) (by decide)) (CC hH 1 (by decide) rfl) ((up0 _ _ _ _).trans (nI_1 r)) ?_
  refine g_ireturn hX (dk DX5_addRow 26 rfl) rfl (rfl) (by decide) (by decide) ?_
  exact rI_of rfl (by rw [nI_1]) rfl

set_option maxRecDepth 8000 in
set_option maxHeartbeats 4000000 in
theorem c_X5_weeksToRows {G : Gt} (hG : Gok G) {I : It} {h : Ht}  (hW : WX I h)  : Con G (3) 0 0 mX5_weeksToRows [.ref 1] I h (qI (fun _ I2 h2 => I2 = I ∧ h2 = h)) := by
  refine con_intro (own := RX5) (lo0 := [some (.ref 1), none, none]) hG rfl pl_X5 (Nat.le_of_ble_eq_true rfl) rfl (fun X hX => ?_)
  have hH := hW.1
  have hc10 := hW.2.1.2
  have loop4 : ∀ r, r ≤ 12 → I 1 12 = nI r → ∀ (k d : Nat) (z : Int32), d + k = r → GG G (3) 0 0 X (qI (fun _ I2 h2 => I2 = I ∧ h2 = h)) 4 [some (.ref 1), some (.int z), some (.int (nI d))] [] (I) (h) 0 0 := by
    intro r hr12 hr k
    induction k using Nat.strongRecOn with | _ k ih => ?_
    intro d z hk
    refine g_iload_2 hX (dk DX5_weeksToRows 4 rfl) ?_
    refine g_aload_0 hX (dk DX5_weeksToRows 5 rfl) ?_
    refine g_getIv hX (dk DX5_weeksToRows 6 rfl) KX5 fX5_58 (by decide) rfl (CLt hH (q := 1) (by decide)) (CC hH 1 (by decide) rfl) (hr) ?_
    refine g_icmp_ge (tgt := 36) hX (dk DX5_weeksToRows 7 rfl) (by decide) (fun hc1 => ?_) (fun hc1 => ?_)
    · refine g_iload_1 hX (dk DX5_weeksToRows 22 rfl) ?_
      refine g_bipush (v := 100) hX (dk DX5_weeksToRows 23 rfl) (by decide) ?_
      refine g_c2I hX sX5_weeksToRows_39 (by decide) (Nat.le_of_ble_eq_true rfl) rcN (by decide) (by decide) (c_J9_min_7cf53 hG) ?_
      refine g_ireturn hX (dk DX5_weeksToRows 25 rfl) rfl (rfl) (by decide) (by decide) ?_
      exact qI_of ⟨rfl, rfl⟩
    · obtain ⟨k, rfl⟩ := cl_go hk (by omega) hc1
      refine g_iload_1 hX (dk DX5_weeksToRows 8 rfl) ?_
      refine g_aload_0 hX (dk DX5_weeksToRows 9 rfl) ?_
      refine g_getRs (r := 5) hX (dk DX5_weeksToRows 10 rfl) KX5 fX5_24 (by decide) rfl (CLt hH (q := 1) (by decide)) (CC hH 1 (by decide) rfl) (CR hH 1 10 5 (by decide)) ?_
      refine g_iload_2 hX (dk DX5_weeksToRows 11 rfl) ?_
      refine i_iaload hX (dk DX5_weeksToRows 12 rfl) (CLt hH (q := 5) (by decide)) (CS hH 5 (by decide) rfl) (⟨rfl, by omega, by decide⟩) ?_
      refine g_aload_0 hX (dk DX5_weeksToRows 13 rfl) ?_
      refine g_getI hX (dk DX5_weeksToRows 14 rfl) KX5 fX5_46 (by decide) rfl (CLt hH (q := 1) (by decide)) (CC hH 1 (by decide) rfl) ?_
      refine g_isub hX (dk DX5_weeksToRows 15 rfl) ?_
      refine g_iconst (v := 1) hX (dk DX5_weeksToRows 16 rfl) (by decide) ?_
      refine g_iadd hX (dk DX5_weeksToRows 17 rfl) ?_
      refine g_c2I hX sX5_weeksToRows_26 (by decide) (Nat.le_of_ble_eq_true rfl) rcN (by decide) (by decide) (c_J9_max_7cf53 hG) ?_
      refine g_istore_1 hX (dk DX5_weeksToRows 19 rfl) (by decide) rfl ?_
      refine g_iinc_2 hX (dk DX5_weeksToRows 20 rfl) (nI_1 d) (by decide) rfl ?_
      refine g_goto (tgt := 4) hX (dk DX5_weeksToRows 21 rfl) (by decide) ?_
      exact g_fgt (ih k (by omega) (d + 1) _ (by omega)) ⟨rfl, rfl, rfl, trivial⟩
  refine g_iconst (v := 0) hX (dk DX5_weeksToRows 0 rfl) (by decide) ?_
  refine g_istore_1 hX (dk DX5_weeksToRows 1 rfl) (by decide) rfl ?_
  refine g_iconst (v := 0) hX (dk DX5_weeksToRows 2 rfl) (by decide) ?_
  refine g_istore_2 hX (dk DX5_weeksToRows 3 rfl) (by decide) rfl ?_
  obtain ⟨r, hr12, hr⟩ := hW.2.2.2.2.2
  exact g_fgt (loop4 r hr12 hr r 0 0 (Nat.zero_add _)) ⟨rfl, rfl, rfl, trivial⟩
end
section
set_option maxRecDepth 8000 in
set_option maxHeartbeats 4000000 in
theorem cn_X5_callsAtFirst {G : Gt} (hG : Gok G) {I : It} {h : Ht}  (hW : WX I h)  (hps : hR h 1 13 = none) : Con G (1) 0 0 mX5_callsAtFirst [.ref 1] I h (rI 7 I h) := by
  refine con_intro (own := RX5) (lo0 := [some (.ref 1)]) hG rfl pl_X5 (Nat.le_of_ble_eq_true rfl) rfl (fun X hX => ?_)
  have hH := hW.1
  have hc10 := hW.2.1.2
  refine g_aload_0 hX (dk DX5_callsAtFirst 0 rfl) ?_
  refine g_getR (r := none) hX (dk DX5_callsAtFirst 1 rfl) KX5 fX5_61 (by decide) rfl (CLt hH (q := 1) (by decide)) (CC hH 1 (by decide) rfl) (hps) ?_
  refine g_ifnonnullN hX (dk DX5_callsAtFirst 2 rfl) ?_
  refine g_bipush (v := 7) hX (dk DX5_callsAtFirst 3 rfl) (by decide) ?_
  refine g_goto (tgt := 19) hX (dk DX5_callsAtFirst 4 rfl) (by decide) ?_
  refine g_ireturn hX (dk DX5_callsAtFirst 8 rfl) rfl (rfl) (by decide) (by decide) ?_
  exact rI_of rfl rfl rfl

set_option maxRecDepth 8000 in
set_option maxHeartbeats 4000000 in
theorem cs_X5_callsAtFirst {G : Gt} (hG : Gok G) {I : It} {h : Ht}  (hW : WX I h)  {p : Nat} (hp : p < 6) (hps : hR h 1 13 = some (43 + 5 * p)) : Con G (1) 0 0 mX5_callsAtFirst [.ref 1] I h (rI (I (43 + 5 * p) 0) I h) := by
  refine con_intro (own := RX5) (lo0 := [some (.ref 1)]) hG rfl pl_X5 (Nat.le_of_ble_eq_true rfl) rfl (fun X hX => ?_)
  have hH := hW.1
  have hc10 := hW.2.1.2
  refine g_aload_0 hX (dk DX5_callsAtFirst 0 rfl) ?_
  refine g_getRs (r := (43 + 5 * p)) hX (dk DX5_callsAtFirst 1 rfl) KX5 fX5_61 (by decide) rfl (CLt hH (q := 1) (by decide)) (CC hH 1 (by decide) rfl) (hps) ?_
  refine g_ifnonnull (tgt := 12) hX (dk DX5_callsAtFirst 2 rfl) (by decide) ?_
  refine g_aload_0 hX (dk DX5_callsAtFirst 5 rfl) ?_
  refine g_getRs (r := (43 + 5 * p)) hX (dk DX5_callsAtFirst 6 rfl) KX5 fX5_61 (by decide) rfl (CLt hH (q := 1) (by decide)) (CC hH 1 (by decide) rfl) (hps) ?_
  refine g_getI hX (dk DX5_callsAtFirst 7 rfl) KX3 fX5_83 (by decide) rfl (PL0 hH hp) (PSh hH hp) ?_
  refine g_ireturn hX (dk DX5_callsAtFirst 8 rfl) rfl (rfl) (by decide) (by decide) ?_
  exact rI_of rfl rfl rfl

theorem c_X5_callsAtFirst {G : Gt} (hG : Gok G) {I : It} {h : Ht} (hW : WX I h)  : Con G 1 0 0 mX5_callsAtFirst [.ref 1] I h (rI (caF I h) I h) := by
  cases hps : hR h 1 13 with
  | none =>
    have hc := cn_X5_callsAtFirst hG hW  hps
    have e : caF I h = 7 := by unfold caF; rw [hps]
    rw [e]; exact hc
  | some P =>
    obtain ⟨p, hp, rfl⟩ := hW.2.2.2.1.1 P hps
    have hc := cs_X5_callsAtFirst hG hW  hp hps
    have e : caF I h = I (43 + 5 * p) 0 := by unfold caF; rw [hps]
    rw [e]; exact hc
set_option maxRecDepth 8000 in
set_option maxHeartbeats 4000000 in
theorem cn_X5_callsFading {G : Gt} (hG : Gok G) {I : It} {h : Ht}  (hW : WX I h)  (hps : hR h 1 13 = none) : Con G (1) 0 0 mX5_callsFading [.ref 1] I h (rI 1 I h) := by
  refine con_intro (own := RX5) (lo0 := [some (.ref 1)]) hG rfl pl_X5 (Nat.le_of_ble_eq_true rfl) rfl (fun X hX => ?_)
  have hH := hW.1
  have hc10 := hW.2.1.2
  refine g_aload_0 hX (dk DX5_callsFading 0 rfl) ?_
  refine g_getR (r := none) hX (dk DX5_callsFading 1 rfl) KX5 fX5_61 (by decide) rfl (CLt hH (q := 1) (by decide)) (CC hH 1 (by decide) rfl) (hps) ?_
  refine g_ifnonnullN hX (dk DX5_callsFading 2 rfl) ?_
  refine g_iconst (v := 1) hX (dk DX5_callsFading 3 rfl) (by decide) ?_
  refine g_goto (tgt := 18) hX (dk DX5_callsFading 4 rfl) (by decide) ?_
  refine g_ireturn hX (dk DX5_callsFading 8 rfl) rfl (rfl) (by decide) (by decide) ?_
  exact rI_of rfl rfl rfl

set_option maxRecDepth 8000 in
set_option maxHeartbeats 4000000 in
theorem cs_X5_callsFading {G : Gt} (hG : Gok G) {I : It} {h : Ht}  (hW : WX I h)  {p : Nat} (hp : p < 6) (hps : hR h 1 13 = some (43 + 5 * p)) : Con G (1) 0 0 mX5_callsFading [.ref 1] I h (rI (I (43 + 5 * p) 1) I h) := by
  refine con_intro (own := RX5) (lo0 := [some (.ref 1)]) hG rfl pl_X5 (Nat.le_of_ble_eq_true rfl) rfl (fun X hX => ?_)
  have hH := hW.1
  have hc10 := hW.2.1.2
  refine g_aload_0 hX (dk DX5_callsFading 0 rfl) ?_
  refine g_getRs (r := (43 + 5 * p)) hX (dk DX5_callsFading 1 rfl) KX5 fX5_61 (by decide) rfl (CLt hH (q := 1) (by decide)) (CC hH 1 (by decide) rfl) (hps) ?_
  refine g_ifnonnull (tgt := 11) hX (dk DX5_callsFading 2 rfl) (by decide) ?_
  refine g_aload_0 hX (dk DX5_callsFading 5 rfl) ?_
  refine g_getRs (r := (43 + 5 * p)) hX (dk DX5_callsFading 6 rfl) KX5 fX5_61 (by decide) rfl (CLt hH (q := 1) (by decide)) (CC hH 1 (by decide) rfl) (hps) ?_
  refine g_getI hX (dk DX5_callsFading 7 rfl) KX3 fX5_86 (by decide) rfl (PL0 hH hp) (PSh hH hp) ?_
  refine g_ireturn hX (dk DX5_callsFading 8 rfl) rfl (rfl) (by decide) (by decide) ?_
  exact rI_of rfl rfl rfl

theorem c_X5_callsFading {G : Gt} (hG : Gok G) {I : It} {h : Ht} (hW : WX I h)  : Con G 1 0 0 mX5_callsFading [.ref 1] I h (rI (faF I h) I h) := by
  cases hps : hR h 1 13 with
  | none =>
    have hc := cn_X5_callsFading hG hW  hps
    have e : faF I h = 1 := by unfold faF; rw [hps]
    rw [e]; exact hc
  | some P =>
    obtain ⟨p, hp, rfl⟩ := hW.2.2.2.1.1 P hps
    have hc := cs_X5_callsFading hG hW  hp hps
    have e : faF I h = I (43 + 5 * p) 1 := by unfold faF; rw [hps]
    rw [e]; exact hc
set_option maxRecDepth 8000 in
set_option maxHeartbeats 4000000 in
theorem c_X3_passes {G : Gt} (hG : Gok G) {I : It} {h : Ht}  {q : Nat} {t y w : Int32} (hq : q < hn h) (hdc : isDC (hs h q).1) : Con G (2) 0 0 mX3_passes [.int t, .ref q, .int y, .int w] I h (rI (psC I h q t y w) I h) := by
  refine con_intro (own := RX3) (lo0 := [some (.int t), some (.ref q), some (.int y), some (.int w), none, none]) hG rfl pl_X3 (Nat.le_of_ble_eq_true rfl) rfl (fun X hX => ?_)
  have loop125 : ∀ (v : Int32), v = factC I h q t y w → GG G (2) 0 0 X (rI (psC I h q t y w) I h) 125 [some (.int t), some (.ref q), some (.int y), some (.int w), some (.int v), some (.int (t >>> (16 &&& 31)))] [] (I) (h) 0 0 := by
    intro v hv
    refine g_iload_0 hX (dk DX3_passes_0 35 rfl) ?_
    refine g_bipush (v := 8) hX (dk DX3_passes_0 36 rfl) (by decide) ?_
    refine g_ishr hX (dk DX3_passes_0 37 rfl) ?_
    refine g_sipush (v := 255) hX (dk DX3_passes_0 38 rfl) (by decide) ?_
    refine g_iand hX (dk DX3_passes_0 39 rfl) ?_
    refine g_lswitch (dt := 186) hX [(60, 160), (61, 173)] (dk DX3_passes_0 40 rfl) (by decide +kernel) (by decide +kernel) ?_
    refine ⟨fun hc1 => ?_, fun hc1n => ?_⟩
    · show GG _ _ _ _ _ _ _ _ _ _ _ _ _
      refine g_iload_4 hX (dk DX3_passes_0 41 rfl) ?_
      refine g_iload_5 hX (dk DX3_passes_0 42 rfl) ?_
      refine g_icmp_ge (tgt := 171) hX (dk DX3_passes_0 43 rfl) (by decide) (fun hc2 => ?_) (fun hc2 => ?_)
      · refine g_iconst (v := 0) hX (dk DX3_passes_0 46 rfl) (by decide) ?_
        refine g_ireturn hX (dk DX3_passes_0 47 rfl) rfl (by decide) (by decide) (by decide) ?_
        exact rI_of (by unfold psC; rw [← hv]; (try first | rw [if_pos hc1] | rw [if_neg hc1] | rw [if_neg (not_not_intro hc1)]); (try first | rw [if_pos hc2] | rw [if_neg hc2] | rw [if_neg (not_not_intro hc2)]); first | exact (bI_t (by assumption)).symm | exact (bI_f (by assumption)).symm | exact (bI_f (Int32.not_lt.mpr (by assumption))).symm | exact (bI_t (Int32.not_le.mp (by assumption))).symm) rfl rfl
      · refine g_iconst (v := 1) hX (dk DX3_passes_0 44 rfl) (by decide) ?_
        refine g_goto (tgt := 172) hX (dk DX3_passes_0 45 rfl) (by decide) ?_
        refine g_ireturn hX (dk DX3_passes_0 47 rfl) rfl (by decide) (by decide) (by decide) ?_
        exact rI_of (by unfold psC; rw [← hv]; (try first | rw [if_pos hc1] | rw [if_neg hc1] | rw [if_neg (not_not_intro hc1)]); (try first | rw [if_pos hc2] | rw [if_neg hc2] | rw [if_neg (not_not_intro hc2)]); first | exact (bI_t (by assumption)).symm | exact (bI_f (by assumption)).symm | exact (bI_f (Int32.not_lt.mpr (by assumption))).symm | exact (bI_t (Int32.not_le.mp (by assumption))).symm) rfl rfl
    refine ⟨fun hc3 => ?_, fun hc3n => ?_⟩
    · show GG _ _ _ _ _ _ _ _ _ _ _ _ _
      refine g_iload_4 hX (dk DX3_passes_0 48 rfl) ?_
      refine g_iload_5 hX (dk DX3_passes_0 49 rfl) ?_
      refine g_icmp_ne (tgt := 184) hX (dk DX3_passes_0 50 rfl) (by decide) (fun hc4 => ?_) (fun hc4 => ?_)
      · refine g_iconst (v := 0) hX (dk DX3_passes_0 53 rfl) (by decide) ?_
        refine g_ireturn hX (dk DX3_passes_0 54 rfl) rfl (by decide) (by decide) (by decide) ?_
        exact rI_of (by unfold psC; rw [← hv]; (try first | rw [if_pos hc1n] | rw [if_neg hc1n] | rw [if_neg (not_not_intro hc1n)]); (try first | rw [if_pos hc3] | rw [if_neg hc3] | rw [if_neg (not_not_intro hc3)]); (try first | rw [if_pos hc4] | rw [if_neg hc4] | rw [if_neg (not_not_intro hc4)]); first | exact (bI_t (by assumption)).symm | exact (bI_f (by assumption)).symm | exact (bI_f (Int32.not_lt.mpr (by assumption))).symm | exact (bI_t (Int32.not_le.mp (by assumption))).symm) rfl rfl
      · refine g_iconst (v := 1) hX (dk DX3_passes_0 51 rfl) (by decide) ?_
        refine g_goto (tgt := 185) hX (dk DX3_passes_0 52 rfl) (by decide) ?_
        refine g_ireturn hX (dk DX3_passes_0 54 rfl) rfl (by decide) (by decide) (by decide) ?_
        exact rI_of (by unfold psC; rw [← hv]; (try first | rw [if_pos hc1n] | rw [if_neg hc1n] | rw [if_neg (not_not_intro hc1n)]); (try first | rw [if_pos hc3] | rw [if_neg hc3] | rw [if_neg (not_not_intro hc3)]); (try first | rw [if_pos hc4] | rw [if_neg hc4] | rw [if_neg (not_not_intro hc4)]); first | exact (bI_t (by assumption)).symm | exact (bI_f (by assumption)).symm | exact (bI_f (Int32.not_lt.mpr (by assumption))).symm | exact (bI_t (Int32.not_le.mp (by assumption))).symm) rfl rfl
    show GG _ _ _ _ _ _ _ _ _ _ _ _ _
    refine g_iload_4 hX (dk DX3_passes_0 55 rfl) ?_
    refine g_iload_5 hX (dk DX3_passes_0 56 rfl) ?_
    refine g_icmp_le (tgt := 197) hX (dk DX3_passes_0 57 rfl) (by decide) (fun hc6 => ?_) (fun hc6 => ?_)
    · refine g_iconst (v := 0) hX (dk DX3_passes_1 0 rfl) (by decide) ?_
      refine g_ireturn hX (dk DX3_passes_1 1 rfl) rfl (by decide) (by decide) (by decide) ?_
      exact rI_of (by unfold psC; rw [← hv]; (try first | rw [if_pos hc1n] | rw [if_neg hc1n] | rw [if_neg (not_not_intro hc1n)]); (try first | rw [if_pos hc3n] | rw [if_neg hc3n] | rw [if_neg (not_not_intro hc3n)]); (try first | rw [if_pos hc6] | rw [if_neg hc6] | rw [if_neg (not_not_intro hc6)]); first | exact (bI_t (by assumption)).symm | exact (bI_f (by assumption)).symm | exact (bI_f (Int32.not_lt.mpr (by assumption))).symm | exact (bI_t (Int32.not_le.mp (by assumption))).symm) rfl rfl
    · refine g_iconst (v := 1) hX (dk DX3_passes_0 58 rfl) (by decide) ?_
      refine g_goto (tgt := 198) hX (dk DX3_passes_0 59 rfl) (by decide) ?_
      refine g_ireturn hX (dk DX3_passes_1 1 rfl) rfl (by decide) (by decide) (by decide) ?_
      exact rI_of (by unfold psC; rw [← hv]; (try first | rw [if_pos hc1n] | rw [if_neg hc1n] | rw [if_neg (not_not_intro hc1n)]); (try first | rw [if_pos hc3n] | rw [if_neg hc3n] | rw [if_neg (not_not_intro hc3n)]); (try first | rw [if_pos hc6] | rw [if_neg hc6] | rw [if_neg (not_not_intro hc6)]); first | exact (bI_t (by assumption)).symm | exact (bI_f (by assumption)).symm | exact (bI_f (Int32.not_lt.mpr (by assumption))).symm | exact (bI_t (Int32.not_le.mp (by assumption))).symm) rfl rfl
  refine g_iload_0 hX (dk DX3_passes_0 0 rfl) ?_
  refine g_bipush (v := 16) hX (dk DX3_passes_0 1 rfl) (by decide) ?_
  refine g_ishr hX (dk DX3_passes_0 2 rfl) ?_
  refine g_istore_5 hX (dk DX3_passes_0 3 rfl) (by decide) rfl ?_
  refine g_iload_0 hX (dk DX3_passes_0 4 rfl) ?_
  refine g_sipush (v := 255) hX (dk DX3_passes_0 5 rfl) (by decide) ?_
  refine g_iand hX (dk DX3_passes_0 6 rfl) ?_
  refine g_lswitch (dt := 122) hX [(99, 104), (105, 68), (107, 77), (114, 86), (118, 95), (121, 116)] (dk DX3_passes_0 7 rfl) (by decide +kernel) (by decide +kernel) ?_
  refine ⟨fun hc1 => ?_, fun hc1n => ?_⟩
  · show GG _ _ _ _ _ _ _ _ _ _ _ _ _
    refine g_aload_1 hX (dk DX3_passes_0 24 rfl) ?_
    refine g_getD (v := _) hX (dk DX3_passes_0 25 rfl) fX3_115 (by decide) hq hdc (rfl) ?_
    refine g_bipush (v := 10) hX (dk DX3_passes_0 26 rfl) (by decide) ?_
    refine g_idiv hX (dk DX3_passes_0 27 rfl) (by decide) ?_
    refine g_istore_4 hX (dk DX3_passes_0 28 rfl) (by decide) rfl ?_
    refine g_goto (tgt := 125) hX (dk DX3_passes_0 29 rfl) (by decide) ?_
    exact loop125 _ (by unfold factC; (try first | rw [if_pos hc1] | rw [if_neg hc1] | rw [if_neg (not_not_intro hc1)]); first | done | rfl)
  refine ⟨fun hc2 => ?_, fun hc2n => ?_⟩
  · show GG _ _ _ _ _ _ _ _ _ _ _ _ _
    refine g_aload_1 hX (dk DX3_passes_0 8 rfl) ?_
    refine g_getD (v := _) hX (dk DX3_passes_0 9 rfl) fX3_101 (by decide) hq hdc (rfl) ?_
    refine g_istore_4 hX (dk DX3_passes_0 10 rfl) (by decide) rfl ?_
    refine g_goto (tgt := 125) hX (dk DX3_passes_0 11 rfl) (by decide) ?_
    exact loop125 _ (by unfold factC; (try first | rw [if_pos hc1n] | rw [if_neg hc1n] | rw [if_neg (not_not_intro hc1n)]); (try first | rw [if_pos hc2] | rw [if_neg hc2] | rw [if_neg (not_not_intro hc2)]); first | done | rfl)
  refine ⟨fun hc3 => ?_, fun hc3n => ?_⟩
  · show GG _ _ _ _ _ _ _ _ _ _ _ _ _
    refine g_aload_1 hX (dk DX3_passes_0 12 rfl) ?_
    refine g_c1I hX (sD_X3_passes_78 _ hdc) (by decide) (Nat.le_of_ble_eq_true rfl) (rc0 rfl hq rfl) (by decide) (by decide) (cD_kind hG hq hdc) ?_
    refine g_istore_4 hX (dk DX3_passes_0 14 rfl) (by decide) rfl ?_
    refine g_goto (tgt := 125) hX (dk DX3_passes_0 15 rfl) (by decide) ?_
    exact loop125 _ (by unfold factC; (try first | rw [if_pos hc1n] | rw [if_neg hc1n] | rw [if_neg (not_not_intro hc1n)]); (try first | rw [if_pos hc2n] | rw [if_neg hc2n] | rw [if_neg (not_not_intro hc2n)]); (try first | rw [if_pos hc3] | rw [if_neg hc3] | rw [if_neg (not_not_intro hc3)]); first | done | rfl)
  refine ⟨fun hc4 => ?_, fun hc4n => ?_⟩
  · show GG _ _ _ _ _ _ _ _ _ _ _ _ _
    refine g_aload_1 hX (dk DX3_passes_0 16 rfl) ?_
    refine g_getD (v := _) hX (dk DX3_passes_0 17 rfl) fX3_109 (by decide) hq hdc (rfl) ?_
    refine g_istore_4 hX (dk DX3_passes_0 18 rfl) (by decide) rfl ?_
    refine g_goto (tgt := 125) hX (dk DX3_passes_0 19 rfl) (by decide) ?_
    exact loop125 _ (by unfold factC; (try first | rw [if_pos hc1n] | rw [if_neg hc1n] | rw [if_neg (not_not_intro hc1n)]); (try first | rw [if_pos hc2n] | rw [if_neg hc2n] | rw [if_neg (not_not_intro hc2n)]); (try first | rw [if_pos hc3n] | rw [if_neg hc3n] | rw [if_neg (not_not_intro hc3n)]); (try first | rw [if_pos hc4] | rw [if_neg hc4] | rw [if_neg (not_not_intro hc4)]); first | done | rfl)
  refine ⟨fun hc5 => ?_, fun hc5n => ?_⟩
  · show GG _ _ _ _ _ _ _ _ _ _ _ _ _
    refine g_aload_1 hX (dk DX3_passes_0 20 rfl) ?_
    refine g_getD (v := _) hX (dk DX3_passes_0 21 rfl) fX3_112 (by decide) hq hdc (rfl) ?_
    refine g_istore_4 hX (dk DX3_passes_0 22 rfl) (by decide) rfl ?_
    refine g_goto (tgt := 125) hX (dk DX3_passes_0 23 rfl) (by decide) ?_
    exact loop125 _ (by unfold factC; (try first | rw [if_pos hc1n] | rw [if_neg hc1n] | rw [if_neg (not_not_intro hc1n)]); (try first | rw [if_pos hc2n] | rw [if_neg hc2n] | rw [if_neg (not_not_intro hc2n)]); (try first | rw [if_pos hc3n] | rw [if_neg hc3n] | rw [if_neg (not_not_intro hc3n)]); (try first | rw [if_pos hc4n] | rw [if_neg hc4n] | rw [if_neg (not_not_intro hc4n)]); (try first | rw [if_pos hc5] | rw [if_neg hc5] | rw [if_neg (not_not_intro hc5)]); first | done | rfl)
  refine ⟨fun hc6 => ?_, fun hc6n => ?_⟩
  · show GG _ _ _ _ _ _ _ _ _ _ _ _ _
    refine g_iload_2 hX (dk DX3_passes_0 30 rfl) ?_
    refine g_istore_4 hX (dk DX3_passes_0 31 rfl) (by decide) rfl ?_
    refine g_goto (tgt := 125) hX (dk DX3_passes_0 32 rfl) (by decide) ?_
    exact loop125 _ (by unfold factC; (try first | rw [if_pos hc1n] | rw [if_neg hc1n] | rw [if_neg (not_not_intro hc1n)]); (try first | rw [if_pos hc2n] | rw [if_neg hc2n] | rw [if_neg (not_not_intro hc2n)]); (try first | rw [if_pos hc3n] | rw [if_neg hc3n] | rw [if_neg (not_not_intro hc3n)]); (try first | rw [if_pos hc4n] | rw [if_neg hc4n] | rw [if_neg (not_not_intro hc4n)]); (try first | rw [if_pos hc5n] | rw [if_neg hc5n] | rw [if_neg (not_not_intro hc5n)]); (try first | rw [if_pos hc6] | rw [if_neg hc6] | rw [if_neg (not_not_intro hc6)]); first | done | rfl)
  show GG _ _ _ _ _ _ _ _ _ _ _ _ _
  refine g_iload_3 hX (dk DX3_passes_0 33 rfl) ?_
  refine g_istore_4 hX (dk DX3_passes_0 34 rfl) (by decide) rfl ?_
  exact loop125 _ (by unfold factC; (try first | rw [if_pos hc1n] | rw [if_neg hc1n] | rw [if_neg (not_not_intro hc1n)]); (try first | rw [if_pos hc2n] | rw [if_neg hc2n] | rw [if_neg (not_not_intro hc2n)]); (try first | rw [if_pos hc3n] | rw [if_neg hc3n] | rw [if_neg (not_not_intro hc3n)]); (try first | rw [if_pos hc4n] | rw [if_neg hc4n] | rw [if_neg (not_not_intro hc4n)]); (try first | rw [if_pos hc5n] | rw [if_neg hc5n] | rw [if_neg (not_not_intro hc5n)]); (try first | rw [if_pos hc6n] | rw [if_neg hc6n] | rw [if_neg (not_not_intro hc6n)]); first | done | rfl)
end
section
set_option maxRecDepth 8000 in
set_option maxHeartbeats 4000000 in
theorem c_X3_holds {G : Gt} (hG : Gok G) {I : It} {h : Ht}  (hH : HX h) (hPO : PO I h) {p c0 q : Nat} {y w : Int32} (hp : p < 6) (hc0 : c0 < 10) (hq : q < hn h) (hdc : isDC (hs h q).1) : Con G (3) 0 0 mX3_holds [.ref (43 + 5 * p), .int (nI c0), .ref q, .int y, .int w] I h (rI (bI (hoC I h p c0 q y w)) I h) := by
  refine con_intro (own := RX3) (lo0 := [some (.ref (43 + 5 * p)), some (.int (nI c0)), some (.ref q), some (.int y), some (.int w), none, none, none]) hG rfl pl_X3 (Nat.le_of_ble_eq_true rfl) rfl (fun X hX => ?_)
  have hee := eE_eq hPO hp hc0
  have loop21 : ∀ (k c : Nat) (bt : Int32), k = eE I p c0 - c → c ≤ 100 → hbR I h p q y w k c bt = hbR I h p q y w (eE I p c0 - eB I p c0) (eB I p c0) 0 → GG G (3) 0 0 X (rI (bI (hoC I h p c0 q y w)) I h) 21 [some (.ref (43 + 5 * p)), some (.int (nI c0)), some (.ref q), some (.int y), some (.int w), some (.int bt), some (.int (nI c)), none] [] (I) (h) 0 0 := by
    intro k
    induction k using Nat.strongRecOn with | _ k ih => ?_
    intro c bt hk hc hv
    refine g_iload_6 hX (dk DX3_holds_0 13 rfl) ?_
    refine g_aload_0 hX (dk DX3_holds_0 14 rfl) ?_
    refine g_getRs (r := (46 + 5 * p)) hX (dk DX3_holds_0 15 rfl) KX3 fX3_18 (by decide) rfl (PL0 hH hp) (PSh hH hp) (PR5 hH hp) ?_
    refine g_iload_1 hX (dk DX3_holds_0 16 rfl) ?_
    refine v_iaload hX (dk DX3_holds_0 17 rfl) (PLt hH (j := 3) hp (by decide)) (PA6 hH hp) (⟨rfl, hc0, by decide⟩) (hee.1) ?_
    refine g_icmp_ge (tgt := 130) hX (dk DX3_holds_0 18 rfl) (by decide) (fun hc1 => ?_) (fun hc1 => ?_)
    · refine g_iload_5 hX (dk DX3_holds_1 12 rfl) ?_
      refine g_iconst (v := 1) hX (dk DX3_holds_1 13 rfl) (by decide) ?_
      refine g_iand hX (dk DX3_holds_1 14 rfl) ?_
      refine g_if_eq (tgt := 141) hX (dk DX3_holds_1 15 rfl) (by decide) (fun hc2 => ?_) (fun hc2 => ?_)
      · refine g_iconst (v := 0) hX (dk DX3_holds_1 18 rfl) (by decide) ?_
        refine g_ireturn hX (dk DX3_holds_1 19 rfl) rfl (by decide) (by decide) (by decide) ?_
        have hk0 : k = 0 := by have := (nI_leI (by omega) (by omega)).mp hc1; omega
        subst hk0
        first
        | exact rI_of (bI_t (by unfold hoC; rw [← hv]; assumption)).symm rfl rfl
        | exact rI_of (bI_f (by unfold hoC; rw [← hv]; exact not_not_intro (by assumption))).symm rfl rfl
      · refine g_iconst (v := 1) hX (dk DX3_holds_1 16 rfl) (by decide) ?_
        refine g_goto (tgt := 142) hX (dk DX3_holds_1 17 rfl) (by decide) ?_
        refine g_ireturn hX (dk DX3_holds_1 19 rfl) rfl (by decide) (by decide) (by decide) ?_
        have hk0 : k = 0 := by have := (nI_leI (by omega) (by omega)).mp hc1; omega
        subst hk0
        first
        | exact rI_of (bI_t (by unfold hoC; rw [← hv]; assumption)).symm rfl rfl
        | exact rI_of (bI_f (by unfold hoC; rw [← hv]; exact not_not_intro (by assumption))).symm rfl rfl
    · have hlt : c < eE I p c0 := by
        rcases Nat.lt_or_ge c (eE I p c0) with z | z
        · exact z
        · exact absurd (nI_le z (by omega)) hc1
      obtain ⟨k, rfl⟩ : ∃ z, k = z + 1 := ⟨k - 1, by omega⟩
      refine g_aload_0 hX (dk DX3_holds_0 19 rfl) ?_
      refine g_getRs (r := (47 + 5 * p)) hX (dk DX3_holds_0 20 rfl) KX3 fX3_21 (by decide) rfl (PL0 hH hp) (PSh hH hp) (PR6 hH hp) ?_
      refine g_iload_6 hX (dk DX3_holds_0 21 rfl) ?_
      refine i_iaload hX (dk DX3_holds_0 22 rfl) (PLt hH (j := 4) hp (by decide)) (PA7 hH hp) (⟨rfl, by omega, by decide⟩) ?_
      refine g_istore_7 hX (dk DX3_holds_0 23 rfl) (by decide) rfl ?_
      refine g_iload_7 hX (dk DX3_holds_0 24 rfl) ?_
      refine g_bipush (v := 33) hX (dk DX3_holds_0 25 rfl) (by decide) ?_
      refine g_icmp_ne (tgt := 57) hX (dk DX3_holds_0 26 rfl) (by decide) (fun hc3 => ?_) (fun hc3 => ?_)
      · refine g_iload_7 hX (dk DX3_holds_0 32 rfl) ?_
        refine g_bipush (v := 38) hX (dk DX3_holds_0 33 rfl) (by decide) ?_
        refine g_icmp_ne (tgt := 79) hX (dk DX3_holds_0 34 rfl) (by decide) (fun hc4 => ?_) (fun hc4 => ?_)
        · refine g_iload_7 hX (dk DX3_holds_0 44 rfl) ?_
          refine g_bipush (v := 124) hX (dk DX3_holds_0 45 rfl) (by decide) ?_
          refine g_icmp_ne (tgt := 100) hX (dk DX3_holds_0 46 rfl) (by decide) (fun hc5 => ?_) (fun hc5 => ?_)
          · refine g_iload_5 hX (dk DX3_holds_0 56 rfl) ?_
            refine g_iconst (v := 1) hX (dk DX3_holds_0 57 rfl) (by decide) ?_
            refine g_ishl hX (dk DX3_holds_0 58 rfl) ?_
            refine g_iload_7 hX (dk DX3_holds_0 59 rfl) ?_
            refine g_aload_2 hX (dk DX3_holds_1 0 rfl) ?_
            refine g_iload_3 hX (dk DX3_holds_1 1 rfl) ?_
            refine g_iload_4 hX (dk DX3_holds_1 2 rfl) ?_
            refine g_c4I hX sX3_holds_110 (by decide) (Nat.le_of_ble_eq_true rfl) rcN (by decide) (by decide) (c_X3_passes hG hq hdc) ?_
            refine g_if_eq (tgt := 120) hX (dk DX3_holds_1 4 rfl) (by decide) (fun hc6 => ?_) (fun hc6 => ?_)
            · have hps := hc6
              refine g_iconst (v := 0) hX (dk DX3_holds_1 7 rfl) (by decide) ?_
              refine g_ior hX (dk DX3_holds_1 8 rfl) ?_
              refine g_istore_5 hX (dk DX3_holds_1 9 rfl) (by decide) rfl ?_
              refine g_iinc_6 hX (dk DX3_holds_1 10 rfl) (nI_1 c) (by decide) rfl ?_
              refine g_goto (tgt := 21) hX (dk DX3_holds_1 11 rfl) (by decide) ?_
              exact g_fgt (ih k (by omega) (c + 1) _ (by omega) (by omega) (by rw [← hv, hbR_s]; unfold stC; (try first | rw [if_pos hc1] | rw [if_neg hc1] | rw [if_neg (not_not_intro hc1)]); (try first | rw [if_pos hc3] | rw [if_neg hc3] | rw [if_neg (not_not_intro hc3)]); (try first | rw [if_pos hc4] | rw [if_neg hc4] | rw [if_neg (not_not_intro hc4)]); (try first | rw [if_pos hc5] | rw [if_neg hc5] | rw [if_neg (not_not_intro hc5)]); (try first | rw [if_pos hc6] | rw [if_neg hc6] | rw [if_neg (not_not_intro hc6)]); first | done | rfl | rw [hps])) ⟨rfl, rfl, rfl, rfl, rfl, rfl, rfl, trivial⟩
            · have hps := psC_1 hc6
              refine g_iconst (v := 1) hX (dk DX3_holds_1 5 rfl) (by decide) ?_
              refine g_goto (tgt := 121) hX (dk DX3_holds_1 6 rfl) (by decide) ?_
              refine g_ior hX (dk DX3_holds_1 8 rfl) ?_
              refine g_istore_5 hX (dk DX3_holds_1 9 rfl) (by decide) rfl ?_
              refine g_iinc_6 hX (dk DX3_holds_1 10 rfl) (nI_1 c) (by decide) rfl ?_
              refine g_goto (tgt := 21) hX (dk DX3_holds_1 11 rfl) (by decide) ?_
              exact g_fgt (ih k (by omega) (c + 1) _ (by omega) (by omega) (by rw [← hv, hbR_s]; unfold stC; (try first | rw [if_pos hc1] | rw [if_neg hc1] | rw [if_neg (not_not_intro hc1)]); (try first | rw [if_pos hc3] | rw [if_neg hc3] | rw [if_neg (not_not_intro hc3)]); (try first | rw [if_pos hc4] | rw [if_neg hc4] | rw [if_neg (not_not_intro hc4)]); (try first | rw [if_pos hc5] | rw [if_neg hc5] | rw [if_neg (not_not_intro hc5)]); (try first | rw [if_pos hc6] | rw [if_neg hc6] | rw [if_neg (not_not_intro hc6)]); first | done | rfl | rw [hps])) ⟨rfl, rfl, rfl, rfl, rfl, rfl, rfl, trivial⟩
          · refine g_iload_5 hX (dk DX3_holds_0 47 rfl) ?_
            refine g_iconst (v := 1) hX (dk DX3_holds_0 48 rfl) (by decide) ?_
            refine g_ishr hX (dk DX3_holds_0 49 rfl) ?_
            refine g_iload_5 hX (dk DX3_holds_0 50 rfl) ?_
            refine g_iconst (v := 1) hX (dk DX3_holds_0 51 rfl) (by decide) ?_
            refine g_iand hX (dk DX3_holds_0 52 rfl) ?_
            refine g_ior hX (dk DX3_holds_0 53 rfl) ?_
            refine g_istore_5 hX (dk DX3_holds_0 54 rfl) (by decide) rfl ?_
            refine g_goto (tgt := 124) hX (dk DX3_holds_0 55 rfl) (by decide) ?_
            refine g_iinc_6 hX (dk DX3_holds_1 10 rfl) (nI_1 c) (by decide) rfl ?_
            refine g_goto (tgt := 21) hX (dk DX3_holds_1 11 rfl) (by decide) ?_
            exact g_fgt (ih k (by omega) (c + 1) _ (by omega) (by omega) (by rw [← hv, hbR_s]; unfold stC; (try first | rw [if_pos hc1] | rw [if_neg hc1] | rw [if_neg (not_not_intro hc1)]); (try first | rw [if_pos hc3] | rw [if_neg hc3] | rw [if_neg (not_not_intro hc3)]); (try first | rw [if_pos hc4] | rw [if_neg hc4] | rw [if_neg (not_not_intro hc4)]); (try first | rw [if_pos hc5] | rw [if_neg hc5] | rw [if_neg (not_not_intro hc5)]); first | done | rfl | rw [hps])) ⟨rfl, rfl, rfl, rfl, rfl, rfl, rfl, trivial⟩
        · refine g_iload_5 hX (dk DX3_holds_0 35 rfl) ?_
          refine g_iconst (v := 1) hX (dk DX3_holds_0 36 rfl) (by decide) ?_
          refine g_ishr hX (dk DX3_holds_0 37 rfl) ?_
          refine g_iload_5 hX (dk DX3_holds_0 38 rfl) ?_
          refine g_bipush (v := -2) hX (dk DX3_holds_0 39 rfl) (by decide) ?_
          refine g_ior hX (dk DX3_holds_0 40 rfl) ?_
          refine g_iand hX (dk DX3_holds_0 41 rfl) ?_
          refine g_istore_5 hX (dk DX3_holds_0 42 rfl) (by decide) rfl ?_
          refine g_goto (tgt := 124) hX (dk DX3_holds_0 43 rfl) (by decide) ?_
          refine g_iinc_6 hX (dk DX3_holds_1 10 rfl) (nI_1 c) (by decide) rfl ?_
          refine g_goto (tgt := 21) hX (dk DX3_holds_1 11 rfl) (by decide) ?_
          exact g_fgt (ih k (by omega) (c + 1) _ (by omega) (by omega) (by rw [← hv, hbR_s]; unfold stC; (try first | rw [if_pos hc1] | rw [if_neg hc1] | rw [if_neg (not_not_intro hc1)]); (try first | rw [if_pos hc3] | rw [if_neg hc3] | rw [if_neg (not_not_intro hc3)]); (try first | rw [if_pos hc4] | rw [if_neg hc4] | rw [if_neg (not_not_intro hc4)]); first | done | rfl | rw [hps])) ⟨rfl, rfl, rfl, rfl, rfl, rfl, rfl, trivial⟩
      · refine g_iload_5 hX (dk DX3_holds_0 27 rfl) ?_
        refine g_iconst (v := 1) hX (dk DX3_holds_0 28 rfl) (by decide) ?_
        refine g_ixor hX (dk DX3_holds_0 29 rfl) ?_
        refine g_istore_5 hX (dk DX3_holds_0 30 rfl) (by decide) rfl ?_
        refine g_goto (tgt := 124) hX (dk DX3_holds_0 31 rfl) (by decide) ?_
        refine g_iinc_6 hX (dk DX3_holds_1 10 rfl) (nI_1 c) (by decide) rfl ?_
        refine g_goto (tgt := 21) hX (dk DX3_holds_1 11 rfl) (by decide) ?_
        exact g_fgt (ih k (by omega) (c + 1) _ (by omega) (by omega) (by rw [← hv, hbR_s]; unfold stC; (try first | rw [if_pos hc1] | rw [if_neg hc1] | rw [if_neg (not_not_intro hc1)]); (try first | rw [if_pos hc3] | rw [if_neg hc3] | rw [if_neg (not_not_intro hc3)]); first | done | rfl | rw [hps])) ⟨rfl, rfl, rfl, rfl, rfl, rfl, rfl, trivial⟩
  refine g_iconst (v := 0) hX (dk DX3_holds_0 0 rfl) (by decide) ?_
  refine g_istore_5 hX (dk DX3_holds_0 1 rfl) (by decide) rfl ?_
  refine g_iload_1 hX (dk DX3_holds_0 2 rfl) ?_
  refine g_if_ne (tgt := 11) hX (dk DX3_holds_0 3 rfl) (by decide) (fun hc1 => ?_) (fun hc1 => ?_)
  · refine g_aload_0 hX (dk DX3_holds_0 6 rfl) ?_
    refine g_getRs (r := (46 + 5 * p)) hX (dk DX3_holds_0 7 rfl) KX3 fX3_18 (by decide) rfl (PL0 hH hp) (PSh hH hp) (PR5 hH hp) ?_
    refine g_iload_1 hX (dk DX3_holds_0 8 rfl) ?_
    refine g_iconst (v := 1) hX (dk DX3_holds_0 9 rfl) (by decide) ?_
    refine g_isub hX (dk DX3_holds_0 10 rfl) ?_
    refine i_iaload hX (dk DX3_holds_0 11 rfl) (PLt hH (j := 3) hp (by decide)) (PA6 hH hp) (k_1 hc0 hc1) ?_
    refine g_nmI (nI (eB I p c0)) (by first | exact eB_z hc0 (by assumption) | exact eB_z hc0 (Decidable.not_not.mp (by assumption)) | exact eB_n hPO hp hc0 (by assumption)) ?_
    refine g_istore_6 hX (dk DX3_holds_0 12 rfl) (by decide) rfl ?_
    exact g_fgt (loop21 _ (eB I p c0) 0 rfl (eB_le hPO hp hc0) rfl) ⟨rfl, rfl, rfl, rfl, rfl, rfl, rfl, trivial⟩
  · refine g_iconst (v := 0) hX (dk DX3_holds_0 4 rfl) (by decide) ?_
    refine g_goto (tgt := 19) hX (dk DX3_holds_0 5 rfl) (by decide) ?_
    refine g_nmI (nI (eB I p c0)) (by first | exact eB_z hc0 (by assumption) | exact eB_z hc0 (Decidable.not_not.mp (by assumption)) | exact eB_n hPO hp hc0 (by assumption)) ?_
    refine g_istore_6 hX (dk DX3_holds_0 12 rfl) (by decide) rfl ?_
    exact g_fgt (loop21 _ (eB I p c0) 0 rfl (eB_le hPO hp hc0) rfl) ⟨rfl, rfl, rfl, rfl, rfl, rfl, rfl, trivial⟩

set_option maxRecDepth 8000 in
set_option maxHeartbeats 4000000 in
theorem c_X3_together {G : Gt} (hG : Gok G) {I : It} {h : Ht}  (hH : HX h) (hPO : PO I h) {p q : Nat} {wd y w : Int32} (hp : p < 6) (hq : q < hn h) (hdc : isDC (hs h q).1) : Con G (4) 0 0 mX3_together [.ref (43 + 5 * p), .int wd, .ref q, .int y, .int w] I h (rI (tgR I h p wd q y w (tN (I (43 + 5 * p) 2)) 0 0) I h) := by
  refine con_intro (own := RX3) (lo0 := [some (.ref (43 + 5 * p)), some (.int wd), some (.ref q), some (.int y), some (.int w), none, none]) hG rfl pl_X3 (Nat.le_of_ble_eq_true rfl) rfl (fun X hX => ?_)
  obtain ⟨cl, hcl, ecl⟩ := (hPO.2 p hp).1
  have loop6 : ∀ (k c : Nat) (z : Int32), c + k = cl → tgR I h p wd q y w k c z = tgR I h p wd q y w cl 0 0 → GG G (4) 0 0 X (rI (tgR I h p wd q y w (tN (I (43 + 5 * p) 2)) 0 0) I h) 6 [some (.ref (43 + 5 * p)), some (.int wd), some (.ref q), some (.int y), some (.int w), some (.int z), some (.int (nI c))] [] (I) (h) 0 0 := by
    intro k
    induction k using Nat.strongRecOn with | _ k ih => ?_
    intro c z hk hv
    refine g_iload_6 hX (dk DX3_together 4 rfl) ?_
    refine g_aload_0 hX (dk DX3_together 5 rfl) ?_
    refine g_getIv hX (dk DX3_together 6 rfl) KX3 fX3_45 (by decide) rfl (PL0 hH hp) (PSh hH hp) (ecl) ?_
    refine g_icmp_ge (tgt := 57) hX (dk DX3_together 7 rfl) (by decide) (fun hc1 => ?_) (fun hc1 => ?_)
    · refine g_iload_5 hX (dk DX3_together 30 rfl) ?_
      refine g_ireturn hX (dk DX3_together 31 rfl) rfl (rfl) (by decide) (by decide) ?_
      have hk0 := cl_end hk (by omega) hc1
      subst hk0
      exact rI_of (by rw [ecl, tN_nI (by omega)]; exact hv) rfl rfl
    · obtain ⟨k, rfl⟩ := cl_go hk (by omega) hc1
      refine g_aload_0 hX (dk DX3_together 8 rfl) ?_
      refine g_getRs (r := (44 + 5 * p)) hX (dk DX3_together 9 rfl) KX3 fX3_11 (by decide) rfl (PL0 hH hp) (PSh hH hp) (PR3 hH hp) ?_
      refine g_iload_6 hX (dk DX3_together 10 rfl) ?_
      refine i_iaload hX (dk DX3_together 11 rfl) (PLt hH (j := 1) hp (by decide)) (PA4 hH hp) (⟨rfl, by omega, by decide⟩) ?_
      refine g_iload_1 hX (dk DX3_together 12 rfl) ?_
      refine g_icmp_ne (tgt := 51) hX (dk DX3_together 13 rfl) (by decide) (fun hc2 => ?_) (fun hc2 => ?_)
      · refine g_iinc_6 hX (dk DX3_together 28 rfl) (nI_1 c) (by decide) rfl ?_
        refine g_goto (tgt := 6) hX (dk DX3_together 29 rfl) (by decide) ?_
        first
        | exact g_fgt (ih k (by omega) (c + 1) (z + I (45 + 5 * p) c) (by omega) (by rw [← hv, tgR_s, if_pos (show I (44 + 5 * p) c = wd ∧ hoC I h p c q y w from ⟨by assumption, by assumption⟩)])) ⟨rfl, rfl, rfl, rfl, rfl, rfl, rfl, trivial⟩
        | exact g_fgt (ih k (by omega) (c + 1) z (by omega) (by rw [← hv, tgR_s, if_neg (show ¬ (I (44 + 5 * p) c = wd ∧ hoC I h p c q y w) from fun z => absurd z.1 (by assumption))])) ⟨rfl, rfl, rfl, rfl, rfl, rfl, rfl, trivial⟩
        | exact g_fgt (ih k (by omega) (c + 1) z (by omega) (by rw [← hv, tgR_s, if_neg (show ¬ (I (44 + 5 * p) c = wd ∧ hoC I h p c q y w) from fun z => absurd z.2 (by assumption))])) ⟨rfl, rfl, rfl, rfl, rfl, rfl, rfl, trivial⟩
      · have hA := hc2
        refine g_aload_0 hX (dk DX3_together 14 rfl) ?_
        refine g_iload_6 hX (dk DX3_together 15 rfl) ?_
        refine g_aload_2 hX (dk DX3_together 16 rfl) ?_
        refine g_iload_3 hX (dk DX3_together 17 rfl) ?_
        refine g_iload_4 hX (dk DX3_together 18 rfl) ?_
        refine g_c5I hX sX3_together_33 (by decide) (Nat.le_of_ble_eq_true rfl) (rc0 rfl (PL0 hH hp) (PSh hH hp)) (by decide) (by decide) (c_X3_holds hG hH hPO hp (by omega) hq hdc) ?_
        refine g_ifb_eq (tgt := 51) hX (dk DX3_together 20 rfl) (by decide) (fun hc3 => ?_) (fun hc3 => ?_)
        · refine g_iinc_6 hX (dk DX3_together 28 rfl) (nI_1 c) (by decide) rfl ?_
          refine g_goto (tgt := 6) hX (dk DX3_together 29 rfl) (by decide) ?_
          first
          | exact g_fgt (ih k (by omega) (c + 1) (z + I (45 + 5 * p) c) (by omega) (by rw [← hv, tgR_s, if_pos (show I (44 + 5 * p) c = wd ∧ hoC I h p c q y w from ⟨by assumption, by assumption⟩)])) ⟨rfl, rfl, rfl, rfl, rfl, rfl, rfl, trivial⟩
          | exact g_fgt (ih k (by omega) (c + 1) z (by omega) (by rw [← hv, tgR_s, if_neg (show ¬ (I (44 + 5 * p) c = wd ∧ hoC I h p c q y w) from fun z => absurd z.1 (by assumption))])) ⟨rfl, rfl, rfl, rfl, rfl, rfl, rfl, trivial⟩
          | exact g_fgt (ih k (by omega) (c + 1) z (by omega) (by rw [← hv, tgR_s, if_neg (show ¬ (I (44 + 5 * p) c = wd ∧ hoC I h p c q y w) from fun z => absurd z.2 (by assumption))])) ⟨rfl, rfl, rfl, rfl, rfl, rfl, rfl, trivial⟩
        · have hB := hc3
          refine g_iload_5 hX (dk DX3_together 21 rfl) ?_
          refine g_aload_0 hX (dk DX3_together 22 rfl) ?_
          refine g_getRs (r := (45 + 5 * p)) hX (dk DX3_together 23 rfl) KX3 fX3_15 (by decide) rfl (PL0 hH hp) (PSh hH hp) (PR4 hH hp) ?_
          refine g_iload_6 hX (dk DX3_together 24 rfl) ?_
          refine i_iaload hX (dk DX3_together 25 rfl) (PLt hH (j := 2) hp (by decide)) (PA5 hH hp) (⟨rfl, by omega, by decide⟩) ?_
          refine g_iadd hX (dk DX3_together 26 rfl) ?_
          refine g_istore_5 hX (dk DX3_together 27 rfl) (by decide) rfl ?_
          refine g_iinc_6 hX (dk DX3_together 28 rfl) (nI_1 c) (by decide) rfl ?_
          refine g_goto (tgt := 6) hX (dk DX3_together 29 rfl) (by decide) ?_
          first
          | exact g_fgt (ih k (by omega) (c + 1) (z + I (45 + 5 * p) c) (by omega) (by rw [← hv, tgR_s, if_pos (show I (44 + 5 * p) c = wd ∧ hoC I h p c q y w from ⟨by assumption, by assumption⟩)])) ⟨rfl, rfl, rfl, rfl, rfl, rfl, rfl, trivial⟩
          | exact g_fgt (ih k (by omega) (c + 1) z (by omega) (by rw [← hv, tgR_s, if_neg (show ¬ (I (44 + 5 * p) c = wd ∧ hoC I h p c q y w) from fun z => absurd z.1 (by assumption))])) ⟨rfl, rfl, rfl, rfl, rfl, rfl, rfl, trivial⟩
          | exact g_fgt (ih k (by omega) (c + 1) z (by omega) (by rw [← hv, tgR_s, if_neg (show ¬ (I (44 + 5 * p) c = wd ∧ hoC I h p c q y w) from fun z => absurd z.2 (by assumption))])) ⟨rfl, rfl, rfl, rfl, rfl, rfl, rfl, trivial⟩
  refine g_iconst (v := 0) hX (dk DX3_together 0 rfl) (by decide) ?_
  refine g_istore_5 hX (dk DX3_together 1 rfl) (by decide) rfl ?_
  refine g_iconst (v := 0) hX (dk DX3_together 2 rfl) (by decide) ?_
  refine g_istore_6 hX (dk DX3_together 3 rfl) (by decide) rfl ?_
  exact g_fgt (loop6 cl 0 0 (Nat.zero_add _) rfl) ⟨rfl, rfl, rfl, rfl, rfl, rfl, rfl, trivial⟩
end
section
set_option maxRecDepth 8000 in
set_option maxHeartbeats 4000000 in
theorem cn_X5_saidBy {G : Gt} (hG : Gok G) {I : It} {h : Ht}  (hW : WX I h) {q : Nat} {y : Int32} (hq : q < hn h) (hdc : isDC (hs h q).1) (hps : hR h 1 13 = none) : Con G (5) 0 0 mX5_saidBy [.ref 1, .ref q, .int y] I h (rI 0 I h) := by
  refine con_intro (own := RX5) (lo0 := [some (.ref 1), some (.ref q), some (.int y)]) hG rfl pl_X5 (Nat.le_of_ble_eq_true rfl) rfl (fun X hX => ?_)
  have hH := hW.1
  have hc10 := hW.2.1.2
  refine g_aload_0 hX (dk DX5_saidBy 0 rfl) ?_
  refine g_getR (r := none) hX (dk DX5_saidBy 1 rfl) KX5 fX5_61 (by decide) rfl (CLt hH (q := 1) (by decide)) (CC hH 1 (by decide) rfl) (hps) ?_
  refine g_ifnonnullN hX (dk DX5_saidBy 2 rfl) ?_
  refine g_iconst (v := 0) hX (dk DX5_saidBy 3 rfl) (by decide) ?_
  refine g_goto (tgt := 23) hX (dk DX5_saidBy 4 rfl) (by decide) ?_
  refine g_ireturn hX (dk DX5_saidBy 12 rfl) rfl (rfl) (by decide) (by decide) ?_
  exact rI_of rfl rfl rfl

set_option maxRecDepth 8000 in
set_option maxHeartbeats 4000000 in
theorem cs_X5_saidBy {G : Gt} (hG : Gok G) {I : It} {h : Ht}  (hW : WX I h) {q : Nat} {y : Int32} (hq : q < hn h) (hdc : isDC (hs h q).1) {p : Nat} (hp : p < 6) (hps : hR h 1 13 = some (43 + 5 * p)) : Con G (5) 0 0 mX5_saidBy [.ref 1, .ref q, .int y] I h (rI (tgR I h p 115 q y 0 (tN (I (43 + 5 * p) 2)) 0 0) I h) := by
  refine con_intro (own := RX5) (lo0 := [some (.ref 1), some (.ref q), some (.int y)]) hG rfl pl_X5 (Nat.le_of_ble_eq_true rfl) rfl (fun X hX => ?_)
  have hH := hW.1
  have hc10 := hW.2.1.2
  refine g_aload_0 hX (dk DX5_saidBy 0 rfl) ?_
  refine g_getRs (r := (43 + 5 * p)) hX (dk DX5_saidBy 1 rfl) KX5 fX5_61 (by decide) rfl (CLt hH (q := 1) (by decide)) (CC hH 1 (by decide) rfl) (hps) ?_
  refine g_ifnonnull (tgt := 11) hX (dk DX5_saidBy 2 rfl) (by decide) ?_
  refine g_aload_0 hX (dk DX5_saidBy 5 rfl) ?_
  refine g_getRs (r := (43 + 5 * p)) hX (dk DX5_saidBy 6 rfl) KX5 fX5_61 (by decide) rfl (CLt hH (q := 1) (by decide)) (CC hH 1 (by decide) rfl) (hps) ?_
  refine g_bipush (v := 115) hX (dk DX5_saidBy 7 rfl) (by decide) ?_
  refine g_aload_1 hX (dk DX5_saidBy 8 rfl) ?_
  refine g_iload_2 hX (dk DX5_saidBy 9 rfl) ?_
  refine g_iconst (v := 0) hX (dk DX5_saidBy 10 rfl) (by decide) ?_
  refine g_c5I hX sX5_saidBy_20 (by decide) (Nat.le_of_ble_eq_true rfl) (rc0 rfl (PL0 hH hp) (PSh hH hp)) (by decide) (by decide) (c_X3_together hG hH hW.2.2.2.1 hp hq hdc) ?_
  refine g_ireturn hX (dk DX5_saidBy 12 rfl) rfl (rfl) (by decide) (by decide) ?_
  exact rI_of rfl rfl rfl

theorem c_X5_saidBy {G : Gt} (hG : Gok G) {I : It} {h : Ht} (hW : WX I h) {q : Nat} {y : Int32} (hq : q < hn h) (hdc : isDC (hs h q).1) : Con G 5 0 0 mX5_saidBy [.ref 1, .ref q, .int y] I h (rI (tgF I h 115 q y 0) I h) := by
  cases hps : hR h 1 13 with
  | none =>
    have hc := cn_X5_saidBy hG hW (y := y) hq hdc hps
    have e : tgF I h 115 q y 0 = 0 := by unfold tgF; rw [hps]
    rw [e]; exact hc
  | some P =>
    obtain ⟨p, hp, rfl⟩ := hW.2.2.2.1.1 P hps
    have hc := cs_X5_saidBy hG hW (y := y) hq hdc hp hps
    have e : tgF I h 115 q y 0 = tgR I h p 115 q y 0 (tN (I (43 + 5 * p) 2)) 0 0 := by unfold tgF; rw [hps]; show tgR I h (pN (43 + 5 * p)) 115 q y 0 _ 0 0 = _; rw [pN_eq]
    rw [e]; exact hc
set_option maxRecDepth 8000 in
set_option maxHeartbeats 4000000 in
theorem cn_X5_dearIn {G : Gt} (hG : Gok G) {I : It} {h : Ht}  (hW : WX I h) {q : Nat} {w : Int32} (hq : q < hn h) (hdc : isDC (hs h q).1) (hps : hR h 1 13 = none) : Con G (5) 0 0 mX5_dearIn [.ref 1, .ref q, .int w] I h (rI (I q 4 + 0) I h) := by
  refine con_intro (own := RX5) (lo0 := [some (.ref 1), some (.ref q), some (.int w)]) hG rfl pl_X5 (Nat.le_of_ble_eq_true rfl) rfl (fun X hX => ?_)
  have hH := hW.1
  have hc10 := hW.2.1.2
  refine g_aload_1 hX (dk DX5_dearIn 0 rfl) ?_
  refine g_getD (v := _) hX (dk DX5_dearIn 1 rfl) fX5_80 (by decide) hq hdc (rfl) ?_
  refine g_aload_0 hX (dk DX5_dearIn 2 rfl) ?_
  refine g_getR (r := none) hX (dk DX5_dearIn 3 rfl) KX5 fX5_61 (by decide) rfl (CLt hH (q := 1) (by decide)) (CC hH 1 (by decide) rfl) (hps) ?_
  refine g_ifnonnullN hX (dk DX5_dearIn 4 rfl) ?_
  refine g_iconst (v := 0) hX (dk DX5_dearIn 5 rfl) (by decide) ?_
  refine g_goto (tgt := 31) hX (dk DX5_dearIn 6 rfl) (by decide) ?_
  refine g_iadd hX (dk DX5_dearIn 16 rfl) ?_
  refine g_ireturn hX (dk DX5_dearIn 17 rfl) rfl (rfl) (by decide) (by decide) ?_
  exact rI_of rfl rfl rfl

set_option maxRecDepth 8000 in
set_option maxHeartbeats 4000000 in
theorem cs_X5_dearIn {G : Gt} (hG : Gok G) {I : It} {h : Ht}  (hW : WX I h) {q : Nat} {w : Int32} (hq : q < hn h) (hdc : isDC (hs h q).1) {p : Nat} (hp : p < 6) (hps : hR h 1 13 = some (43 + 5 * p)) : Con G (5) 0 0 mX5_dearIn [.ref 1, .ref q, .int w] I h (rI (I q 4 + tgR I h p 99 q 9 (remI w 60) (tN (I (43 + 5 * p) 2)) 0 0) I h) := by
  refine con_intro (own := RX5) (lo0 := [some (.ref 1), some (.ref q), some (.int w)]) hG rfl pl_X5 (Nat.le_of_ble_eq_true rfl) rfl (fun X hX => ?_)
  have hH := hW.1
  have hc10 := hW.2.1.2
  refine g_aload_1 hX (dk DX5_dearIn 0 rfl) ?_
  refine g_getD (v := _) hX (dk DX5_dearIn 1 rfl) fX5_80 (by decide) hq hdc (rfl) ?_
  refine g_aload_0 hX (dk DX5_dearIn 2 rfl) ?_
  refine g_getRs (r := (43 + 5 * p)) hX (dk DX5_dearIn 3 rfl) KX5 fX5_61 (by decide) rfl (CLt hH (q := 1) (by decide)) (CC hH 1 (by decide) rfl) (hps) ?_
  refine g_ifnonnull (tgt := 15) hX (dk DX5_dearIn 4 rfl) (by decide) ?_
  refine g_aload_0 hX (dk DX5_dearIn 7 rfl) ?_
  refine g_getRs (r := (43 + 5 * p)) hX (dk DX5_dearIn 8 rfl) KX5 fX5_61 (by decide) rfl (CLt hH (q := 1) (by decide)) (CC hH 1 (by decide) rfl) (hps) ?_
  refine g_bipush (v := 99) hX (dk DX5_dearIn 9 rfl) (by decide) ?_
  refine g_aload_1 hX (dk DX5_dearIn 10 rfl) ?_
  refine g_bipush (v := 9) hX (dk DX5_dearIn 11 rfl) (by decide) ?_
  refine g_iload_2 hX (dk DX5_dearIn 12 rfl) ?_
  refine g_bipush (v := 60) hX (dk DX5_dearIn 13 rfl) (by decide) ?_
  refine g_irem hX (dk DX5_dearIn 14 rfl) (by decide) ?_
  refine g_c5I hX sX5_dearIn_28 (by decide) (Nat.le_of_ble_eq_true rfl) (rc0 rfl (PL0 hH hp) (PSh hH hp)) (by decide) (by decide) (c_X3_together hG hH hW.2.2.2.1 hp hq hdc) ?_
  refine g_iadd hX (dk DX5_dearIn 16 rfl) ?_
  refine g_ireturn hX (dk DX5_dearIn 17 rfl) rfl (rfl) (by decide) (by decide) ?_
  exact rI_of rfl rfl rfl

theorem c_X5_dearIn {G : Gt} (hG : Gok G) {I : It} {h : Ht} (hW : WX I h) {q : Nat} {w : Int32} (hq : q < hn h) (hdc : isDC (hs h q).1) : Con G 5 0 0 mX5_dearIn [.ref 1, .ref q, .int w] I h (rI (I q 4 + tgF I h 99 q 9 (remI w 60)) I h) := by
  cases hps : hR h 1 13 with
  | none =>
    have hc := cn_X5_dearIn hG hW (w := w) hq hdc hps
    have e : tgF I h 99 q 9 (remI w 60) = 0 := by unfold tgF; rw [hps]
    rw [e]; exact hc
  | some P =>
    obtain ⟨p, hp, rfl⟩ := hW.2.2.2.1.1 P hps
    have hc := cs_X5_dearIn hG hW (w := w) hq hdc hp hps
    have e : tgF I h 99 q 9 (remI w 60) = tgR I h p 99 q 9 (remI w 60) (tN (I (43 + 5 * p) 2)) 0 0 := by unfold tgF; rw [hps]; show tgR I h (pN (43 + 5 * p)) 99 q 9 _ _ 0 0 = _; rw [pN_eq]
    rw [e]; exact hc
end
section
/-! looking ahead: what is written, not yet what comes of it -/
theorem nI_xor (a b : Nat) : nI a ^^^ nI b = nI (a ^^^ b) := by
  apply Int32.toBitVec.inj
  rw [Int32.toBitVec_xor, nI_bv, nI_bv, nI_bv]
  apply BitVec.eq_of_toNat_eq
  simp [Nat.xor_mod_two_pow]
theorem fm_nI {x r : Nat} (hx : x < 2 ^ 31) (h0 : 0 < r) (hr : r < 2 ^ 31) : fmI (nI x) (nI r) = nI (x % r) := by
  unfold fmI
  rw [nI_xor, if_pos (nI_pos' (Nat.xor_lt_two_pow hx hr)), rem_nI hx h0 hr]
theorem dcell {d x : Nat} (hx : x < 2 ^ 31) : nI d * 60 + fmI (nI x) 60 = nI (d * 60 + x % 60) := by
  rw [show (60 : Int32) = nI 60 from rfl, fm_nI hx (by decide) (by decide), pk_mul, nI_add]
theorem dcell_lt {d x : Nat} (hd : d < 10) : d * 60 + x % 60 < 600 := by
  have := Nat.mod_lt x (show 0 < 60 by decide)
  omega
theorem clamp (n : Int32) : ∃ m, m ≤ 200 ∧ (if (0 : Int32) < (if (200 : Int32) < n then 200 else n) then (if (200 : Int32) < n then 200 else n) else 0) = nI m := by
  by_cases h : (200 : Int32) < n
  · rw [if_pos h, if_pos (by decide)]
    exact ⟨200, by decide, rfl⟩
  · rw [if_neg h]
    by_cases h0 : 0 < n
    · rw [if_pos h0]
      obtain ⟨m, hm, rfl⟩ := in_of (b := 200) (by decide) ⟨Int32.le_of_lt h0, Int32.not_lt.mp h⟩
      exact ⟨m, hm, rfl⟩
    · rw [if_neg h0]
      exact ⟨0, by decide, rfl⟩
theorem SR {h : Ht} (hH : HX h) {d : Nat} (hd : d < 10) : hR h 16 d = some (17 + d) := by
  rcases (by omega : d = 0 ∨ d = 1 ∨ d = 2 ∨ d = 3 ∨ d = 4 ∨ d = 5 ∨ d = 6 ∨ d = 7 ∨ d = 8 ∨ d = 9) with rfl | rfl | rfl | rfl | rfl | rfl | rfl | rfl | rfl | rfl <;> exact CR hH 16 _ _ (by decide)
theorem SA {h : Ht} (hH : HX h) {d : Nat} (hd : d < 10) : hs h (17 + d) = (20, 4) := by
  rcases (by omega : d = 0 ∨ d = 1 ∨ d = 2 ∨ d = 3 ∨ d = 4 ∨ d = 5 ∨ d = 6 ∨ d = 7 ∨ d = 8 ∨ d = 9) with rfl | rfl | rfl | rfl | rfl | rfl | rfl | rfl | rfl | rfl <;> exact CS hH _ (by decide) rfl
theorem SL {h : Ht} (hH : HX h) {d : Nat} (hd : d < 10) : 17 + d < hn h := CLt hH (by omega)
/-- cells 13 and 27 alone, and span stands -/
def P2 (I J : It) : Prop := (∀ a, a ≠ 13 → a ≠ 27 → J a = I a) ∧ J 13 1 = I 13 1
theorem P2.rf {I : It} : P2 I I := ⟨fun _ _ _ => rfl, rfl⟩
theorem P2.trans {I J K : It} (h1 : P2 I J) (h2 : P2 J K) : P2 I K := ⟨fun a z1 z2 => (h2.1 a z1 z2).trans (h1.1 a z1 z2), h2.2.trans h1.2⟩
theorem P2.sc {I J : It} (h : P2 I J) : Sc I J := fun a ha => h.1 a (by omega) (by omega)
theorem P2.u13 {I J : It} {j : Nat} {x : Int32} (h : P2 I J) (hj : j ≠ 1) : P2 I (upI J 13 j x) := ⟨fun a z1 z2 => (upI_off z1).trans (h.1 a z1 z2), (upn (by omega)).trans h.2⟩
theorem P2.u27 {I J : It} {j : Nat} {x : Int32} (h : P2 I J) : P2 I (upI J 27 j x) := ⟨fun a z1 z2 => (upI_off z2).trans (h.1 a z1 z2), (upn (by omega)).trans h.2⟩
theorem on_ix {x : Int32} {m : Nat} (h0 : ¬ x < 0) (h1 : ¬ nI m ≤ x) (hm : m ≤ 200) : idx x (tN x) 200 := by
  obtain ⟨j, hj, rfl⟩ := nI_of h0
  have : j < m := by
    rcases Nat.lt_or_ge j m with z | z
    · exact z
    · exact absurd (nI_le z hj) h1
  exact ⟨by rw [tN_nI hj], by rw [tN_nI hj]; omega, by decide⟩

set_option maxRecDepth 8000 in
set_option maxHeartbeats 4000000 in
theorem c_X0_dearCell {G : Gt} (hG : Gok G) {I : It} {h : Ht}  {a w : Int32} : Con G (2) 0 0 mX0_dearCell [.int a, .int w] I h (rI (a * 60 + fmI w 60) I h) := by
  refine con_intro (own := RX0) (lo0 := [some (.int a), some (.int w)]) hG rfl pl_X0 (Nat.le_of_ble_eq_true rfl) rfl (fun X hX => ?_)
  refine g_iload_0 hX (dk DX0_dearCell 0 rfl) ?_
  refine g_bipush (v := 60) hX (dk DX0_dearCell 1 rfl) (by decide) ?_
  refine g_imul hX (dk DX0_dearCell 2 rfl) ?_
  refine g_iload_1 hX (dk DX0_dearCell 3 rfl) ?_
  refine g_bipush (v := 60) hX (dk DX0_dearCell 4 rfl) (by decide) ?_
  refine g_c2I hX sX0_dearCell_7 (by decide) (Nat.le_of_ble_eq_true rfl) rcN (by decide) (by decide) (c_J9_floorMod_7cf53 hG (by decide)) ?_
  refine g_iadd hX (dk DX0_dearCell 6 rfl) ?_
  refine g_ireturn hX (dk DX0_dearCell 7 rfl) rfl (rfl) (by decide) (by decide) ?_
  exact rI_of rfl rfl rfl

set_option maxRecDepth 8000 in
set_option maxHeartbeats 4000000 in
theorem w_X0_lookDear {G : Gt} (hG : Gok G) {I : It} {h : Ht}  (hW : WX I h) {u : Int32} {x : Nat} (hx : x < 2 ^ 31) : Con G (6) 0 0 mX0_lookDear [.ref 13, .int u, .int (nI x)] I h (qV (fun I2 h2 => (∀ a, a ≠ 15 → I2 a = I a) ∧ h2 = h)) := by
  refine con_intro (own := RX0) (lo0 := [some (.ref 13), some (.int u), some (.int (nI x)), none, none, none]) hG rfl pl_X0 (Nat.le_of_ble_eq_true rfl) rfl (fun X hX => ?_)
  have hH := hW.1
  have hc10 := hW.2.1.2
  have loop2 : ∀ (k d : Nat) (J : It), d + k = cN I → (∀ a, a ≠ 15 → J a = I a) → GG G (6) 0 0 X (qV (fun I2 h2 => (∀ a, a ≠ 15 → I2 a = I a) ∧ h2 = h)) 2 [some (.ref 13), some (.int u), some (.int (nI x)), some (.int (nI d)), none, none] [] (J) (h) 0 0 := by
    intro k
    induction k using Nat.strongRecOn with | _ k ih => ?_
    intro d J hk hJ
    have hS : Sc I J := Sc.of1 hJ (by decide)
    have hWI := hW
    have hW := hW.sc hS
    have eJ : J 1 = I 1 := hS 1 (by omega)
    have ec : cN J = cN I := by unfold cN; rw [eJ]
    refine g_iload_3 hX (dk DX0_lookDear 2 rfl) ?_
    refine g_aload_0 hX (dk DX0_lookDear 3 rfl) ?_
    refine g_getRs (r := 1) hX (dk DX0_lookDear 4 rfl) KX0 fX0_34 (by decide) rfl (CLt hH (q := 13) (by decide)) (CC hH 13 (by decide) rfl) (CR hH 13 0 1 (by decide)) ?_
    refine g_getIv hX (dk DX0_lookDear 5 rfl) KX5 fX0_69 (by decide) rfl (CLt hH (q := 1) (by decide)) (CC hH 1 (by decide) rfl) ((show J 1 2 = nI (cN I) from by rw [eJ]; exact hWI.2.1.1)) ?_
    refine g_icmp_ge (tgt := 76) hX (dk DX0_lookDear 6 rfl) (by decide) (fun hc1 => ?_) (fun hc1 => ?_)
    · refine g_return hX (dk DX0_lookDear 38 rfl) rfl (by decide) (by decide) ?_
      exact qV_of ⟨hJ, rfl⟩
    · obtain ⟨k, rfl⟩ := cl_go hk (by omega) hc1
      obtain ⟨g1, g2, g3, g4, g5, g6⟩ := hW.2.2.1 d (by omega)
      refine g_iload_3 hX (dk DX0_lookDear 7 rfl) ?_
      refine g_iload_2 hX (dk DX0_lookDear 8 rfl) ?_
      refine g_c2I hX sX0_lookDear_15 (by decide) (Nat.le_of_ble_eq_true rfl) rcN (by decide) (by decide) (c_X0_dearCell hG) ?_
      refine g_nmI (nI (d * 60 + x % 60)) (dcell (by omega)) ?_
      refine g_istore_4 hX (dk DX0_lookDear 10 rfl) (by decide) rfl ?_
      refine g_aload_0 hX (dk DX0_lookDear 11 rfl) ?_
      refine g_getRs (r := 1) hX (dk DX0_lookDear 12 rfl) KX0 fX0_34 (by decide) rfl (CLt hH (q := 13) (by decide)) (CC hH 13 (by decide) rfl) (CR hH 13 0 1 (by decide)) ?_
      refine g_iload_3 hX (dk DX0_lookDear 13 rfl) ?_
      refine g_c2R hX sX0_lookDear_25 (by decide) (Nat.le_of_ble_eq_true rfl) (rc0 rfl (CLt hH (by decide)) (CC hH 1 (by decide) rfl)) (by decide) (by decide) (c_X5_find hG hW (by omega)) ?_
      refine g_astore_5 hX (dk DX0_lookDear 15 rfl) (by decide) rfl ?_
      refine g_aload_5 hX (dk DX0_lookDear 16 rfl) ?_
      refine g_ifnullR hX (dk DX0_lookDear 17 rfl) ?_
      refine g_iload_1 hX (dk DX0_lookDear 18 rfl) ?_
      refine g_iload_3 hX (dk DX0_lookDear 19 rfl) ?_
      refine g_c2I hX sX0_lookDear_37 (by decide) (Nat.le_of_ble_eq_true rfl) rcN (by decide) (by decide) (c_X11_bit hG ) ?_
      refine g_if_eq (tgt := 70) hX (dk DX0_lookDear 21 rfl) (by decide) (fun hc2 => ?_) (fun hc2 => ?_)
      · refine g_iinc_3 hX (dk DX0_lookDear 36 rfl) (nI_1 d) (by decide) rfl ?_
        refine g_goto (tgt := 2) hX (dk DX0_lookDear 37 rfl) (by decide) ?_
        exact g_fgt (ih k (by omega) (d + 1) _ (by omega) (fun a ha => by first | exact hJ a ha | (rw [upI_off ha]; exact hJ a ha))) ⟨rfl, rfl, rfl, rfl, trivial⟩
      · refine g_aload_0 hX (dk DX0_lookDear 22 rfl) ?_
        refine g_getRs (r := 15) hX (dk DX0_lookDear 23 rfl) KX0 fX0_17 (by decide) rfl (CLt hH (q := 13) (by decide)) (CC hH 13 (by decide) rfl) (CR hH 13 3 15 (by decide)) ?_
        refine g_iload_4 hX (dk DX0_lookDear 24 rfl) ?_
        refine i_iaload hX (dk DX0_lookDear 25 rfl) (CLt hH (q := 15) (by decide)) (CS hH 15 (by decide) rfl) (⟨rfl, dcell_lt (by omega), by decide⟩) ?_
        refine g_if_ge (tgt := 70) hX (dk DX0_lookDear 26 rfl) (by decide) (fun hc3 => ?_) (fun hc3 => ?_)
        · refine g_iinc_3 hX (dk DX0_lookDear 36 rfl) (nI_1 d) (by decide) rfl ?_
          refine g_goto (tgt := 2) hX (dk DX0_lookDear 37 rfl) (by decide) ?_
          exact g_fgt (ih k (by omega) (d + 1) _ (by omega) (fun a ha => by first | exact hJ a ha | (rw [upI_off ha]; exact hJ a ha))) ⟨rfl, rfl, rfl, rfl, trivial⟩
        · refine g_aload_0 hX (dk DX0_lookDear 27 rfl) ?_
          refine g_getRs (r := 15) hX (dk DX0_lookDear 28 rfl) KX0 fX0_17 (by decide) rfl (CLt hH (q := 13) (by decide)) (CC hH 13 (by decide) rfl) (CR hH 13 3 15 (by decide)) ?_
          refine g_iload_4 hX (dk DX0_lookDear 29 rfl) ?_
          refine g_aload_0 hX (dk DX0_lookDear 30 rfl) ?_
          refine g_getRs (r := 1) hX (dk DX0_lookDear 31 rfl) KX0 fX0_34 (by decide) rfl (CLt hH (q := 13) (by decide)) (CC hH 13 (by decide) rfl) (CR hH 13 0 1 (by decide)) ?_
          refine g_aload_5 hX (dk DX0_lookDear 32 rfl) ?_
          refine g_iload_2 hX (dk DX0_lookDear 33 rfl) ?_
          refine g_c3I hX sX0_lookDear_66 (by decide) (Nat.le_of_ble_eq_true rfl) (rc0 rfl (CLt hH (by decide)) (CC hH 1 (by decide) rfl)) (by decide) (by decide) (c_X5_dearIn hG hW g3 g4) ?_
          refine i_iastore hX (dk DX0_lookDear 35 rfl) (CLt hH (q := 15) (by decide)) (CS hH 15 (by decide) rfl) (⟨rfl, dcell_lt (by omega), by decide⟩) ?_
          refine g_iinc_3 hX (dk DX0_lookDear 36 rfl) (nI_1 d) (by decide) rfl ?_
          refine g_goto (tgt := 2) hX (dk DX0_lookDear 37 rfl) (by decide) ?_
          exact g_fgt (ih k (by omega) (d + 1) _ (by omega) (fun a ha => by first | exact hJ a ha | (rw [upI_off ha]; exact hJ a ha))) ⟨rfl, rfl, rfl, rfl, trivial⟩
  refine g_iconst (v := 0) hX (dk DX0_lookDear 0 rfl) (by decide) ?_
  refine g_istore_3 hX (dk DX0_lookDear 1 rfl) (by decide) rfl ?_
  exact g_fgt (loop2 (cN I) 0 I (Nat.zero_add _) (fun _ _ => rfl)) ⟨rfl, rfl, rfl, rfl, trivial⟩

set_option maxRecDepth 8000 in
set_option maxHeartbeats 4000000 in
theorem w_X0_look {G : Gt} (hG : Gok G) {I : It} {h : Ht}  (hW : WX I h) {n : Int32} : Con G (7) 0 0 mX0_look [.ref 13, .int n] I h (qV (fun I2 h2 => Sc I I2 ∧ h2 = h ∧ ∃ m, m ≤ 200 ∧ I2 13 1 = nI m)) := by
  refine con_intro (own := RX0) (lo0 := [some (.ref 13), some (.int n), none]) hG rfl pl_X0 (Nat.le_of_ble_eq_true rfl) rfl (fun X hX => ?_)
  have hH := hW.1
  have hc10 := hW.2.1.2
  have loop25 : ∀ m, m ≤ 200 → ∀ (k j : Nat) (J : It), Sc I J → J 13 1 = nI m → j + k = m → GG G (7) 0 0 X (qV (fun I2 h2 => Sc I I2 ∧ h2 = h ∧ ∃ m, m ≤ 200 ∧ I2 13 1 = nI m)) 25 [some (.ref 13), some (.int n), some (.int (nI j))] [] (J) (h) 0 0 := by
    intro m hm k
    induction k using Nat.strongRecOn with | _ k ih => ?_
    intro j J hS hsp hk
    have hw9 := hW.2.2.2.2.1.2
    have hWI := hW
    have hW := hW.sc hS
    have eJ : J 1 = I 1 := hS 1 (by omega)
    have ec : cN J = cN I := by unfold cN; rw [eJ]
    refine g_iload_2 hX (dk DX0_look 13 rfl) ?_
    refine g_aload_0 hX (dk DX0_look 14 rfl) ?_
    refine g_getIv hX (dk DX0_look 15 rfl) KX0 fX0_47 (by decide) rfl (CLt hH (q := 13) (by decide)) (CC hH 13 (by decide) rfl) (hsp) ?_
    refine g_icmp_ge (tgt := 80) hX (dk DX0_look 16 rfl) (by decide) (fun hc1 => ?_) (fun hc1 => ?_)
    · refine g_return hX (dk DX0_look 42 rfl) rfl (by decide) (by decide) ?_
      exact qV_of ⟨hS, rfl, m, hm, hsp⟩
    · obtain ⟨k, rfl⟩ := ct_go hk (by omega) hc1
      refine g_aload_0 hX (dk DX0_look 17 rfl) ?_
      refine g_getRs (r := 14) hX (dk DX0_look 18 rfl) KX0 fX0_9 (by decide) rfl (CLt hH (q := 13) (by decide)) (CC hH 13 (by decide) rfl) (CR hH 13 2 14 (by decide)) ?_
      refine g_iload_2 hX (dk DX0_look 19 rfl) ?_
      refine g_aload_0 hX (dk DX0_look 20 rfl) ?_
      refine g_getRs (r := 1) hX (dk DX0_look 21 rfl) KX0 fX0_34 (by decide) rfl (CLt hH (q := 13) (by decide)) (CC hH 13 (by decide) rfl) (CR hH 13 0 1 (by decide)) ?_
      refine g_aload_0 hX (dk DX0_look 22 rfl) ?_
      refine g_getRs (r := 1) hX (dk DX0_look 23 rfl) KX0 fX0_34 (by decide) rfl (CLt hH (q := 13) (by decide)) (CC hH 13 (by decide) rfl) (CR hH 13 0 1 (by decide)) ?_
      refine g_getIv hX (dk DX0_look 24 rfl) KX5 fX0_57 (by decide) rfl (CLt hH (q := 1) (by decide)) (CC hH 1 (by decide) rfl) ((show J 1 6 = nI (weN I) from by rw [eJ]; exact hWI.2.2.2.2.1.1)) ?_
      refine g_iload_2 hX (dk DX0_look 25 rfl) ?_
      refine g_iadd hX (dk DX0_look 26 rfl) ?_
      refine g_nmI (nI (weN I + j)) (nI_add _ _) ?_
      refine g_c2I hX sX0_look_51 (by decide) (Nat.le_of_ble_eq_true rfl) (rc0 rfl (CLt hH (by decide)) (CC hH 1 (by decide) rfl)) (by decide) (by decide) (c_X5_coming hG hW) ?_
      refine i_iastore hX (dk DX0_look 28 rfl) (CLt hH (q := 14) (by decide)) (CS hH 14 (by decide) rfl) (⟨rfl, by omega, by decide⟩) ?_
      refine g_aload_0 hX (dk DX0_look 29 rfl) ?_
      refine g_aload_0 hX (dk DX0_look 30 rfl) ?_
      refine g_getRs (r := 14) hX (dk DX0_look 31 rfl) KX0 fX0_9 (by decide) rfl (CLt hH (q := 13) (by decide)) (CC hH 13 (by decide) rfl) (CR hH 13 2 14 (by decide)) ?_
      refine g_iload_2 hX (dk DX0_look 32 rfl) ?_
      refine i_iaload hX (dk DX0_look 33 rfl) (CLt hH (q := 14) (by decide)) (CS hH 14 (by decide) rfl) (⟨rfl, by omega, by decide⟩) ?_
      refine g_aload_0 hX (dk DX0_look 34 rfl) ?_
      refine g_getRs (r := 1) hX (dk DX0_look 35 rfl) KX0 fX0_34 (by decide) rfl (CLt hH (q := 13) (by decide)) (CC hH 13 (by decide) rfl) (CR hH 13 0 1 (by decide)) ?_
      refine g_getIv hX (dk DX0_look 36 rfl) KX5 fX0_57 (by decide) rfl (CLt hH (q := 1) (by decide)) (CC hH 1 (by decide) rfl) ((show J 1 6 = nI (weN I) from by rw [eJ]; exact hWI.2.2.2.2.1.1)) ?_
      refine g_iload_2 hX (dk DX0_look 37 rfl) ?_
      refine g_iadd hX (dk DX0_look 38 rfl) ?_
      refine g_nmI (nI (weN I + j)) (nI_add _ _) ?_
      refine g_c3v hX sX0_look_71 (by decide) (Nat.le_of_ble_eq_true rfl) (rc0 rfl (CLt hH (by decide)) (CC hH 13 (by decide) rfl)) (by decide) (by decide) (w_X0_lookDear hG (hW.sc (Sc.rf.up ⟨by decide, by decide⟩)) (x := weN I + j) (by omega)) ?_
      rintro J3 _ ⟨hf, rfl⟩
      refine g_iinc_2 hX (dk DX0_look 40 rfl) (nI_1 j) (by decide) rfl ?_
      refine g_goto (tgt := 25) hX (dk DX0_look 41 rfl) (by decide) ?_
      exact g_fgt (ih k (by omega) (j + 1) J3 (hS.trans ((Sc.rf.up ⟨by decide, by decide⟩).trans (Sc.of1 hf ⟨by decide, by decide⟩))) (by rw [hf 13 (by decide)]; exact hsp) (by omega)) ⟨rfl, rfl, rfl, trivial⟩
  refine g_aload_0 hX (dk DX0_look 0 rfl) ?_
  refine g_iconst (v := 0) hX (dk DX0_look 1 rfl) (by decide) ?_
  refine g_iload_1 hX (dk DX0_look 2 rfl) ?_
  refine g_sipush (v := 200) hX (dk DX0_look 3 rfl) (by decide) ?_
  refine g_c2I hX sX0_look_6 (by decide) (Nat.le_of_ble_eq_true rfl) rcN (by decide) (by decide) (c_J9_min_7cf53 hG) ?_
  refine g_c2I hX sX0_look_9 (by decide) (Nat.le_of_ble_eq_true rfl) rcN (by decide) (by decide) (c_J9_max_7cf53 hG) ?_
  obtain ⟨m, hm, em⟩ := clamp n
  refine g_nmI (nI m) em ?_
  refine g_putI hX (dk DX0_look 6 rfl) KX0 fX0_47 (by decide) rfl (CLt hH (q := 13) (by decide)) (CC hH 13 (by decide) rfl) (Or.inl rfl) (rfl) (rfl) ?_
  refine g_aload_0 hX (dk DX0_look 7 rfl) ?_
  refine g_getRs (r := 15) hX (dk DX0_look 8 rfl) KX0 fX0_17 (by decide) rfl (CLt hH (q := 13) (by decide)) (CC hH 13 (by decide) rfl) (CR hH 13 3 15 (by decide)) ?_
  refine g_iconst (v := -1) hX (dk DX0_look 9 rfl) (by decide) ?_
  refine g_c2v hX sX0_look_20 (by decide) (Nat.le_of_ble_eq_true rfl) rcN (by decide) (by decide) (c_J7_fill_53178 hG (len := 600) (CLt hH (q := 15) (by decide)) (CS hH 15 (by decide) rfl) (by decide)) ?_
  rintro J2 _ ⟨hf1, hf2, hf3, rfl⟩
  have hS : Sc I J2 := (Sc.rf.up ⟨by decide, by decide⟩).trans (Sc.of1 hf3 ⟨by decide, by decide⟩)
  have hsp : J2 13 1 = nI m := by rw [hf3 13 (by decide), up0]
  refine g_iconst (v := 0) hX (dk DX0_look 11 rfl) (by decide) ?_
  refine g_istore_2 hX (dk DX0_look 12 rfl) (by decide) rfl ?_
  exact g_fgt (loop25 m hm m 0 J2 hS hsp (Nat.zero_add _)) ⟨rfl, rfl, rfl, trivial⟩

set_option maxRecDepth 8000 in
set_option maxHeartbeats 4000000 in
theorem w_X0_hearOf {G : Gt} (hG : Gok G) {I : It} {h : Ht}  (hW : WX I h) {q : Nat} {d : Nat} (hd : d < 10) (hq : q < hn h) (h73 : 73 ≤ q) (hdc : isDC (hs h q).1) (hi : I q 0 = nI d) : Con G (6) 0 0 mX0_hearOf [.ref 13, .ref q] I h (qV (fun I2 h2 => Sc I I2 ∧ I2 13 = I 13 ∧ h2 = h)) := by
  refine con_intro (own := RX0) (lo0 := [some (.ref 13), some (.ref q), none]) hG rfl pl_X0 (Nat.le_of_ble_eq_true rfl) rfl (fun X hX => ?_)
  have hH := hW.1
  have hc10 := hW.2.1.2
  have loop2 : ∀ (k y : Nat) (J : It), y + k = 4 → Sc I J → J 13 = I 13 → GG G (6) 0 0 X (qV (fun I2 h2 => Sc I I2 ∧ I2 13 = I 13 ∧ h2 = h)) 2 [some (.ref 13), some (.ref q), some (.int (nI y))] [] (J) (h) 0 0 := by
    intro k
    induction k using Nat.strongRecOn with | _ k ih => ?_
    intro y J hk hS h13
    have hWI := hW
    have hW := hW.sc hS
    have eJ : J 1 = I 1 := hS 1 (by omega)
    have ec : cN J = cN I := by unfold cN; rw [eJ]
    refine g_iload_2 hX (dk DX0_hearOf 2 rfl) ?_
    refine g_iconst (v := 4) hX (dk DX0_hearOf 3 rfl) (by decide) ?_
    refine g_icmp_ge (tgt := 33) hX (dk DX0_hearOf 4 rfl) (by decide) (fun hc1 => ?_) (fun hc1 => ?_)
    · refine g_return hX (dk DX0_hearOf 19 rfl) rfl (by decide) (by decide) ?_
      exact qV_of ⟨hS, h13, rfl⟩
    · obtain ⟨k, rfl⟩ := cl_go (e := 4) hk (by decide) hc1
      refine g_aload_0 hX (dk DX0_hearOf 5 rfl) ?_
      refine g_getRs (r := 16) hX (dk DX0_hearOf 6 rfl) KX0 fX0_22 (by decide) rfl (CLt hH (q := 13) (by decide)) (CC hH 13 (by decide) rfl) (CR hH 13 4 16 (by decide)) ?_
      refine g_aload_1 hX (dk DX0_hearOf 7 rfl) ?_
      refine g_getD (v := (nI d)) hX (dk DX0_hearOf 8 rfl) fX0_93 (by decide) hq hdc ((by rw [hS q (by omega)]; exact hi)) ?_
      refine i_aaload (i0 := 6) hX (dk DX0_hearOf 9 rfl) (CLt hH (q := 16) (by decide)) (CS hH 16 (by decide) rfl) (by decide) rfl rfl (⟨rfl, hd, by decide⟩) (SR hH hd) ?_
      refine g_iload_2 hX (dk DX0_hearOf 10 rfl) ?_
      refine g_aload_0 hX (dk DX0_hearOf 11 rfl) ?_
      refine g_getRs (r := 1) hX (dk DX0_hearOf 12 rfl) KX0 fX0_34 (by decide) rfl (CLt hH (q := 13) (by decide)) (CC hH 13 (by decide) rfl) (CR hH 13 0 1 (by decide)) ?_
      refine g_aload_1 hX (dk DX0_hearOf 13 rfl) ?_
      refine g_iload_2 hX (dk DX0_hearOf 14 rfl) ?_
      refine g_c3I hX sX0_hearOf_23 (by decide) (Nat.le_of_ble_eq_true rfl) (rc0 rfl (CLt hH (by decide)) (CC hH 1 (by decide) rfl)) (by decide) (by decide) (c_X5_saidBy hG hW hq hdc) ?_
      refine i_iastore hX (dk DX0_hearOf 16 rfl) (SL hH hd) (SA hH hd) (⟨rfl, by omega, by decide⟩) ?_
      refine g_iinc_2 hX (dk DX0_hearOf 17 rfl) (nI_1 y) (by decide) rfl ?_
      refine g_goto (tgt := 2) hX (dk DX0_hearOf 18 rfl) (by decide) ?_
      exact g_fgt (ih k (by omega) (y + 1) _ (by omega) (hS.up ⟨by omega, by omega⟩) ((upI_off (by omega)).trans h13)) ⟨rfl, rfl, rfl, trivial⟩
  refine g_iconst (v := 0) hX (dk DX0_hearOf 0 rfl) (by decide) ?_
  refine g_istore_2 hX (dk DX0_hearOf 1 rfl) (by decide) rfl ?_
  exact g_fgt (loop2 4 0 I (Nat.zero_add _) Sc.rf rfl) ⟨rfl, rfl, rfl, trivial⟩

set_option maxRecDepth 8000 in
set_option maxHeartbeats 4000000 in
theorem w_X0_hear {G : Gt} (hG : Gok G) {I : It} {h : Ht}  (hW : WX I h)  : Con G (7) 0 0 mX0_hear [.ref 13] I h (qV (fun I2 h2 => Sc I I2 ∧ I2 13 = I 13 ∧ h2 = h)) := by
  refine con_intro (own := RX0) (lo0 := [some (.ref 13), none, none]) hG rfl pl_X0 (Nat.le_of_ble_eq_true rfl) rfl (fun X hX => ?_)
  have hH := hW.1
  have hc10 := hW.2.1.2
  have loop2 : ∀ (k d : Nat) (J : It), d + k = cN I → Sc I J → J 13 = I 13 → GG G (7) 0 0 X (qV (fun I2 h2 => Sc I I2 ∧ I2 13 = I 13 ∧ h2 = h)) 2 [some (.ref 13), some (.int (nI d)), none] [] (J) (h) 0 0 := by
    intro k
    induction k using Nat.strongRecOn with | _ k ih => ?_
    intro d J hk hS h13
    have hWI := hW
    have hW := hW.sc hS
    have eJ : J 1 = I 1 := hS 1 (by omega)
    have ec : cN J = cN I := by unfold cN; rw [eJ]
    refine g_iload_1 hX (dk DX0_hear 2 rfl) ?_
    refine g_aload_0 hX (dk DX0_hear 3 rfl) ?_
    refine g_getRs (r := 1) hX (dk DX0_hear 4 rfl) KX0 fX0_34 (by decide) rfl (CLt hH (q := 13) (by decide)) (CC hH 13 (by decide) rfl) (CR hH 13 0 1 (by decide)) ?_
    refine g_getIv hX (dk DX0_hear 5 rfl) KX5 fX0_69 (by decide) rfl (CLt hH (q := 1) (by decide)) (CC hH 1 (by decide) rfl) ((show J 1 2 = nI (cN I) from by rw [eJ]; exact hWI.2.1.1)) ?_
    refine g_icmp_ge (tgt := 37) hX (dk DX0_hear 6 rfl) (by decide) (fun hc1 => ?_) (fun hc1 => ?_)
    · refine g_return hX (dk DX0_hear 19 rfl) rfl (by decide) (by decide) ?_
      exact qV_of ⟨hS, h13, rfl⟩
    · obtain ⟨k, rfl⟩ := cl_go hk (by omega) hc1
      obtain ⟨g1, g2, g3, g4, g5, g6⟩ := hW.2.2.1 d (by omega)
      refine g_aload_0 hX (dk DX0_hear 7 rfl) ?_
      refine g_getRs (r := 1) hX (dk DX0_hear 8 rfl) KX0 fX0_34 (by decide) rfl (CLt hH (q := 13) (by decide)) (CC hH 13 (by decide) rfl) (CR hH 13 0 1 (by decide)) ?_
      refine g_iload_1 hX (dk DX0_hear 9 rfl) ?_
      refine g_c2R hX sX0_hear_18 (by decide) (Nat.le_of_ble_eq_true rfl) (rc0 rfl (CLt hH (by decide)) (CC hH 1 (by decide) rfl)) (by decide) (by decide) (c_X5_find hG hW (by omega)) ?_
      refine g_astore_2 hX (dk DX0_hear 11 rfl) (by decide) rfl ?_
      refine g_aload_2 hX (dk DX0_hear 12 rfl) ?_
      refine g_ifnullR hX (dk DX0_hear 13 rfl) ?_
      refine g_aload_0 hX (dk DX0_hear 14 rfl) ?_
      refine g_aload_2 hX (dk DX0_hear 15 rfl) ?_
      refine g_c2v hX sX0_hear_28 (by decide) (Nat.le_of_ble_eq_true rfl) (rc0 rfl (CLt hH (by decide)) (CC hH 13 (by decide) rfl)) (by decide) (by decide) (w_X0_hearOf hG hW (d := d) (by omega) g3 g2 g4 g5) ?_
      rintro J2 _ ⟨hS2, h132, rfl⟩
      refine g_iinc_1 hX (dk DX0_hear 17 rfl) (nI_1 d) (by decide) rfl ?_
      refine g_goto (tgt := 2) hX (dk DX0_hear 18 rfl) (by decide) ?_
      exact g_fgt (ih k (by omega) (d + 1) _ (by omega) (hS.trans hS2) (h132.trans h13)) ⟨rfl, rfl, trivial⟩
  refine g_iconst (v := 0) hX (dk DX0_hear 0 rfl) (by decide) ?_
  refine g_istore_1 hX (dk DX0_hear 1 rfl) (by decide) rfl ?_
  exact g_fgt (loop2 (cN I) 0 I (Nat.zero_add _) Sc.rf rfl) ⟨rfl, rfl, trivial⟩

set_option maxRecDepth 8000 in
set_option maxHeartbeats 4000000 in
theorem w_X0_goingOver {G : Gt} (hG : Gok G) {I : It} {h : Ht}  (hW : WX I h) {hq2 : Nat} (hh : hq2 < hn h) (hhs : hs h hq2 = (20, 4)) : Con G (5) 0 0 mX0_goingOver [.ref 13, .ref hq2] I h (qI (fun _ I2 h2 => I2 = I ∧ h2 = h)) := by
  refine con_intro (own := RX0) (lo0 := [some (.ref 13), some (.ref hq2), none, none, none]) hG rfl pl_X0 (Nat.le_of_ble_eq_true rfl) rfl (fun X hX => ?_)
  have hH := hW.1
  have hc10 := hW.2.1.2
  have loop4 : ∀ (k d : Nat) (z : Int32), d + k = cN I → GG G (5) 0 0 X (qI (fun _ I2 h2 => I2 = I ∧ h2 = h)) 4 [some (.ref 13), some (.ref hq2), some (.int z), some (.int (nI d)), none] [] (I) (h) 0 0 := by
    intro k
    induction k using Nat.strongRecOn with | _ k ih => ?_
    intro d z hk
    refine g_iload_3 hX (dk DX0_goingOver 4 rfl) ?_
    refine g_aload_0 hX (dk DX0_goingOver 5 rfl) ?_
    refine g_getRs (r := 1) hX (dk DX0_goingOver 6 rfl) KX0 fX0_34 (by decide) rfl (CLt hH (q := 13) (by decide)) (CC hH 13 (by decide) rfl) (CR hH 13 0 1 (by decide)) ?_
    refine g_getIv hX (dk DX0_goingOver 7 rfl) KX5 fX0_69 (by decide) rfl (CLt hH (q := 1) (by decide)) (CC hH 1 (by decide) rfl) (hW.2.1.1) ?_
    refine g_icmp_ge (tgt := 62) hX (dk DX0_goingOver 8 rfl) (by decide) (fun hc1 => ?_) (fun hc1 => ?_)
    · refine g_iload_2 hX (dk DX0_goingOver 34 rfl) ?_
      refine g_ireturn hX (dk DX0_goingOver 35 rfl) rfl (rfl) (by decide) (by decide) ?_
      exact qI_of ⟨rfl, rfl⟩
    · obtain ⟨k, rfl⟩ := cl_go hk (by omega) hc1
      obtain ⟨g1, g2, g3, g4, g5, g6⟩ := hW.2.2.1 d (by omega)
      refine g_aload_0 hX (dk DX0_goingOver 9 rfl) ?_
      refine g_getRs (r := 1) hX (dk DX0_goingOver 10 rfl) KX0 fX0_34 (by decide) rfl (CLt hH (q := 13) (by decide)) (CC hH 13 (by decide) rfl) (CR hH 13 0 1 (by decide)) ?_
      refine g_iload_3 hX (dk DX0_goingOver 11 rfl) ?_
      refine g_c2R hX sX0_goingOver_20 (by decide) (Nat.le_of_ble_eq_true rfl) (rc0 rfl (CLt hH (by decide)) (CC hH 1 (by decide) rfl)) (by decide) (by decide) (c_X5_find hG hW (by omega)) ?_
      refine g_astore_4 hX (dk DX0_goingOver 13 rfl) (by decide) rfl ?_
      refine g_aload_4 hX (dk DX0_goingOver 14 rfl) ?_
      refine g_ifnullR hX (dk DX0_goingOver 15 rfl) ?_
      refine g_aload_4 hX (dk DX0_goingOver 16 rfl) ?_
      refine g_aload_0 hX (dk DX0_goingOver 17 rfl) ?_
      refine g_getRs (r := 16) hX (dk DX0_goingOver 18 rfl) KX0 fX0_22 (by decide) rfl (CLt hH (q := 13) (by decide)) (CC hH 13 (by decide) rfl) (CR hH 13 4 16 (by decide)) ?_
      refine g_iload_3 hX (dk DX0_goingOver 19 rfl) ?_
      refine i_aaload (i0 := 6) hX (dk DX0_goingOver 20 rfl) (CLt hH (q := 16) (by decide)) (CS hH 16 (by decide) rfl) (by decide) rfl rfl (⟨rfl, by omega, by decide⟩) (SR hH (by omega)) ?_
      refine g_aload_1 hX (dk DX0_goingOver 21 rfl) ?_
      refine g_c3I hX (sD_X0_goingOver_39 _ g4) (by decide) (Nat.le_of_ble_eq_true rfl) (rc0 rfl g3 rfl) (by decide) (by decide) (cD_saidOver hG g3 g4 (SL hH (by omega)) (SA hH (by omega)) hh hhs) ?_
      refine g_aload_4 hX (dk DX0_goingOver 23 rfl) ?_
      refine g_getD (v := _) hX (dk DX0_goingOver 24 rfl) fX0_108 (by decide) g3 g4 (rfl) ?_
      refine g_icmp_lt (tgt := 56) hX (dk DX0_goingOver 25 rfl) (by decide) (fun hc2 => ?_) (fun hc2 => ?_)
      · refine g_iinc_3 hX (dk DX0_goingOver 32 rfl) (nI_1 d) (by decide) rfl ?_
        refine g_goto (tgt := 4) hX (dk DX0_goingOver 33 rfl) (by decide) ?_
        exact g_fgt (ih k (by omega) (d + 1) _ (by omega)) ⟨rfl, rfl, rfl, rfl, trivial⟩
      · refine g_iload_2 hX (dk DX0_goingOver 26 rfl) ?_
        refine g_iconst (v := 1) hX (dk DX0_goingOver 27 rfl) (by decide) ?_
        refine g_iload_3 hX (dk DX0_goingOver 28 rfl) ?_
        refine g_ishl hX (dk DX0_goingOver 29 rfl) ?_
        refine g_ior hX (dk DX0_goingOver 30 rfl) ?_
        refine g_istore_2 hX (dk DX0_goingOver 31 rfl) (by decide) rfl ?_
        refine g_iinc_3 hX (dk DX0_goingOver 32 rfl) (nI_1 d) (by decide) rfl ?_
        refine g_goto (tgt := 4) hX (dk DX0_goingOver 33 rfl) (by decide) ?_
        exact g_fgt (ih k (by omega) (d + 1) _ (by omega)) ⟨rfl, rfl, rfl, rfl, trivial⟩
  refine g_iconst (v := 0) hX (dk DX0_goingOver 0 rfl) (by decide) ?_
  refine g_istore_2 hX (dk DX0_goingOver 1 rfl) (by decide) rfl ?_
  refine g_iconst (v := 0) hX (dk DX0_goingOver 2 rfl) (by decide) ?_
  refine g_istore_3 hX (dk DX0_goingOver 3 rfl) (by decide) rfl ?_
  exact g_fgt (loop4 (cN I) 0 0 (Nat.zero_add _)) ⟨rfl, rfl, rfl, rfl, trivial⟩
end
section
set_option maxRecDepth 8000 in
set_option maxHeartbeats 4000000 in
theorem w_X0_stop {G : Gt} (hG : Gok G) {I : It} {h : Ht}  (hW : WX I h) {q x : Nat} {d : Nat} (hd : d < 10) (hq : q < hn h) (h73 : 73 ≤ q) (hdc : isDC (hs h q).1) (hi : I q 0 = nI d) (hx : x < 2 ^ 31) : Con G (4) 0 0 mX0_stop [.ref 13, .ref q, .int (nI x)] I h (qV (fun I2 h2 => (∀ a, a ≠ 13 → I2 a = I a) ∧ I2 13 1 = I 13 1 ∧ h2 = h)) := by
  refine con_intro (own := RX0) (lo0 := [some (.ref 13), some (.ref q), some (.int (nI x)), none]) hG rfl pl_X0 (Nat.le_of_ble_eq_true rfl) rfl (fun X hX => ?_)
  have hH := hW.1
  have hc10 := hW.2.1.2
  refine g_aload_0 hX (dk DX0_stop_0 0 rfl) ?_
  refine g_getI hX (dk DX0_stop_0 1 rfl) KX0 fX0_120 (by decide) rfl (CLt hH (q := 13) (by decide)) (CC hH 13 (by decide) rfl) ?_
  refine g_if_ne (tgt := 20) hX (dk DX0_stop_0 2 rfl) (by decide) (fun hc1 => ?_) (fun hc1 => ?_)
  · refine g_aload_0 hX (dk DX0_stop_0 10 rfl) ?_
    refine g_dup hX (dk DX0_stop_0 11 rfl) rfl ?_
    refine g_getI hX (dk DX0_stop_0 12 rfl) KX0 fX0_120 (by decide) rfl (CLt hH (q := 13) (by decide)) (CC hH 13 (by decide) rfl) ?_
    refine g_iconst (v := 1) hX (dk DX0_stop_0 13 rfl) (by decide) ?_
    refine g_iadd hX (dk DX0_stop_0 14 rfl) ?_
    refine g_putI hX (dk DX0_stop_0 15 rfl) KX0 fX0_120 (by decide) rfl (CLt hH (q := 13) (by decide)) (CC hH 13 (by decide) rfl) (Or.inl rfl) (rfl) (rfl) ?_
    refine g_aload_0 hX (dk DX0_stop_0 16 rfl) ?_
    refine g_getI hX (dk DX0_stop_0 17 rfl) KX0 fX0_140 (by decide) rfl (CLt hH (q := 13) (by decide)) (CC hH 13 (by decide) rfl) ?_
    refine g_aload_0 hX (dk DX0_stop_0 18 rfl) ?_
    refine g_getRs (r := 1) hX (dk DX0_stop_0 19 rfl) KX0 fX0_34 (by decide) rfl (CLt hH (q := 13) (by decide)) (CC hH 13 (by decide) rfl) (CR hH 13 0 1 (by decide)) ?_
    refine g_c1I hX sX0_stop_38 (by decide) (Nat.le_of_ble_eq_true rfl) (rc0 rfl (CLt hH (by decide)) (CC hH 1 (by decide) rfl)) (by decide) (by decide) (c_X5_callsAtFirst hG (hW.sc (fun a ha => by simp only [upI_off (show a ≠ 13 by omega)]))) ?_
    refine g_aload_0 hX (dk DX0_stop_0 21 rfl) ?_
    refine g_getRs (r := 1) hX (dk DX0_stop_0 22 rfl) KX0 fX0_34 (by decide) rfl (CLt hH (q := 13) (by decide)) (CC hH 13 (by decide) rfl) (CR hH 13 0 1 (by decide)) ?_
    refine g_c1I hX sX0_stop_45 (by decide) (Nat.le_of_ble_eq_true rfl) (rc0 rfl (CLt hH (by decide)) (CC hH 1 (by decide) rfl)) (by decide) (by decide) (c_X5_callsFading hG (hW.sc (fun a ha => by simp only [upI_off (show a ≠ 13 by omega)]))) ?_
    refine g_iload_2 hX (dk DX0_stop_0 24 rfl) ?_
    refine g_imul hX (dk DX0_stop_0 25 rfl) ?_
    refine g_isub hX (dk DX0_stop_0 26 rfl) ?_
    refine g_icmp_ge (tgt := 58) hX (dk DX0_stop_0 27 rfl) (by decide) (fun hc2 => ?_) (fun hc2 => ?_)
    · refine g_iconst (v := 0) hX (dk DX0_stop_0 30 rfl) (by decide) ?_
      refine g_istore_3 hX (dk DX0_stop_0 31 rfl) (by decide) rfl ?_
      refine g_iload_3 hX (dk DX0_stop_0 32 rfl) ?_
      refine g_if_eq (tgt := 84) hX (dk DX0_stop_0 33 rfl) (by decide) (fun hc3 => ?_) (fun hc3 => absurd (by decide) hc3)
      refine g_aload_0 hX (dk DX0_stop_0 46 rfl) ?_
      refine g_dup hX (dk DX0_stop_0 47 rfl) rfl ?_
      refine g_getI hX (dk DX0_stop_0 48 rfl) KX0 fX0_117 (by decide) rfl (CLt hH (q := 13) (by decide)) (CC hH 13 (by decide) rfl) ?_
      refine g_iload_3 hX (dk DX0_stop_0 49 rfl) ?_
      refine g_if_eq (tgt := 97) hX (dk DX0_stop_0 50 rfl) (by decide) (fun hc4 => ?_) (fun hc4 => absurd (by decide) hc4)
      refine g_aload_0 hX (dk DX0_stop_0 53 rfl) ?_
      refine g_getRs (r := 15) hX (dk DX0_stop_0 54 rfl) KX0 fX0_17 (by decide) rfl (CLt hH (q := 13) (by decide)) (CC hH 13 (by decide) rfl) (CR hH 13 3 15 (by decide)) ?_
      refine g_aload_1 hX (dk DX0_stop_0 55 rfl) ?_
      refine g_getD (v := (nI d)) hX (dk DX0_stop_0 56 rfl) fX0_93 (by decide) hq hdc ((by first | exact hi | (simp only [upI_off (show q ≠ 13 by omega)]; exact hi))) ?_
      refine g_iload_2 hX (dk DX0_stop_0 57 rfl) ?_
      refine g_c2I hX sX0_stop_106 (by decide) (Nat.le_of_ble_eq_true rfl) rcN (by decide) (by decide) (c_X0_dearCell hG) ?_
      refine g_nmI (nI (d * 60 + x % 60)) (dcell (by omega)) ?_
      refine i_iaload hX (dk DX0_stop_0 59 rfl) (CLt hH (q := 15) (by decide)) (CS hH 15 (by decide) rfl) (⟨rfl, dcell_lt (by omega), by decide⟩) ?_
      refine g_iadd hX (dk DX0_stop_1 0 rfl) ?_
      refine g_putI hX (dk DX0_stop_1 1 rfl) KX0 fX0_117 (by decide) rfl (CLt hH (q := 13) (by decide)) (CC hH 13 (by decide) rfl) (Or.inl rfl) (rfl) (rfl) ?_
      refine g_iload_3 hX (dk DX0_stop_1 2 rfl) ?_
      refine g_if_eq (tgt := 128) hX (dk DX0_stop_1 3 rfl) (by decide) (fun hc5 => ?_) (fun hc5 => absurd (by decide) hc5)
      refine g_aload_1 hX (dk DX0_stop_1 8 rfl) ?_
      refine g_c1I hX (sD_X0_stop_129 _ hdc) (by decide) (Nat.le_of_ble_eq_true rfl) (rc0 rfl hq rfl) (by decide) (by decide) (cD_isKnownByStop hG hq hdc) ?_
      refine g_if_eq (tgt := 150) hX (dk DX0_stop_1 10 rfl) (by decide) (fun hc6 => ?_) (fun hc6 => ?_)
      · refine g_return hX (dk DX0_stop_1 20 rfl) rfl (by decide) (by decide) ?_
        exact qV_of ⟨fun a ha => by simp only [upI_off ha], rfl, rfl⟩
      · refine g_aload_0 hX (dk DX0_stop_1 11 rfl) ?_
        refine g_dup hX (dk DX0_stop_1 12 rfl) rfl ?_
        refine g_getI hX (dk DX0_stop_1 13 rfl) KX0 fX0_111 (by decide) rfl (CLt hH (q := 13) (by decide)) (CC hH 13 (by decide) rfl) ?_
        refine g_iconst (v := 1) hX (dk DX0_stop_1 14 rfl) (by decide) ?_
        refine g_aload_1 hX (dk DX0_stop_1 15 rfl) ?_
        refine g_getD (v := (nI d)) hX (dk DX0_stop_1 16 rfl) fX0_93 (by decide) hq hdc ((by first | exact hi | (simp only [upI_off (show q ≠ 13 by omega)]; exact hi))) ?_
        refine g_ishl hX (dk DX0_stop_1 17 rfl) ?_
        refine g_ior hX (dk DX0_stop_1 18 rfl) ?_
        refine g_putI hX (dk DX0_stop_1 19 rfl) KX0 fX0_111 (by decide) rfl (CLt hH (q := 13) (by decide)) (CC hH 13 (by decide) rfl) (Or.inl rfl) (rfl) (rfl) ?_
        refine g_return hX (dk DX0_stop_1 20 rfl) rfl (by decide) (by decide) ?_
        exact qV_of ⟨fun a ha => by simp only [upI_off ha], rfl, rfl⟩
    · refine g_iconst (v := 1) hX (dk DX0_stop_0 28 rfl) (by decide) ?_
      refine g_goto (tgt := 59) hX (dk DX0_stop_0 29 rfl) (by decide) ?_
      refine g_istore_3 hX (dk DX0_stop_0 31 rfl) (by decide) rfl ?_
      refine g_iload_3 hX (dk DX0_stop_0 32 rfl) ?_
      refine g_if_eq (tgt := 84) hX (dk DX0_stop_0 33 rfl) (by decide) (fun hc7 => absurd hc7 (by decide)) (fun hc7 => ?_)
      refine g_aload_0 hX (dk DX0_stop_0 34 rfl) ?_
      refine g_dup hX (dk DX0_stop_0 35 rfl) rfl ?_
      refine g_getI hX (dk DX0_stop_0 36 rfl) KX0 fX0_140 (by decide) rfl (CLt hH (q := 13) (by decide)) (CC hH 13 (by decide) rfl) ?_
      refine g_iconst (v := 1) hX (dk DX0_stop_0 37 rfl) (by decide) ?_
      refine g_iadd hX (dk DX0_stop_0 38 rfl) ?_
      refine g_putI hX (dk DX0_stop_0 39 rfl) KX0 fX0_140 (by decide) rfl (CLt hH (q := 13) (by decide)) (CC hH 13 (by decide) rfl) (Or.inl rfl) (rfl) (rfl) ?_
      refine g_aload_0 hX (dk DX0_stop_0 40 rfl) ?_
      refine g_dup hX (dk DX0_stop_0 41 rfl) rfl ?_
      refine g_getI hX (dk DX0_stop_0 42 rfl) KX0 fX0_123 (by decide) rfl (CLt hH (q := 13) (by decide)) (CC hH 13 (by decide) rfl) ?_
      refine g_iconst (v := 1) hX (dk DX0_stop_0 43 rfl) (by decide) ?_
      refine g_iadd hX (dk DX0_stop_0 44 rfl) ?_
      refine g_putI hX (dk DX0_stop_0 45 rfl) KX0 fX0_123 (by decide) rfl (CLt hH (q := 13) (by decide)) (CC hH 13 (by decide) rfl) (Or.inl rfl) (rfl) (rfl) ?_
      refine g_aload_0 hX (dk DX0_stop_0 46 rfl) ?_
      refine g_dup hX (dk DX0_stop_0 47 rfl) rfl ?_
      refine g_getI hX (dk DX0_stop_0 48 rfl) KX0 fX0_117 (by decide) rfl (CLt hH (q := 13) (by decide)) (CC hH 13 (by decide) rfl) ?_
      refine g_iload_3 hX (dk DX0_stop_0 49 rfl) ?_
      refine g_if_eq (tgt := 97) hX (dk DX0_stop_0 50 rfl) (by decide) (fun hc8 => absurd hc8 (by decide)) (fun hc8 => ?_)
      refine g_iconst (v := 1) hX (dk DX0_stop_0 51 rfl) (by decide) ?_
      refine g_goto (tgt := 110) hX (dk DX0_stop_0 52 rfl) (by decide) ?_
      refine g_iadd hX (dk DX0_stop_1 0 rfl) ?_
      refine g_putI hX (dk DX0_stop_1 1 rfl) KX0 fX0_117 (by decide) rfl (CLt hH (q := 13) (by decide)) (CC hH 13 (by decide) rfl) (Or.inl rfl) (rfl) (rfl) ?_
      refine g_iload_3 hX (dk DX0_stop_1 2 rfl) ?_
      refine g_if_eq (tgt := 128) hX (dk DX0_stop_1 3 rfl) (by decide) (fun hc9 => absurd hc9 (by decide)) (fun hc9 => ?_)
      refine g_aload_1 hX (dk DX0_stop_1 4 rfl) ?_
      refine g_c1I hX (sD_X0_stop_119 _ hdc) (by decide) (Nat.le_of_ble_eq_true rfl) (rc0 rfl hq rfl) (by decide) (by decide) (cD_isKnownByCall hG hq hdc) ?_
      refine g_if_eq (tgt := 150) hX (dk DX0_stop_1 6 rfl) (by decide) (fun hc10 => ?_) (fun hc10 => ?_)
      · refine g_return hX (dk DX0_stop_1 20 rfl) rfl (by decide) (by decide) ?_
        exact qV_of ⟨fun a ha => by simp only [upI_off ha], rfl, rfl⟩
      · refine g_goto (tgt := 135) hX (dk DX0_stop_1 7 rfl) (by decide) ?_
        refine g_aload_0 hX (dk DX0_stop_1 11 rfl) ?_
        refine g_dup hX (dk DX0_stop_1 12 rfl) rfl ?_
        refine g_getI hX (dk DX0_stop_1 13 rfl) KX0 fX0_111 (by decide) rfl (CLt hH (q := 13) (by decide)) (CC hH 13 (by decide) rfl) ?_
        refine g_iconst (v := 1) hX (dk DX0_stop_1 14 rfl) (by decide) ?_
        refine g_aload_1 hX (dk DX0_stop_1 15 rfl) ?_
        refine g_getD (v := (nI d)) hX (dk DX0_stop_1 16 rfl) fX0_93 (by decide) hq hdc ((by first | exact hi | (simp only [upI_off (show q ≠ 13 by omega)]; exact hi))) ?_
        refine g_ishl hX (dk DX0_stop_1 17 rfl) ?_
        refine g_ior hX (dk DX0_stop_1 18 rfl) ?_
        refine g_putI hX (dk DX0_stop_1 19 rfl) KX0 fX0_111 (by decide) rfl (CLt hH (q := 13) (by decide)) (CC hH 13 (by decide) rfl) (Or.inl rfl) (rfl) (rfl) ?_
        refine g_return hX (dk DX0_stop_1 20 rfl) rfl (by decide) (by decide) ?_
        exact qV_of ⟨fun a ha => by simp only [upI_off ha], rfl, rfl⟩
  · refine g_aload_0 hX (dk DX0_stop_0 3 rfl) ?_
    refine g_iload_2 hX (dk DX0_stop_0 4 rfl) ?_
    refine g_putI hX (dk DX0_stop_0 5 rfl) KX0 fX0_126 (by decide) rfl (CLt hH (q := 13) (by decide)) (CC hH 13 (by decide) rfl) (Or.inl rfl) (rfl) (rfl) ?_
    refine g_aload_0 hX (dk DX0_stop_0 6 rfl) ?_
    refine g_aload_1 hX (dk DX0_stop_0 7 rfl) ?_
    refine g_getD (v := (nI d)) hX (dk DX0_stop_0 8 rfl) fX0_93 (by decide) hq hdc ((by first | exact hi | (simp only [upI_off (show q ≠ 13 by omega)]; exact hi))) ?_
    refine g_putI hX (dk DX0_stop_0 9 rfl) KX0 fX0_129 (by decide) rfl (CLt hH (q := 13) (by decide)) (CC hH 13 (by decide) rfl) (Or.inl rfl) (rfl) (rfl) ?_
    refine g_aload_0 hX (dk DX0_stop_0 10 rfl) ?_
    refine g_dup hX (dk DX0_stop_0 11 rfl) rfl ?_
    refine g_getI hX (dk DX0_stop_0 12 rfl) KX0 fX0_120 (by decide) rfl (CLt hH (q := 13) (by decide)) (CC hH 13 (by decide) rfl) ?_
    refine g_iconst (v := 1) hX (dk DX0_stop_0 13 rfl) (by decide) ?_
    refine g_iadd hX (dk DX0_stop_0 14 rfl) ?_
    refine g_putI hX (dk DX0_stop_0 15 rfl) KX0 fX0_120 (by decide) rfl (CLt hH (q := 13) (by decide)) (CC hH 13 (by decide) rfl) (Or.inl rfl) (rfl) (rfl) ?_
    refine g_aload_0 hX (dk DX0_stop_0 16 rfl) ?_
    refine g_getI hX (dk DX0_stop_0 17 rfl) KX0 fX0_140 (by decide) rfl (CLt hH (q := 13) (by decide)) (CC hH 13 (by decide) rfl) ?_
    refine g_aload_0 hX (dk DX0_stop_0 18 rfl) ?_
    refine g_getRs (r := 1) hX (dk DX0_stop_0 19 rfl) KX0 fX0_34 (by decide) rfl (CLt hH (q := 13) (by decide)) (CC hH 13 (by decide) rfl) (CR hH 13 0 1 (by decide)) ?_
    refine g_c1I hX sX0_stop_38 (by decide) (Nat.le_of_ble_eq_true rfl) (rc0 rfl (CLt hH (by decide)) (CC hH 1 (by decide) rfl)) (by decide) (by decide) (c_X5_callsAtFirst hG (hW.sc (fun a ha => by simp only [upI_off (show a ≠ 13 by omega)]))) ?_
    refine g_aload_0 hX (dk DX0_stop_0 21 rfl) ?_
    refine g_getRs (r := 1) hX (dk DX0_stop_0 22 rfl) KX0 fX0_34 (by decide) rfl (CLt hH (q := 13) (by decide)) (CC hH 13 (by decide) rfl) (CR hH 13 0 1 (by decide)) ?_
    refine g_c1I hX sX0_stop_45 (by decide) (Nat.le_of_ble_eq_true rfl) (rc0 rfl (CLt hH (by decide)) (CC hH 1 (by decide) rfl)) (by decide) (by decide) (c_X5_callsFading hG (hW.sc (fun a ha => by simp only [upI_off (show a ≠ 13 by omega)]))) ?_
    refine g_iload_2 hX (dk DX0_stop_0 24 rfl) ?_
    refine g_imul hX (dk DX0_stop_0 25 rfl) ?_
    refine g_isub hX (dk DX0_stop_0 26 rfl) ?_
    refine g_icmp_ge (tgt := 58) hX (dk DX0_stop_0 27 rfl) (by decide) (fun hc11 => ?_) (fun hc11 => ?_)
    · refine g_iconst (v := 0) hX (dk DX0_stop_0 30 rfl) (by decide) ?_
      refine g_istore_3 hX (dk DX0_stop_0 31 rfl) (by decide) rfl ?_
      refine g_iload_3 hX (dk DX0_stop_0 32 rfl) ?_
      refine g_if_eq (tgt := 84) hX (dk DX0_stop_0 33 rfl) (by decide) (fun hc12 => ?_) (fun hc12 => absurd (by decide) hc12)
      refine g_aload_0 hX (dk DX0_stop_0 46 rfl) ?_
      refine g_dup hX (dk DX0_stop_0 47 rfl) rfl ?_
      refine g_getI hX (dk DX0_stop_0 48 rfl) KX0 fX0_117 (by decide) rfl (CLt hH (q := 13) (by decide)) (CC hH 13 (by decide) rfl) ?_
      refine g_iload_3 hX (dk DX0_stop_0 49 rfl) ?_
      refine g_if_eq (tgt := 97) hX (dk DX0_stop_0 50 rfl) (by decide) (fun hc13 => ?_) (fun hc13 => absurd (by decide) hc13)
      refine g_aload_0 hX (dk DX0_stop_0 53 rfl) ?_
      refine g_getRs (r := 15) hX (dk DX0_stop_0 54 rfl) KX0 fX0_17 (by decide) rfl (CLt hH (q := 13) (by decide)) (CC hH 13 (by decide) rfl) (CR hH 13 3 15 (by decide)) ?_
      refine g_aload_1 hX (dk DX0_stop_0 55 rfl) ?_
      refine g_getD (v := (nI d)) hX (dk DX0_stop_0 56 rfl) fX0_93 (by decide) hq hdc ((by first | exact hi | (simp only [upI_off (show q ≠ 13 by omega)]; exact hi))) ?_
      refine g_iload_2 hX (dk DX0_stop_0 57 rfl) ?_
      refine g_c2I hX sX0_stop_106 (by decide) (Nat.le_of_ble_eq_true rfl) rcN (by decide) (by decide) (c_X0_dearCell hG) ?_
      refine g_nmI (nI (d * 60 + x % 60)) (dcell (by omega)) ?_
      refine i_iaload hX (dk DX0_stop_0 59 rfl) (CLt hH (q := 15) (by decide)) (CS hH 15 (by decide) rfl) (⟨rfl, dcell_lt (by omega), by decide⟩) ?_
      refine g_iadd hX (dk DX0_stop_1 0 rfl) ?_
      refine g_putI hX (dk DX0_stop_1 1 rfl) KX0 fX0_117 (by decide) rfl (CLt hH (q := 13) (by decide)) (CC hH 13 (by decide) rfl) (Or.inl rfl) (rfl) (rfl) ?_
      refine g_iload_3 hX (dk DX0_stop_1 2 rfl) ?_
      refine g_if_eq (tgt := 128) hX (dk DX0_stop_1 3 rfl) (by decide) (fun hc14 => ?_) (fun hc14 => absurd (by decide) hc14)
      refine g_aload_1 hX (dk DX0_stop_1 8 rfl) ?_
      refine g_c1I hX (sD_X0_stop_129 _ hdc) (by decide) (Nat.le_of_ble_eq_true rfl) (rc0 rfl hq rfl) (by decide) (by decide) (cD_isKnownByStop hG hq hdc) ?_
      refine g_if_eq (tgt := 150) hX (dk DX0_stop_1 10 rfl) (by decide) (fun hc15 => ?_) (fun hc15 => ?_)
      · refine g_return hX (dk DX0_stop_1 20 rfl) rfl (by decide) (by decide) ?_
        exact qV_of ⟨fun a ha => by simp only [upI_off ha], rfl, rfl⟩
      · refine g_aload_0 hX (dk DX0_stop_1 11 rfl) ?_
        refine g_dup hX (dk DX0_stop_1 12 rfl) rfl ?_
        refine g_getI hX (dk DX0_stop_1 13 rfl) KX0 fX0_111 (by decide) rfl (CLt hH (q := 13) (by decide)) (CC hH 13 (by decide) rfl) ?_
        refine g_iconst (v := 1) hX (dk DX0_stop_1 14 rfl) (by decide) ?_
        refine g_aload_1 hX (dk DX0_stop_1 15 rfl) ?_
        refine g_getD (v := (nI d)) hX (dk DX0_stop_1 16 rfl) fX0_93 (by decide) hq hdc ((by first | exact hi | (simp only [upI_off (show q ≠ 13 by omega)]; exact hi))) ?_
        refine g_ishl hX (dk DX0_stop_1 17 rfl) ?_
        refine g_ior hX (dk DX0_stop_1 18 rfl) ?_
        refine g_putI hX (dk DX0_stop_1 19 rfl) KX0 fX0_111 (by decide) rfl (CLt hH (q := 13) (by decide)) (CC hH 13 (by decide) rfl) (Or.inl rfl) (rfl) (rfl) ?_
        refine g_return hX (dk DX0_stop_1 20 rfl) rfl (by decide) (by decide) ?_
        exact qV_of ⟨fun a ha => by simp only [upI_off ha], rfl, rfl⟩
    · refine g_iconst (v := 1) hX (dk DX0_stop_0 28 rfl) (by decide) ?_
      refine g_goto (tgt := 59) hX (dk DX0_stop_0 29 rfl) (by decide) ?_
      refine g_istore_3 hX (dk DX0_stop_0 31 rfl) (by decide) rfl ?_
      refine g_iload_3 hX (dk DX0_stop_0 32 rfl) ?_
      refine g_if_eq (tgt := 84) hX (dk DX0_stop_0 33 rfl) (by decide) (fun hc16 => absurd hc16 (by decide)) (fun hc16 => ?_)
      refine g_aload_0 hX (dk DX0_stop_0 34 rfl) ?_
      refine g_dup hX (dk DX0_stop_0 35 rfl) rfl ?_
      refine g_getI hX (dk DX0_stop_0 36 rfl) KX0 fX0_140 (by decide) rfl (CLt hH (q := 13) (by decide)) (CC hH 13 (by decide) rfl) ?_
      refine g_iconst (v := 1) hX (dk DX0_stop_0 37 rfl) (by decide) ?_
      refine g_iadd hX (dk DX0_stop_0 38 rfl) ?_
      refine g_putI hX (dk DX0_stop_0 39 rfl) KX0 fX0_140 (by decide) rfl (CLt hH (q := 13) (by decide)) (CC hH 13 (by decide) rfl) (Or.inl rfl) (rfl) (rfl) ?_
      refine g_aload_0 hX (dk DX0_stop_0 40 rfl) ?_
      refine g_dup hX (dk DX0_stop_0 41 rfl) rfl ?_
      refine g_getI hX (dk DX0_stop_0 42 rfl) KX0 fX0_123 (by decide) rfl (CLt hH (q := 13) (by decide)) (CC hH 13 (by decide) rfl) ?_
      refine g_iconst (v := 1) hX (dk DX0_stop_0 43 rfl) (by decide) ?_
      refine g_iadd hX (dk DX0_stop_0 44 rfl) ?_
      refine g_putI hX (dk DX0_stop_0 45 rfl) KX0 fX0_123 (by decide) rfl (CLt hH (q := 13) (by decide)) (CC hH 13 (by decide) rfl) (Or.inl rfl) (rfl) (rfl) ?_
      refine g_aload_0 hX (dk DX0_stop_0 46 rfl) ?_
      refine g_dup hX (dk DX0_stop_0 47 rfl) rfl ?_
      refine g_getI hX (dk DX0_stop_0 48 rfl) KX0 fX0_117 (by decide) rfl (CLt hH (q := 13) (by decide)) (CC hH 13 (by decide) rfl) ?_
      refine g_iload_3 hX (dk DX0_stop_0 49 rfl) ?_
      refine g_if_eq (tgt := 97) hX (dk DX0_stop_0 50 rfl) (by decide) (fun hc17 => absurd hc17 (by decide)) (fun hc17 => ?_)
      refine g_iconst (v := 1) hX (dk DX0_stop_0 51 rfl) (by decide) ?_
      refine g_goto (tgt := 110) hX (dk DX0_stop_0 52 rfl) (by decide) ?_
      refine g_iadd hX (dk DX0_stop_1 0 rfl) ?_
      refine g_putI hX (dk DX0_stop_1 1 rfl) KX0 fX0_117 (by decide) rfl (CLt hH (q := 13) (by decide)) (CC hH 13 (by decide) rfl) (Or.inl rfl) (rfl) (rfl) ?_
      refine g_iload_3 hX (dk DX0_stop_1 2 rfl) ?_
      refine g_if_eq (tgt := 128) hX (dk DX0_stop_1 3 rfl) (by decide) (fun hc18 => absurd hc18 (by decide)) (fun hc18 => ?_)
      refine g_aload_1 hX (dk DX0_stop_1 4 rfl) ?_
      refine g_c1I hX (sD_X0_stop_119 _ hdc) (by decide) (Nat.le_of_ble_eq_true rfl) (rc0 rfl hq rfl) (by decide) (by decide) (cD_isKnownByCall hG hq hdc) ?_
      refine g_if_eq (tgt := 150) hX (dk DX0_stop_1 6 rfl) (by decide) (fun hc19 => ?_) (fun hc19 => ?_)
      · refine g_return hX (dk DX0_stop_1 20 rfl) rfl (by decide) (by decide) ?_
        exact qV_of ⟨fun a ha => by simp only [upI_off ha], rfl, rfl⟩
      · refine g_goto (tgt := 135) hX (dk DX0_stop_1 7 rfl) (by decide) ?_
        refine g_aload_0 hX (dk DX0_stop_1 11 rfl) ?_
        refine g_dup hX (dk DX0_stop_1 12 rfl) rfl ?_
        refine g_getI hX (dk DX0_stop_1 13 rfl) KX0 fX0_111 (by decide) rfl (CLt hH (q := 13) (by decide)) (CC hH 13 (by decide) rfl) ?_
        refine g_iconst (v := 1) hX (dk DX0_stop_1 14 rfl) (by decide) ?_
        refine g_aload_1 hX (dk DX0_stop_1 15 rfl) ?_
        refine g_getD (v := (nI d)) hX (dk DX0_stop_1 16 rfl) fX0_93 (by decide) hq hdc ((by first | exact hi | (simp only [upI_off (show q ≠ 13 by omega)]; exact hi))) ?_
        refine g_ishl hX (dk DX0_stop_1 17 rfl) ?_
        refine g_ior hX (dk DX0_stop_1 18 rfl) ?_
        refine g_putI hX (dk DX0_stop_1 19 rfl) KX0 fX0_111 (by decide) rfl (CLt hH (q := 13) (by decide)) (CC hH 13 (by decide) rfl) (Or.inl rfl) (rfl) (rfl) ?_
        refine g_return hX (dk DX0_stop_1 20 rfl) rfl (by decide) (by decide) ?_
        exact qV_of ⟨fun a ha => by simp only [upI_off ha], rfl, rfl⟩

set_option maxRecDepth 8000 in
set_option maxHeartbeats 4000000 in
theorem w_X0_stopAll {G : Gt} (hG : Gok G) {I : It} {h : Ht}  (hW : WX I h) {u : Int32} {x : Nat} (hx : x < 2 ^ 31) : Con G (5) 0 0 mX0_stopAll [.ref 13, .int u, .int (nI x)] I h (qV (fun I2 h2 => (∀ a, a ≠ 13 → I2 a = I a) ∧ I2 13 1 = I 13 1 ∧ h2 = h)) := by
  refine con_intro (own := RX0) (lo0 := [some (.ref 13), some (.int u), some (.int (nI x)), none, none]) hG rfl pl_X0 (Nat.le_of_ble_eq_true rfl) rfl (fun X hX => ?_)
  have hH := hW.1
  have hc10 := hW.2.1.2
  have loop7 : ∀ (k d : Nat) (J : It), d + k = cN I → (∀ a, a ≠ 13 → J a = I a) → J 13 1 = I 13 1 → GG G (5) 0 0 X (qV (fun I2 h2 => (∀ a, a ≠ 13 → I2 a = I a) ∧ I2 13 1 = I 13 1 ∧ h2 = h)) 7 [some (.ref 13), some (.int u), some (.int (nI x)), some (.int (nI d)), none] [] (J) (h) 0 0 := by
    intro k
    induction k using Nat.strongRecOn with | _ k ih => ?_
    intro d J hk hJ hsp
    have hS : Sc I J := Sc.of1 hJ (by decide)
    have hWI := hW
    have hW := hW.sc hS
    have eJ : J 1 = I 1 := hS 1 (by omega)
    have ec : cN J = cN I := by unfold cN; rw [eJ]
    refine g_iload_3 hX (dk DX0_stopAll 5 rfl) ?_
    refine g_aload_0 hX (dk DX0_stopAll 6 rfl) ?_
    refine g_getRs (r := 1) hX (dk DX0_stopAll 7 rfl) KX0 fX0_34 (by decide) rfl (CLt hH (q := 13) (by decide)) (CC hH 13 (by decide) rfl) (CR hH 13 0 1 (by decide)) ?_
    refine g_getIv hX (dk DX0_stopAll 8 rfl) KX5 fX0_69 (by decide) rfl (CLt hH (q := 1) (by decide)) (CC hH 1 (by decide) rfl) ((show J 1 2 = nI (cN I) from by rw [eJ]; exact hWI.2.1.1)) ?_
    refine g_icmp_ge (tgt := 54) hX (dk DX0_stopAll 9 rfl) (by decide) (fun hc1 => ?_) (fun hc1 => ?_)
    · refine g_return hX (dk DX0_stopAll 27 rfl) rfl (by decide) (by decide) ?_
      exact qV_of ⟨hJ, hsp, rfl⟩
    · obtain ⟨k, rfl⟩ := cl_go hk (by omega) hc1
      obtain ⟨g1, g2, g3, g4, g5, g6⟩ := hW.2.2.1 d (by omega)
      refine g_aload_0 hX (dk DX0_stopAll 10 rfl) ?_
      refine g_getRs (r := 1) hX (dk DX0_stopAll 11 rfl) KX0 fX0_34 (by decide) rfl (CLt hH (q := 13) (by decide)) (CC hH 13 (by decide) rfl) (CR hH 13 0 1 (by decide)) ?_
      refine g_iload_3 hX (dk DX0_stopAll 12 rfl) ?_
      refine g_c2R hX sX0_stopAll_23 (by decide) (Nat.le_of_ble_eq_true rfl) (rc0 rfl (CLt hH (by decide)) (CC hH 1 (by decide) rfl)) (by decide) (by decide) (c_X5_find hG hW (by omega)) ?_
      refine g_astore_4 hX (dk DX0_stopAll 14 rfl) (by decide) rfl ?_
      refine g_aload_4 hX (dk DX0_stopAll 15 rfl) ?_
      refine g_ifnullR hX (dk DX0_stopAll 16 rfl) ?_
      refine g_iload_1 hX (dk DX0_stopAll 17 rfl) ?_
      refine g_iload_3 hX (dk DX0_stopAll 18 rfl) ?_
      refine g_c2I hX sX0_stopAll_35 (by decide) (Nat.le_of_ble_eq_true rfl) rcN (by decide) (by decide) (c_X11_bit hG) ?_
      refine g_if_eq (tgt := 48) hX (dk DX0_stopAll 20 rfl) (by decide) (fun hc2 => ?_) (fun hc2 => ?_)
      · refine g_iinc_3 hX (dk DX0_stopAll 25 rfl) (nI_1 d) (by decide) rfl ?_
        refine g_goto (tgt := 7) hX (dk DX0_stopAll 26 rfl) (by decide) ?_
        first
        | exact g_fgt (ih k (by omega) (d + 1) J2 (by omega) (fun a ha => (hf a ha).trans (hJ a ha)) (hf2.trans hsp)) ⟨rfl, rfl, rfl, rfl, trivial⟩
        | exact g_fgt (ih k (by omega) (d + 1) J (by omega) hJ hsp) ⟨rfl, rfl, rfl, rfl, trivial⟩
      · refine g_aload_0 hX (dk DX0_stopAll 21 rfl) ?_
        refine g_aload_4 hX (dk DX0_stopAll 22 rfl) ?_
        refine g_iload_2 hX (dk DX0_stopAll 23 rfl) ?_
        refine g_c3v hX sX0_stopAll_45 (by decide) (Nat.le_of_ble_eq_true rfl) (rc0 rfl (CLt hH (by decide)) (CC hH 13 (by decide) rfl)) (by decide) (by decide) (w_X0_stop hG hW (d := d) (by omega) g3 g2 g4 g5 hx) ?_
        rintro J2 _ ⟨hf, hf2, rfl⟩
        refine g_iinc_3 hX (dk DX0_stopAll 25 rfl) (nI_1 d) (by decide) rfl ?_
        refine g_goto (tgt := 7) hX (dk DX0_stopAll 26 rfl) (by decide) ?_
        first
        | exact g_fgt (ih k (by omega) (d + 1) J2 (by omega) (fun a ha => (hf a ha).trans (hJ a ha)) (hf2.trans hsp)) ⟨rfl, rfl, rfl, rfl, trivial⟩
        | exact g_fgt (ih k (by omega) (d + 1) J (by omega) hJ hsp) ⟨rfl, rfl, rfl, rfl, trivial⟩
  refine g_aload_0 hX (dk DX0_stopAll 0 rfl) ?_
  refine g_iconst (v := 0) hX (dk DX0_stopAll 1 rfl) (by decide) ?_
  refine g_putI hX (dk DX0_stopAll 2 rfl) KX0 fX0_140 (by decide) rfl (CLt hH (q := 13) (by decide)) (CC hH 13 (by decide) rfl) (Or.inl rfl) (rfl) (rfl) ?_
  refine g_iconst (v := 0) hX (dk DX0_stopAll 3 rfl) (by decide) ?_
  refine g_istore_3 hX (dk DX0_stopAll 4 rfl) (by decide) rfl ?_
  exact g_fgt (loop7 (cN I) 0 _ (Nat.zero_add _) (fun a ha => upI_off ha) rfl) ⟨rfl, rfl, rfl, rfl, trivial⟩

set_option maxRecDepth 8000 in
set_option maxHeartbeats 4000000 in
theorem w_X0_pass {G : Gt} (hG : Gok G) {I : It} {h : Ht}  (hW : WX I h) {a b : Int32} {m : Nat} (hm : m ≤ 200) (hsp : I 13 1 = nI m) : Con G (6) 0 0 mX0_pass [.ref 13, .int a, .int b] I h (qI (fun _ I2 h2 => P2 I I2 ∧ h2 = h)) := by
  refine con_intro (own := RX0) (lo0 := [some (.ref 13), some (.int a), some (.int b), none]) hG rfl pl_X0 (Nat.le_of_ble_eq_true rfl) rfl (fun X hX => ?_)
  have hH := hW.1
  have hc10 := hW.2.1.2
  have loop39 : ∀ (k j : Nat) (J : It), j + k = m → P2 I J → GG G (6) 0 0 X (qI (fun _ I2 h2 => P2 I I2 ∧ h2 = h)) 39 [some (.ref 13), some (.int a), some (.int b), some (.int (nI j))] [] (J) (h) 0 0 := by
    intro k
    induction k using Nat.strongRecOn with | _ k ih => ?_
    intro j J hk hP
    have hw9 := hW.2.2.2.2.1.2
    have hS := hP.sc
    have hWI := hW
    have hW := hW.sc hS
    have eJ : J 1 = I 1 := hS 1 (by omega)
    have ec : cN J = cN I := by unfold cN; rw [eJ]
    refine g_iload_3 hX (dk DX0_pass_0 23 rfl) ?_
    refine g_aload_0 hX (dk DX0_pass_0 24 rfl) ?_
    refine g_getIv hX (dk DX0_pass_0 25 rfl) KX0 fX0_47 (by decide) rfl (CLt hH (q := 13) (by decide)) (CC hH 13 (by decide) rfl) ((hP.2.trans hsp)) ?_
    refine g_icmp_ge (tgt := 135) hX (dk DX0_pass_0 26 rfl) (by decide) (fun hc1 => ?_) (fun hc1 => ?_)
    · refine g_aload_0 hX (dk DX0_pass_1 19 rfl) ?_
      refine g_getI hX (dk DX0_pass_1 20 rfl) KX0 fX0_117 (by decide) rfl (CLt hH (q := 13) (by decide)) (CC hH 13 (by decide) rfl) ?_
      refine g_ireturn hX (dk DX0_pass_1 21 rfl) rfl (rfl) (by decide) (by decide) ?_
      exact qI_of ⟨hP, rfl⟩
    · obtain ⟨k, rfl⟩ := ct_go hk (by omega) hc1
      refine g_aload_0 hX (dk DX0_pass_0 27 rfl) ?_
      refine g_getRs (r := 27) hX (dk DX0_pass_0 28 rfl) KX0 fX0_25 (by decide) rfl (CLt hH (q := 13) (by decide)) (CC hH 13 (by decide) rfl) (CR hH 13 5 27 (by decide)) ?_
      refine g_iload_3 hX (dk DX0_pass_0 29 rfl) ?_
      refine g_aload_0 hX (dk DX0_pass_0 30 rfl) ?_
      refine g_getRs (r := 14) hX (dk DX0_pass_0 31 rfl) KX0 fX0_9 (by decide) rfl (CLt hH (q := 13) (by decide)) (CC hH 13 (by decide) rfl) (CR hH 13 2 14 (by decide)) ?_
      refine g_iload_3 hX (dk DX0_pass_0 32 rfl) ?_
      refine i_iaload hX (dk DX0_pass_0 33 rfl) (CLt hH (q := 14) (by decide)) (CS hH 14 (by decide) rfl) (⟨rfl, by omega, by decide⟩) ?_
      refine g_aload_0 hX (dk DX0_pass_0 34 rfl) ?_
      refine g_getI hX (dk DX0_pass_0 35 rfl) KX0 fX0_114 (by decide) rfl (CLt hH (q := 13) (by decide)) (CC hH 13 (by decide) rfl) ?_
      refine g_iconst (v := -1) hX (dk DX0_pass_0 36 rfl) (by decide) ?_
      refine g_ixor hX (dk DX0_pass_0 37 rfl) ?_
      refine g_iand hX (dk DX0_pass_0 38 rfl) ?_
      refine g_aload_0 hX (dk DX0_pass_0 39 rfl) ?_
      refine g_getI hX (dk DX0_pass_0 40 rfl) KX0 fX0_111 (by decide) rfl (CLt hH (q := 13) (by decide)) (CC hH 13 (by decide) rfl) ?_
      refine g_iconst (v := -1) hX (dk DX0_pass_0 41 rfl) (by decide) ?_
      refine g_ixor hX (dk DX0_pass_0 42 rfl) ?_
      refine g_iand hX (dk DX0_pass_0 43 rfl) ?_
      refine i_iastore hX (dk DX0_pass_0 44 rfl) (CLt hH (q := 27) (by decide)) (CS hH 27 (by decide) rfl) (⟨rfl, by omega, by decide⟩) ?_
      refine g_aload_0 hX (dk DX0_pass_0 45 rfl) ?_
      refine g_getRs (r := 27) hX (dk DX0_pass_0 46 rfl) KX0 fX0_25 (by decide) rfl (CLt hH (q := 13) (by decide)) (CC hH 13 (by decide) rfl) (CR hH 13 5 27 (by decide)) ?_
      refine g_iload_3 hX (dk DX0_pass_0 47 rfl) ?_
      refine i_iaload hX (dk DX0_pass_0 48 rfl) (CLt hH (q := 27) (by decide)) (CS hH 27 (by decide) rfl) (⟨rfl, by omega, by decide⟩) ?_
      refine g_if_eq (tgt := 101) hX (dk DX0_pass_0 49 rfl) (by decide) (fun hc2 => ?_) (fun hc2 => ?_)
      · refine g_aload_0 hX (dk DX0_pass_1 1 rfl) ?_
        refine g_dup hX (dk DX0_pass_1 2 rfl) rfl ?_
        refine g_getI hX (dk DX0_pass_1 3 rfl) KX0 fX0_117 (by decide) rfl (CLt hH (q := 13) (by decide)) (CC hH 13 (by decide) rfl) ?_
        refine g_aload_0 hX (dk DX0_pass_1 4 rfl) ?_
        refine g_getRs (r := 14) hX (dk DX0_pass_1 5 rfl) KX0 fX0_9 (by decide) rfl (CLt hH (q := 13) (by decide)) (CC hH 13 (by decide) rfl) (CR hH 13 2 14 (by decide)) ?_
        refine g_iload_3 hX (dk DX0_pass_1 6 rfl) ?_
        refine i_iaload hX (dk DX0_pass_1 7 rfl) (CLt hH (q := 14) (by decide)) (CS hH 14 (by decide) rfl) (⟨rfl, by omega, by decide⟩) ?_
        refine g_aload_0 hX (dk DX0_pass_1 8 rfl) ?_
        refine g_getI hX (dk DX0_pass_1 9 rfl) KX0 fX0_114 (by decide) rfl (CLt hH (q := 13) (by decide)) (CC hH 13 (by decide) rfl) ?_
        refine g_iand hX (dk DX0_pass_1 10 rfl) ?_
        refine g_aload_0 hX (dk DX0_pass_1 11 rfl) ?_
        refine g_getI hX (dk DX0_pass_1 12 rfl) KX0 fX0_111 (by decide) rfl (CLt hH (q := 13) (by decide)) (CC hH 13 (by decide) rfl) ?_
        refine g_iand hX (dk DX0_pass_1 13 rfl) ?_
        refine g_c1q hX sX0_pass_122 (by decide) (Nat.le_of_ble_eq_true rfl) rcN (by decide) (by decide) (c_J6_bitCount_0f7a4 hG) ?_
        rintro _ _ _ ⟨-, rfl, rfl⟩
        refine g_iadd hX (dk DX0_pass_1 15 rfl) ?_
        refine g_putI hX (dk DX0_pass_1 16 rfl) KX0 fX0_117 (by decide) rfl (CLt hH (q := 13) (by decide)) (CC hH 13 (by decide) rfl) (Or.inl rfl) (rfl) (rfl) ?_
        refine g_iinc_3 hX (dk DX0_pass_1 17 rfl) (nI_1 j) (by decide) rfl ?_
        refine g_goto (tgt := 39) hX (dk DX0_pass_1 18 rfl) (by decide) ?_
        first
        | exact g_fgt (ih k (by omega) (j + 1) _ (by omega) (hP2.u13 (by decide))) ⟨rfl, rfl, rfl, rfl, trivial⟩
        | exact g_fgt (ih k (by omega) (j + 1) _ (by omega) (hP.u27.u13 (by decide))) ⟨rfl, rfl, rfl, rfl, trivial⟩
      · refine g_aload_0 hX (dk DX0_pass_0 50 rfl) ?_
        refine g_aload_0 hX (dk DX0_pass_0 51 rfl) ?_
        refine g_getRs (r := 27) hX (dk DX0_pass_0 52 rfl) KX0 fX0_25 (by decide) rfl (CLt hH (q := 13) (by decide)) (CC hH 13 (by decide) rfl) (CR hH 13 5 27 (by decide)) ?_
        refine g_iload_3 hX (dk DX0_pass_0 53 rfl) ?_
        refine i_iaload hX (dk DX0_pass_0 54 rfl) (CLt hH (q := 27) (by decide)) (CS hH 27 (by decide) rfl) (⟨rfl, by omega, by decide⟩) ?_
        refine g_aload_0 hX (dk DX0_pass_0 55 rfl) ?_
        refine g_getRs (r := 1) hX (dk DX0_pass_0 56 rfl) KX0 fX0_34 (by decide) rfl (CLt hH (q := 13) (by decide)) (CC hH 13 (by decide) rfl) (CR hH 13 0 1 (by decide)) ?_
        refine g_getIv hX (dk DX0_pass_0 57 rfl) KX5 fX0_57 (by decide) rfl (CLt hH (q := 1) (by decide)) (CC hH 1 (by decide) rfl) ((show J 1 6 = nI (weN I) from by rw [eJ]; exact hWI.2.2.2.2.1.1)) ?_
        refine g_iload_3 hX (dk DX0_pass_0 58 rfl) ?_
        refine g_iadd hX (dk DX0_pass_0 59 rfl) ?_
        refine g_nmI (nI (weN I + j)) (nI_add _ _) ?_
        refine g_c3v hX sX0_pass_98 (by decide) (Nat.le_of_ble_eq_true rfl) (rc0 rfl (CLt hH (by decide)) (CC hH 13 (by decide) rfl)) (by decide) (by decide) (w_X0_stopAll hG (hW.sc (Sc.rf.up ⟨by decide, by decide⟩)) (x := weN I + j) (by omega)) ?_
        rintro J2 _ ⟨hf, hf2, rfl⟩
        have hP2 : P2 I J2 := hP.u27.trans ⟨fun a z1 _ => hf a z1, hf2⟩
        refine g_aload_0 hX (dk DX0_pass_1 1 rfl) ?_
        refine g_dup hX (dk DX0_pass_1 2 rfl) rfl ?_
        refine g_getI hX (dk DX0_pass_1 3 rfl) KX0 fX0_117 (by decide) rfl (CLt hH (q := 13) (by decide)) (CC hH 13 (by decide) rfl) ?_
        refine g_aload_0 hX (dk DX0_pass_1 4 rfl) ?_
        refine g_getRs (r := 14) hX (dk DX0_pass_1 5 rfl) KX0 fX0_9 (by decide) rfl (CLt hH (q := 13) (by decide)) (CC hH 13 (by decide) rfl) (CR hH 13 2 14 (by decide)) ?_
        refine g_iload_3 hX (dk DX0_pass_1 6 rfl) ?_
        refine i_iaload hX (dk DX0_pass_1 7 rfl) (CLt hH (q := 14) (by decide)) (CS hH 14 (by decide) rfl) (⟨rfl, by omega, by decide⟩) ?_
        refine g_aload_0 hX (dk DX0_pass_1 8 rfl) ?_
        refine g_getI hX (dk DX0_pass_1 9 rfl) KX0 fX0_114 (by decide) rfl (CLt hH (q := 13) (by decide)) (CC hH 13 (by decide) rfl) ?_
        refine g_iand hX (dk DX0_pass_1 10 rfl) ?_
        refine g_aload_0 hX (dk DX0_pass_1 11 rfl) ?_
        refine g_getI hX (dk DX0_pass_1 12 rfl) KX0 fX0_111 (by decide) rfl (CLt hH (q := 13) (by decide)) (CC hH 13 (by decide) rfl) ?_
        refine g_iand hX (dk DX0_pass_1 13 rfl) ?_
        refine g_c1q hX sX0_pass_122 (by decide) (Nat.le_of_ble_eq_true rfl) rcN (by decide) (by decide) (c_J6_bitCount_0f7a4 hG) ?_
        rintro _ _ _ ⟨-, rfl, rfl⟩
        refine g_iadd hX (dk DX0_pass_1 15 rfl) ?_
        refine g_putI hX (dk DX0_pass_1 16 rfl) KX0 fX0_117 (by decide) rfl (CLt hH (q := 13) (by decide)) (CC hH 13 (by decide) rfl) (Or.inl rfl) (rfl) (rfl) ?_
        refine g_iinc_3 hX (dk DX0_pass_1 17 rfl) (nI_1 j) (by decide) rfl ?_
        refine g_goto (tgt := 39) hX (dk DX0_pass_1 18 rfl) (by decide) ?_
        first
        | exact g_fgt (ih k (by omega) (j + 1) _ (by omega) (hP2.u13 (by decide))) ⟨rfl, rfl, rfl, rfl, trivial⟩
        | exact g_fgt (ih k (by omega) (j + 1) _ (by omega) (hP.u27.u13 (by decide))) ⟨rfl, rfl, rfl, rfl, trivial⟩
  refine g_aload_0 hX (dk DX0_pass_0 0 rfl) ?_
  refine g_iload_1 hX (dk DX0_pass_0 1 rfl) ?_
  refine g_putI hX (dk DX0_pass_0 2 rfl) KX0 fX0_111 (by decide) rfl (CLt hH (q := 13) (by decide)) (CC hH 13 (by decide) rfl) (Or.inl rfl) (rfl) (rfl) ?_
  refine g_aload_0 hX (dk DX0_pass_0 3 rfl) ?_
  refine g_iload_2 hX (dk DX0_pass_0 4 rfl) ?_
  refine g_putI hX (dk DX0_pass_0 5 rfl) KX0 fX0_114 (by decide) rfl (CLt hH (q := 13) (by decide)) (CC hH 13 (by decide) rfl) (Or.inl rfl) (rfl) (rfl) ?_
  refine g_aload_0 hX (dk DX0_pass_0 6 rfl) ?_
  refine g_iconst (v := 0) hX (dk DX0_pass_0 7 rfl) (by decide) ?_
  refine g_putI hX (dk DX0_pass_0 8 rfl) KX0 fX0_117 (by decide) rfl (CLt hH (q := 13) (by decide)) (CC hH 13 (by decide) rfl) (Or.inl rfl) (rfl) (rfl) ?_
  refine g_aload_0 hX (dk DX0_pass_0 9 rfl) ?_
  refine g_iconst (v := 0) hX (dk DX0_pass_0 10 rfl) (by decide) ?_
  refine g_putI hX (dk DX0_pass_0 11 rfl) KX0 fX0_120 (by decide) rfl (CLt hH (q := 13) (by decide)) (CC hH 13 (by decide) rfl) (Or.inl rfl) (rfl) (rfl) ?_
  refine g_aload_0 hX (dk DX0_pass_0 12 rfl) ?_
  refine g_iconst (v := 0) hX (dk DX0_pass_0 13 rfl) (by decide) ?_
  refine g_putI hX (dk DX0_pass_0 14 rfl) KX0 fX0_123 (by decide) rfl (CLt hH (q := 13) (by decide)) (CC hH 13 (by decide) rfl) (Or.inl rfl) (rfl) (rfl) ?_
  refine g_aload_0 hX (dk DX0_pass_0 15 rfl) ?_
  refine g_bipush (v := -5) hX (dk DX0_pass_0 16 rfl) (by decide) ?_
  refine g_putI hX (dk DX0_pass_0 17 rfl) KX0 fX0_126 (by decide) rfl (CLt hH (q := 13) (by decide)) (CC hH 13 (by decide) rfl) (Or.inl rfl) (rfl) (rfl) ?_
  refine g_aload_0 hX (dk DX0_pass_0 18 rfl) ?_
  refine g_bipush (v := -5) hX (dk DX0_pass_0 19 rfl) (by decide) ?_
  refine g_putI hX (dk DX0_pass_0 20 rfl) KX0 fX0_129 (by decide) rfl (CLt hH (q := 13) (by decide)) (CC hH 13 (by decide) rfl) (Or.inl rfl) (rfl) (rfl) ?_
  refine g_iconst (v := 0) hX (dk DX0_pass_0 21 rfl) (by decide) ?_
  refine g_istore_3 hX (dk DX0_pass_0 22 rfl) (by decide) rfl ?_
  exact g_fgt (loop39 m 0 _ (Nat.zero_add _) (((((((P2.rf.u13 (by decide)).u13 (by decide)).u13 (by decide)).u13 (by decide)).u13 (by decide)).u13 (by decide)).u13 (by decide))) ⟨rfl, rfl, rfl, rfl, trivial⟩

set_option maxRecDepth 8000 in
set_option maxHeartbeats 4000000 in
theorem w_X0_costHanded {G : Gt} (hG : Gok G) {I : It} {h : Ht}  (hW : WX I h) {hq2 : Nat} (hh : hq2 < hn h) (hhs : hs h hq2 = (20, 4)) {m : Nat} (hm : m ≤ 200) (hsp : I 13 1 = nI m) : Con G (7) 0 0 mX0_costHanded [.ref 13, .ref hq2] I h (qI (fun _ I2 h2 => P2 I I2 ∧ h2 = h)) := by
  refine con_intro (own := RX0) (lo0 := [some (.ref 13), some (.ref hq2)]) hG rfl pl_X0 (Nat.le_of_ble_eq_true rfl) rfl (fun X hX => ?_)
  have hH := hW.1
  have hc10 := hW.2.1.2
  refine g_aload_0 hX (dk DX0_costHanded 0 rfl) ?_
  refine g_aload_0 hX (dk DX0_costHanded 1 rfl) ?_
  refine g_getRs (r := 1) hX (dk DX0_costHanded 2 rfl) KX0 fX0_34 (by decide) rfl (CLt hH (q := 13) (by decide)) (CC hH 13 (by decide) rfl) (CR hH 13 0 1 (by decide)) ?_
  refine g_getI hX (dk DX0_costHanded 3 rfl) KX5 fX0_161 (by decide) rfl (CLt hH (q := 1) (by decide)) (CC hH 1 (by decide) rfl) ?_
  refine g_aload_0 hX (dk DX0_costHanded 4 rfl) ?_
  refine g_aload_1 hX (dk DX0_costHanded 5 rfl) ?_
  refine g_c2q hX sX0_costHanded_10 (by decide) (Nat.le_of_ble_eq_true rfl) (rc0 rfl (CLt hH (by decide)) (CC hH 13 (by decide) rfl)) (by decide) (by decide) (w_X0_goingOver hG hW hh hhs) ?_
  rintro _ _ _ ⟨rfl, rfl⟩
  refine g_ior hX (dk DX0_costHanded 7 rfl) ?_
  refine g_aload_0 hX (dk DX0_costHanded 8 rfl) ?_
  refine g_getRs (r := 1) hX (dk DX0_costHanded 9 rfl) KX0 fX0_34 (by decide) rfl (CLt hH (q := 13) (by decide)) (CC hH 13 (by decide) rfl) (CR hH 13 0 1 (by decide)) ?_
  refine g_getI hX (dk DX0_costHanded 10 rfl) KX5 fX0_166 (by decide) rfl (CLt hH (q := 1) (by decide)) (CC hH 1 (by decide) rfl) ?_
  refine g_c3q hX sX0_costHanded_21 (by decide) (Nat.le_of_ble_eq_true rfl) (rc0 rfl (CLt hH (by decide)) (CC hH 13 (by decide) rfl)) (by decide) (by decide) (w_X0_pass hG hW hm hsp) ?_
  rintro _ J2 _ ⟨hP2, rfl⟩
  refine g_ireturn hX (dk DX0_costHanded 12 rfl) rfl (rfl) (by decide) (by decide) ?_
  exact qI_of ⟨hP2, rfl⟩
end
section
set_option maxRecDepth 8000 in
set_option maxHeartbeats 4000000 in
theorem w_X0_hourMore {G : Gt} (hG : Gok G) {I : It} {h : Ht}  (hH : HX h) {y : Int32} : Con G (3) 0 0 mX0_hourMore [.ref 13, .int y] I h (fun r I2 h2 => r = some (.ref 28) ∧ (∀ a, a ≠ 28 → I2 a = I a) ∧ h2 = h) := by
  refine con_intro (own := RX0) (lo0 := [some (.ref 13), some (.int y), none]) hG rfl pl_X0 (Nat.le_of_ble_eq_true rfl) rfl (fun X hX => ?_)
  have loop2 : ∀ (k n : Nat) (J : It), n + k = 4 → (∀ a, a ≠ 28 → J a = I a) → GG G (3) 0 0 X (fun r I2 h2 => r = some (.ref 28) ∧ (∀ a, a ≠ 28 → I2 a = I a) ∧ h2 = h) 2 [some (.ref 13), some (.int y), some (.int (nI n))] [] (J) (h) 0 0 := by
    intro k
    induction k using Nat.strongRecOn with | _ k ih => ?_
    intro n J hk hf
    refine g_iload_2 hX (dk DX0_hourMore 2 rfl) ?_
    refine g_iconst (v := 4) hX (dk DX0_hourMore 3 rfl) (by decide) ?_
    refine g_icmp_ge (tgt := 39) hX (dk DX0_hourMore 4 rfl) (by decide) (fun hc1 => ?_) (fun hc1 => ?_)
    · refine g_aload_0 hX (dk DX0_hourMore 23 rfl) ?_
      refine g_getRs (r := 28) hX (dk DX0_hourMore 24 rfl) KX0 fX0_28 (by decide) rfl (CLt hH (q := 13) (by decide)) (CC hH 13 (by decide) rfl) (CR hH 13 14 28 (by decide)) ?_
      refine g_areturn (r := some 28) hX (dk DX0_hourMore 25 rfl) rfl rfl (Or.inr ⟨_, rfl⟩) (by decide) (by decide) ?_
      exact ⟨rfl, hf, rfl⟩
    · obtain ⟨k, rfl⟩ := cl_go (e := 4) hk (by decide) hc1
      refine g_aload_0 hX (dk DX0_hourMore 5 rfl) ?_
      refine g_getRs (r := 28) hX (dk DX0_hourMore 6 rfl) KX0 fX0_28 (by decide) rfl (CLt hH (q := 13) (by decide)) (CC hH 13 (by decide) rfl) (CR hH 13 14 28 (by decide)) ?_
      refine g_iload_2 hX (dk DX0_hourMore 7 rfl) ?_
      refine g_aload_0 hX (dk DX0_hourMore 8 rfl) ?_
      refine g_getRs (r := 1) hX (dk DX0_hourMore 9 rfl) KX0 fX0_34 (by decide) rfl (CLt hH (q := 13) (by decide)) (CC hH 13 (by decide) rfl) (CR hH 13 0 1 (by decide)) ?_
      refine g_getRs (r := 4) hX (dk DX0_hourMore 10 rfl) KX5 fX0_101 (by decide) rfl (CLt hH (q := 1) (by decide)) (CC hH 1 (by decide) rfl) (CR hH 1 5 4 (by decide)) ?_
      refine g_iload_2 hX (dk DX0_hourMore 11 rfl) ?_
      refine i_iaload hX (dk DX0_hourMore 12 rfl) (CLt hH (q := 4) (by decide)) (CS hH 4 (by decide) rfl) (⟨rfl, by omega, by decide⟩) ?_
      refine g_iload_2 hX (dk DX0_hourMore 13 rfl) ?_
      refine g_iload_1 hX (dk DX0_hourMore 14 rfl) ?_
      refine g_icmp_ne (tgt := 30) hX (dk DX0_hourMore 15 rfl) (by decide) (fun hc2 => ?_) (fun hc2 => ?_)
      · refine g_iconst (v := 0) hX (dk DX0_hourMore 18 rfl) (by decide) ?_
        refine g_iadd hX (dk DX0_hourMore 19 rfl) ?_
        refine i_iastore hX (dk DX0_hourMore 20 rfl) (CLt hH (q := 28) (by decide)) (CS hH 28 (by decide) rfl) (⟨rfl, by omega, by decide⟩) ?_
        refine g_iinc_2 hX (dk DX0_hourMore 21 rfl) (nI_1 n) (by decide) rfl ?_
        refine g_goto (tgt := 2) hX (dk DX0_hourMore 22 rfl) (by decide) ?_
        exact ih k (by omega) (n + 1) _ (by omega) (fun a ha => by rw [upI_off ha]; exact hf a ha)
      · refine g_iconst (v := 1) hX (dk DX0_hourMore 16 rfl) (by decide) ?_
        refine g_goto (tgt := 31) hX (dk DX0_hourMore 17 rfl) (by decide) ?_
        refine g_iadd hX (dk DX0_hourMore 19 rfl) ?_
        refine i_iastore hX (dk DX0_hourMore 20 rfl) (CLt hH (q := 28) (by decide)) (CS hH 28 (by decide) rfl) (⟨rfl, by omega, by decide⟩) ?_
        refine g_iinc_2 hX (dk DX0_hourMore 21 rfl) (nI_1 n) (by decide) rfl ?_
        refine g_goto (tgt := 2) hX (dk DX0_hourMore 22 rfl) (by decide) ?_
        exact ih k (by omega) (n + 1) _ (by omega) (fun a ha => by rw [upI_off ha]; exact hf a ha)
  refine g_iconst (v := 0) hX (dk DX0_hourMore 0 rfl) (by decide) ?_
  refine g_istore_2 hX (dk DX0_hourMore 1 rfl) (by decide) rfl ?_
  exact g_fgt (loop2 4 0 I (Nat.zero_add _) (fun a ha => rfl)) ⟨rfl, rfl, rfl, trivial⟩

set_option maxRecDepth 8000 in
set_option maxHeartbeats 4000000 in
theorem w_X0_bestOf {G : Gt} (hG : Gok G) {I : It} {h : Ht}  (hW : WX I h) {u z : Int32} {m : Nat} (hm : m ≤ 200) (hsp : I 13 1 = nI m) : Con G (7) 0 0 mX0_bestOf [.ref 13, .int u, .int z] I h (qI (fun _ I2 h2 => P2 I I2 ∧ h2 = h)) := by
  refine con_intro (own := RX0) (lo0 := [some (.ref 13), some (.int u), some (.int z), none, none, none, none, none]) hG rfl pl_X0 (Nat.le_of_ble_eq_true rfl) rfl (fun X hX => ?_)
  have hH := hW.1
  have hc10 := hW.2.1.2
  have loop10 : ∀ (k d : Nat) (f l : Int32) (J : It), d + k = cN I → P2 I J → GG G (7) 0 0 X (qI (fun _ I2 h2 => P2 I I2 ∧ h2 = h)) 10 [some (.ref 13), some (.int u), some (.int z), some (.int f), some (.int l), some (.int (nI d)), none, none] [] (J) (h) 0 0 := by
    intro k
    induction k using Nat.strongRecOn with | _ k ih => ?_
    intro d f l J hk hP
    have hS := hP.sc
    have hWI := hW
    have hW := hW.sc hS
    have eJ : J 1 = I 1 := hS 1 (by omega)
    have ec : cN J = cN I := by unfold cN; rw [eJ]
    refine g_iload_5 hX (dk DX0_bestOf 6 rfl) ?_
    refine g_aload_0 hX (dk DX0_bestOf 7 rfl) ?_
    refine g_getRs (r := 1) hX (dk DX0_bestOf 8 rfl) KX0 fX0_34 (by decide) rfl (CLt hH (q := 13) (by decide)) (CC hH 13 (by decide) rfl) (CR hH 13 0 1 (by decide)) ?_
    refine g_getIv hX (dk DX0_bestOf 9 rfl) KX5 fX0_69 (by decide) rfl (CLt hH (q := 1) (by decide)) (CC hH 1 (by decide) rfl) ((show J 1 2 = nI (cN I) from by rw [eJ]; exact hWI.2.1.1)) ?_
    refine g_icmp_ge (tgt := 108) hX (dk DX0_bestOf 10 rfl) (by decide) (fun hc1 => ?_) (fun hc1 => ?_)
    · refine g_iload_3 hX (dk DX0_bestOf 52 rfl) ?_
      refine g_ireturn hX (dk DX0_bestOf 53 rfl) rfl (rfl) (by decide) (by decide) ?_
      exact qI_of ⟨hP, rfl⟩
    · obtain ⟨k, rfl⟩ := cl_go hk (by omega) hc1
      refine g_iload_1 hX (dk DX0_bestOf 11 rfl) ?_
      refine g_iload_5 hX (dk DX0_bestOf 12 rfl) ?_
      refine g_c2I hX sX0_bestOf_25 (by decide) (Nat.le_of_ble_eq_true rfl) rcN (by decide) (by decide) (c_X11_bit hG) ?_
      refine g_if_eq (tgt := 102) hX (dk DX0_bestOf 14 rfl) (by decide) (fun hc2 => ?_) (fun hc2 => ?_)
      · refine g_iinc_5 hX (dk DX0_bestOf 50 rfl) (nI_1 d) (by decide) rfl ?_
        refine g_goto (tgt := 10) hX (dk DX0_bestOf 51 rfl) (by decide) ?_
        first
        | exact g_fgt (ih k (by omega) (d + 1) _ _ _ (by omega) (hP.trans hP2)) ⟨rfl, rfl, rfl, rfl, rfl, rfl, trivial⟩
        | exact g_fgt (ih k (by omega) (d + 1) _ _ _ (by omega) hP) ⟨rfl, rfl, rfl, rfl, rfl, rfl, trivial⟩
      · refine g_iconst (v := 1) hX (dk DX0_bestOf 15 rfl) (by decide) ?_
        refine g_iload_5 hX (dk DX0_bestOf 16 rfl) ?_
        refine g_ishl hX (dk DX0_bestOf 17 rfl) ?_
        refine g_istore_6 hX (dk DX0_bestOf 18 rfl) (by decide) rfl ?_
        refine g_iload_2 hX (dk DX0_bestOf 19 rfl) ?_
        refine g_if_eq (tgt := 65) hX (dk DX0_bestOf 20 rfl) (by decide) (fun hc3 => ?_) (fun hc3 => ?_)
        · refine g_aload_0 hX (dk DX0_bestOf 32 rfl) ?_
          refine g_aload_0 hX (dk DX0_bestOf 33 rfl) ?_
          refine g_getRs (r := 1) hX (dk DX0_bestOf 34 rfl) KX0 fX0_34 (by decide) rfl (CLt hH (q := 13) (by decide)) (CC hH 13 (by decide) rfl) (CR hH 13 0 1 (by decide)) ?_
          refine g_getI hX (dk DX0_bestOf 35 rfl) KX5 fX0_161 (by decide) rfl (CLt hH (q := 1) (by decide)) (CC hH 1 (by decide) rfl) ?_
          refine g_aload_0 hX (dk DX0_bestOf 36 rfl) ?_
          refine g_getRs (r := 1) hX (dk DX0_bestOf 37 rfl) KX0 fX0_34 (by decide) rfl (CLt hH (q := 13) (by decide)) (CC hH 13 (by decide) rfl) (CR hH 13 0 1 (by decide)) ?_
          refine g_getI hX (dk DX0_bestOf 38 rfl) KX5 fX0_166 (by decide) rfl (CLt hH (q := 1) (by decide)) (CC hH 1 (by decide) rfl) ?_
          refine g_iload_6 hX (dk DX0_bestOf 39 rfl) ?_
          refine g_ior hX (dk DX0_bestOf 40 rfl) ?_
          refine g_c3q hX sX0_bestOf_83 (by decide) (Nat.le_of_ble_eq_true rfl) (rc0 rfl (CLt hH (by decide)) (CC hH 13 (by decide) rfl)) (by decide) (by decide) (w_X0_pass hG hW hm (hP.2.trans hsp)) ?_
          rintro _ J2 _ ⟨hP2, rfl⟩
          refine g_istore_7 hX (dk DX0_bestOf 42 rfl) (by decide) rfl ?_
          refine g_iload_7 hX (dk DX0_bestOf 43 rfl) ?_
          refine g_iload_4 hX (dk DX0_bestOf 44 rfl) ?_
          refine g_icmp_ge (tgt := 102) hX (dk DX0_bestOf 45 rfl) (by decide) (fun hc4 => ?_) (fun hc4 => ?_)
          · refine g_iinc_5 hX (dk DX0_bestOf 50 rfl) (nI_1 d) (by decide) rfl ?_
            refine g_goto (tgt := 10) hX (dk DX0_bestOf 51 rfl) (by decide) ?_
            first
            | exact g_fgt (ih k (by omega) (d + 1) _ _ _ (by omega) (hP.trans hP2)) ⟨rfl, rfl, rfl, rfl, rfl, rfl, trivial⟩
            | exact g_fgt (ih k (by omega) (d + 1) _ _ _ (by omega) hP) ⟨rfl, rfl, rfl, rfl, rfl, rfl, trivial⟩
          · refine g_iload_7 hX (dk DX0_bestOf 46 rfl) ?_
            refine g_istore_4 hX (dk DX0_bestOf 47 rfl) (by decide) rfl ?_
            refine g_iload_5 hX (dk DX0_bestOf 48 rfl) ?_
            refine g_istore_3 hX (dk DX0_bestOf 49 rfl) (by decide) rfl ?_
            refine g_iinc_5 hX (dk DX0_bestOf 50 rfl) (nI_1 d) (by decide) rfl ?_
            refine g_goto (tgt := 10) hX (dk DX0_bestOf 51 rfl) (by decide) ?_
            first
            | exact g_fgt (ih k (by omega) (d + 1) _ _ _ (by omega) (hP.trans hP2)) ⟨rfl, rfl, rfl, rfl, rfl, rfl, trivial⟩
            | exact g_fgt (ih k (by omega) (d + 1) _ _ _ (by omega) hP) ⟨rfl, rfl, rfl, rfl, rfl, rfl, trivial⟩
        · refine g_aload_0 hX (dk DX0_bestOf 21 rfl) ?_
          refine g_aload_0 hX (dk DX0_bestOf 22 rfl) ?_
          refine g_getRs (r := 1) hX (dk DX0_bestOf 23 rfl) KX0 fX0_34 (by decide) rfl (CLt hH (q := 13) (by decide)) (CC hH 13 (by decide) rfl) (CR hH 13 0 1 (by decide)) ?_
          refine g_getI hX (dk DX0_bestOf 24 rfl) KX5 fX0_161 (by decide) rfl (CLt hH (q := 1) (by decide)) (CC hH 1 (by decide) rfl) ?_
          refine g_iload_6 hX (dk DX0_bestOf 25 rfl) ?_
          refine g_ior hX (dk DX0_bestOf 26 rfl) ?_
          refine g_aload_0 hX (dk DX0_bestOf 27 rfl) ?_
          refine g_getRs (r := 1) hX (dk DX0_bestOf 28 rfl) KX0 fX0_34 (by decide) rfl (CLt hH (q := 13) (by decide)) (CC hH 13 (by decide) rfl) (CR hH 13 0 1 (by decide)) ?_
          refine g_getI hX (dk DX0_bestOf 29 rfl) KX5 fX0_166 (by decide) rfl (CLt hH (q := 1) (by decide)) (CC hH 1 (by decide) rfl) ?_
          refine g_c3q hX sX0_bestOf_59 (by decide) (Nat.le_of_ble_eq_true rfl) (rc0 rfl (CLt hH (by decide)) (CC hH 13 (by decide) rfl)) (by decide) (by decide) (w_X0_pass hG hW hm (hP.2.trans hsp)) ?_
          rintro _ J2 _ ⟨hP2, rfl⟩
          refine g_goto (tgt := 86) hX (dk DX0_bestOf 31 rfl) (by decide) ?_
          refine g_istore_7 hX (dk DX0_bestOf 42 rfl) (by decide) rfl ?_
          refine g_iload_7 hX (dk DX0_bestOf 43 rfl) ?_
          refine g_iload_4 hX (dk DX0_bestOf 44 rfl) ?_
          refine g_icmp_ge (tgt := 102) hX (dk DX0_bestOf 45 rfl) (by decide) (fun hc5 => ?_) (fun hc5 => ?_)
          · refine g_iinc_5 hX (dk DX0_bestOf 50 rfl) (nI_1 d) (by decide) rfl ?_
            refine g_goto (tgt := 10) hX (dk DX0_bestOf 51 rfl) (by decide) ?_
            first
            | exact g_fgt (ih k (by omega) (d + 1) _ _ _ (by omega) (hP.trans hP2)) ⟨rfl, rfl, rfl, rfl, rfl, rfl, trivial⟩
            | exact g_fgt (ih k (by omega) (d + 1) _ _ _ (by omega) hP) ⟨rfl, rfl, rfl, rfl, rfl, rfl, trivial⟩
          · refine g_iload_7 hX (dk DX0_bestOf 46 rfl) ?_
            refine g_istore_4 hX (dk DX0_bestOf 47 rfl) (by decide) rfl ?_
            refine g_iload_5 hX (dk DX0_bestOf 48 rfl) ?_
            refine g_istore_3 hX (dk DX0_bestOf 49 rfl) (by decide) rfl ?_
            refine g_iinc_5 hX (dk DX0_bestOf 50 rfl) (nI_1 d) (by decide) rfl ?_
            refine g_goto (tgt := 10) hX (dk DX0_bestOf 51 rfl) (by decide) ?_
            first
            | exact g_fgt (ih k (by omega) (d + 1) _ _ _ (by omega) (hP.trans hP2)) ⟨rfl, rfl, rfl, rfl, rfl, rfl, trivial⟩
            | exact g_fgt (ih k (by omega) (d + 1) _ _ _ (by omega) hP) ⟨rfl, rfl, rfl, rfl, rfl, rfl, trivial⟩
  refine g_bipush (v := -5) hX (dk DX0_bestOf 0 rfl) (by decide) ?_
  refine g_istore_3 hX (dk DX0_bestOf 1 rfl) (by decide) rfl ?_
  refine g_ldc (v := 2147483647) hX (dk DX0_bestOf 2 rfl) (tg_3 231 rfl rfl) ?_
  refine g_istore_4 hX (dk DX0_bestOf 3 rfl) (by decide) rfl ?_
  refine g_iconst (v := 0) hX (dk DX0_bestOf 4 rfl) (by decide) ?_
  refine g_istore_5 hX (dk DX0_bestOf 5 rfl) (by decide) rfl ?_
  exact g_fgt (loop10 (cN I) 0 _ _ I (Nat.zero_add _) P2.rf) ⟨rfl, rfl, rfl, rfl, rfl, rfl, trivial⟩

set_option maxRecDepth 8000 in
set_option maxHeartbeats 4000000 in
theorem w_X0_firstRowNotSo {G : Gt} (hG : Gok G) {I : It} {h : Ht}  (hW : WX I h)  {m : Nat} (hm : m ≤ 200) (hsp : I 13 1 = nI m) : Con G (2) 0 0 mX0_firstRowNotSo [.ref 13] I h (qI (fun _ I2 h2 => I2 = I ∧ h2 = h)) := by
  refine con_intro (own := RX0) (lo0 := [some (.ref 13), none, none]) hG rfl pl_X0 (Nat.le_of_ble_eq_true rfl) rfl (fun X hX => ?_)
  have hH := hW.1
  have hc10 := hW.2.1.2
  have loop2 : ∀ r, r ≤ 12 → I 1 12 = nI r → ∀ (k d : Nat), d + k = r → GG G (2) 0 0 X (qI (fun _ I2 h2 => I2 = I ∧ h2 = h)) 2 [some (.ref 13), some (.int (nI d)), none] [] (I) (h) 0 0 := by
    intro r hr12 hr k
    induction k using Nat.strongRecOn with | _ k ih => ?_
    intro d hk
    refine g_iload_1 hX (dk DX0_firstRowNotSo 2 rfl) ?_
    refine g_aload_0 hX (dk DX0_firstRowNotSo 3 rfl) ?_
    refine g_getRs (r := 1) hX (dk DX0_firstRowNotSo 4 rfl) KX0 fX0_34 (by decide) rfl (CLt hH (q := 13) (by decide)) (CC hH 13 (by decide) rfl) (CR hH 13 0 1 (by decide)) ?_
    refine g_getIv hX (dk DX0_firstRowNotSo 5 rfl) KX5 fX0_184 (by decide) rfl (CLt hH (q := 1) (by decide)) (CC hH 1 (by decide) rfl) (hr) ?_
    refine g_icmp_ge (tgt := 72) hX (dk DX0_firstRowNotSo 6 rfl) (by decide) (fun hc1 => ?_) (fun hc1 => ?_)
    · refine g_bipush (v := -5) hX (dk DX0_firstRowNotSo 38 rfl) (by decide) ?_
      refine g_ireturn hX (dk DX0_firstRowNotSo 39 rfl) rfl (rfl) (by decide) (by decide) ?_
      exact qI_of ⟨rfl, rfl⟩
    · obtain ⟨k, rfl⟩ := cl_go hk (by omega) hc1
      refine g_aload_0 hX (dk DX0_firstRowNotSo 7 rfl) ?_
      refine g_getRs (r := 1) hX (dk DX0_firstRowNotSo 8 rfl) KX0 fX0_34 (by decide) rfl (CLt hH (q := 13) (by decide)) (CC hH 13 (by decide) rfl) (CR hH 13 0 1 (by decide)) ?_
      refine g_getRs (r := 5) hX (dk DX0_firstRowNotSo 9 rfl) KX5 fX0_187 (by decide) rfl (CLt hH (q := 1) (by decide)) (CC hH 1 (by decide) rfl) (CR hH 1 10 5 (by decide)) ?_
      refine g_iload_1 hX (dk DX0_firstRowNotSo 10 rfl) ?_
      refine i_iaload hX (dk DX0_firstRowNotSo 11 rfl) (CLt hH (q := 5) (by decide)) (CS hH 5 (by decide) rfl) (⟨rfl, by omega, by decide⟩) ?_
      refine g_aload_0 hX (dk DX0_firstRowNotSo 12 rfl) ?_
      refine g_getRs (r := 1) hX (dk DX0_firstRowNotSo 13 rfl) KX0 fX0_34 (by decide) rfl (CLt hH (q := 13) (by decide)) (CC hH 13 (by decide) rfl) (CR hH 13 0 1 (by decide)) ?_
      refine g_getI hX (dk DX0_firstRowNotSo 14 rfl) KX5 fX0_57 (by decide) rfl (CLt hH (q := 1) (by decide)) (CC hH 1 (by decide) rfl) ?_
      refine g_isub hX (dk DX0_firstRowNotSo 15 rfl) ?_
      refine g_istore_2 hX (dk DX0_firstRowNotSo 16 rfl) (by decide) rfl ?_
      refine g_iload_2 hX (dk DX0_firstRowNotSo 17 rfl) ?_
      refine g_if_lt (tgt := 64) hX (dk DX0_firstRowNotSo 18 rfl) (by decide) (fun hc2 => ?_) (fun hc2 => ?_)
      · refine g_iload_1 hX (dk DX0_firstRowNotSo 34 rfl) ?_
        refine g_ireturn hX (dk DX0_firstRowNotSo 35 rfl) rfl (rfl) (by decide) (by decide) ?_
        exact qI_of ⟨rfl, rfl⟩
      · have h0 := hc2
        refine g_iload_2 hX (dk DX0_firstRowNotSo 19 rfl) ?_
        refine g_aload_0 hX (dk DX0_firstRowNotSo 20 rfl) ?_
        refine g_getIv hX (dk DX0_firstRowNotSo 21 rfl) KX0 fX0_47 (by decide) rfl (CLt hH (q := 13) (by decide)) (CC hH 13 (by decide) rfl) (hsp) ?_
        refine g_icmp_ge (tgt := 64) hX (dk DX0_firstRowNotSo 22 rfl) (by decide) (fun hc3 => ?_) (fun hc3 => ?_)
        · refine g_iload_1 hX (dk DX0_firstRowNotSo 34 rfl) ?_
          refine g_ireturn hX (dk DX0_firstRowNotSo 35 rfl) rfl (rfl) (by decide) (by decide) ?_
          exact qI_of ⟨rfl, rfl⟩
        · have h1 := hc3
          refine g_aload_0 hX (dk DX0_firstRowNotSo 23 rfl) ?_
          refine g_getRs (r := 27) hX (dk DX0_firstRowNotSo 24 rfl) KX0 fX0_25 (by decide) rfl (CLt hH (q := 13) (by decide)) (CC hH 13 (by decide) rfl) (CR hH 13 5 27 (by decide)) ?_
          refine g_iload_2 hX (dk DX0_firstRowNotSo 25 rfl) ?_
          refine i_iaload hX (dk DX0_firstRowNotSo 26 rfl) (CLt hH (q := 27) (by decide)) (CS hH 27 (by decide) rfl) (on_ix h0 h1 hm) ?_
          refine g_aload_0 hX (dk DX0_firstRowNotSo 27 rfl) ?_
          refine g_getRs (r := 1) hX (dk DX0_firstRowNotSo 28 rfl) KX0 fX0_34 (by decide) rfl (CLt hH (q := 13) (by decide)) (CC hH 13 (by decide) rfl) (CR hH 13 0 1 (by decide)) ?_
          refine g_getRs (r := 6) hX (dk DX0_firstRowNotSo 29 rfl) KX5 fX0_190 (by decide) rfl (CLt hH (q := 1) (by decide)) (CC hH 1 (by decide) rfl) (CR hH 1 11 6 (by decide)) ?_
          refine g_iload_1 hX (dk DX0_firstRowNotSo 30 rfl) ?_
          refine i_iaload hX (dk DX0_firstRowNotSo 31 rfl) (CLt hH (q := 6) (by decide)) (CS hH 6 (by decide) rfl) (⟨rfl, by omega, by decide⟩) ?_
          refine g_c2I hX sX0_firstRowNotSo_58 (by decide) (Nat.le_of_ble_eq_true rfl) rcN (by decide) (by decide) (c_X11_bit hG) ?_
          refine g_if_ne (tgt := 66) hX (dk DX0_firstRowNotSo 33 rfl) (by decide) (fun hc4 => ?_) (fun hc4 => ?_)
          · refine g_iinc_1 hX (dk DX0_firstRowNotSo 36 rfl) (nI_1 d) (by decide) rfl ?_
            refine g_goto (tgt := 2) hX (dk DX0_firstRowNotSo 37 rfl) (by decide) ?_
            exact g_fgt (ih k (by omega) (d + 1) (by omega)) ⟨rfl, rfl, trivial⟩
          · refine g_iload_1 hX (dk DX0_firstRowNotSo 34 rfl) ?_
            refine g_ireturn hX (dk DX0_firstRowNotSo 35 rfl) rfl (rfl) (by decide) (by decide) ?_
            exact qI_of ⟨rfl, rfl⟩
  refine g_iconst (v := 0) hX (dk DX0_firstRowNotSo 0 rfl) (by decide) ?_
  refine g_istore_1 hX (dk DX0_firstRowNotSo 1 rfl) (by decide) rfl ?_
  obtain ⟨r, hr12, hr⟩ := hW.2.2.2.2.2
  exact g_fgt (loop2 r hr12 hr r 0 (Nat.zero_add _)) ⟨rfl, rfl, trivial⟩

set_option maxRecDepth 8000 in
set_option maxHeartbeats 4000000 in
theorem w_X0_saidOf {G : Gt} (hG : Gok G) {I : It} {h : Ht}  (hW : WX I h) {q : Nat} {d : Nat} (hd : d < 10) (hq : q < hn h) (h73 : 73 ≤ q) (hdc : isDC (hs h q).1) (hi : I q 0 = nI d) : Con G (7) 0 0 mX0_saidOf [.ref 13, .ref q] I h (qI (fun _ I2 h2 => Sc I I2 ∧ h2 = h)) := by
  refine con_intro (own := RX0) (lo0 := [some (.ref 13), some (.ref q)]) hG rfl pl_X0 (Nat.le_of_ble_eq_true rfl) rfl (fun X hX => ?_)
  have hH := hW.1
  have hc10 := hW.2.1.2
  refine g_aload_0 hX (dk DX0_saidOf 0 rfl) ?_
  refine g_aload_1 hX (dk DX0_saidOf 1 rfl) ?_
  refine g_c2v hX sX0_saidOf_2 (by decide) (Nat.le_of_ble_eq_true rfl) (rc0 rfl (CLt hH (by decide)) (CC hH 13 (by decide) rfl)) (by decide) (by decide) (w_X0_hearOf hG hW hd hq h73 hdc hi) ?_
  rintro J _ ⟨hS, -, rfl⟩
  refine g_aload_1 hX (dk DX0_saidOf 3 rfl) ?_
  refine g_aload_0 hX (dk DX0_saidOf 4 rfl) ?_
  refine g_getRs (r := 16) hX (dk DX0_saidOf 5 rfl) KX0 fX0_22 (by decide) rfl (CLt hH (q := 13) (by decide)) (CC hH 13 (by decide) rfl) (CR hH 13 4 16 (by decide)) ?_
  refine g_aload_1 hX (dk DX0_saidOf 6 rfl) ?_
  refine g_getD (v := (nI d)) hX (dk DX0_saidOf 7 rfl) fX0_93 (by decide) hq hdc ((by rw [hS q (by omega)]; exact hi)) ?_
  refine i_aaload (i0 := 6) hX (dk DX0_saidOf 8 rfl) (CLt hH (q := 16) (by decide)) (CS hH 16 (by decide) rfl) (by decide) rfl rfl (⟨rfl, hd, by decide⟩) (SR hH hd) ?_
  refine g_aload_0 hX (dk DX0_saidOf 9 rfl) ?_
  refine g_getRs (r := 1) hX (dk DX0_saidOf 10 rfl) KX0 fX0_34 (by decide) rfl (CLt hH (q := 13) (by decide)) (CC hH 13 (by decide) rfl) (CR hH 13 0 1 (by decide)) ?_
  refine g_getRs (r := 4) hX (dk DX0_saidOf 11 rfl) KX5 fX0_101 (by decide) rfl (CLt hH (q := 1) (by decide)) (CC hH 1 (by decide) rfl) (CR hH 1 5 4 (by decide)) ?_
  refine g_c3I hX (sD_X0_saidOf_22 _ hdc) (by decide) (Nat.le_of_ble_eq_true rfl) (rc0 rfl hq rfl) (by decide) (by decide) (cD_saidOver hG hq hdc (SL hH hd) (SA hH hd) (CLt hH (q := 4) (by decide)) (CS hH 4 (by decide) rfl)) ?_
  refine g_ireturn hX (dk DX0_saidOf 13 rfl) rfl (rfl) (by decide) (by decide) ?_
  exact qI_of ⟨hS, rfl⟩
end
section
set_option maxRecDepth 8000 in
set_option maxHeartbeats 4000000 in
theorem w_X0_bestSplit {G : Gt} (hG : Gok G) {I : It} {h : Ht}  (hH : HX h) {hh dd : Nat} {K : It → Prop} (hh9 : hh ≤ 9) (hdd : dd + 1 ≤ 9) (hKs : ∀ J y x, K J → K (upI J 28 y x)) (hKc : ∀ J, K J → K (cpI J 28 29 0 0 4)) (hco : ∀ J, K J → Con G dd 0 0 mX0_costHanded [.ref 13, .ref 28] J h (qI fun _ I2 h2 => K I2 ∧ h2 = h)) (hK0 : K I) : Con G (9) 0 0 mX0_bestSplit [.ref 13, .int (nI hh)] I h (qI (fun _ I2 h2 => K I2 ∧ h2 = h)) := by
  refine con_intro (own := RX0) (lo0 := [some (.ref 13), some (.int (nI hh)), none, none, none, none, none]) hG rfl pl_X0 (Nat.le_of_ble_eq_true rfl) rfl (fun X hX => ?_)
  have loop24 : ∀ a b, a ≤ hh → a + b ≤ hh → (∀ (J : It) (z : Int32), K J → GG G 9 0 0 X (qI (fun _ I2 h2 => K I2 ∧ h2 = h)) 92 [some (.ref 13), some (.int (nI hh)), some (.int z), some (.int (nI a)), some (.int (nI b)), none, none] [] J h 0 0) → ∀ (k c : Nat) (z : Int32) (J : It), c + k = hh - a - b + 1 → K J → GG G (9) 0 0 X (qI (fun _ I2 h2 => K I2 ∧ h2 = h)) 24 [some (.ref 13), some (.int (nI hh)), some (.int z), some (.int (nI a)), some (.int (nI b)), some (.int (nI c)), none] [] (J) (h) 0 0 := by
    intro a b ha hb kk k
    induction k using Nat.strongRecOn with | _ k ih => ?_
    intro c z J hk hK
    refine g_iload_5 hX (dk DX0_bestSplit_0 16 rfl) ?_
    refine g_iload_1 hX (dk DX0_bestSplit_0 17 rfl) ?_
    refine g_iload_3 hX (dk DX0_bestSplit_0 18 rfl) ?_
    refine g_isub hX (dk DX0_bestSplit_0 19 rfl) ?_
    refine g_nmI (nI (hh - a)) (pk_sub (by omega)) ?_
    refine g_iload_4 hX (dk DX0_bestSplit_0 20 rfl) ?_
    refine g_isub hX (dk DX0_bestSplit_0 21 rfl) ?_
    refine g_nmI (nI (hh - a - b)) (pk_sub (by omega)) ?_
    refine g_icmp_gt (tgt := 92) hX (dk DX0_bestSplit_0 22 rfl) (by decide) (fun hc1 => ?_) (fun hc1 => ?_)
    · exact g_fgt (kk J z hK) ⟨rfl, rfl, rfl, rfl, rfl, trivial⟩
    · obtain ⟨k, rfl⟩ := bs_go hk (by omega) hc1
      refine g_aload_0 hX (dk DX0_bestSplit_0 23 rfl) ?_
      refine g_iload_3 hX (dk DX0_bestSplit_0 24 rfl) ?_
      refine g_iload_4 hX (dk DX0_bestSplit_0 25 rfl) ?_
      refine g_iload_5 hX (dk DX0_bestSplit_0 26 rfl) ?_
      refine g_iload_1 hX (dk DX0_bestSplit_0 27 rfl) ?_
      refine g_iload_3 hX (dk DX0_bestSplit_0 28 rfl) ?_
      refine g_isub hX (dk DX0_bestSplit_0 29 rfl) ?_
      refine g_nmI (nI (hh - a)) (pk_sub (by omega)) ?_
      refine g_iload_4 hX (dk DX0_bestSplit_0 30 rfl) ?_
      refine g_isub hX (dk DX0_bestSplit_0 31 rfl) ?_
      refine g_nmI (nI (hh - a - b)) (pk_sub (by omega)) ?_
      refine g_iload_5 hX (dk DX0_bestSplit_0 32 rfl) ?_
      refine g_isub hX (dk DX0_bestSplit_0 33 rfl) ?_
      refine g_nmI (nI (hh - a - b - c)) (pk_sub (by omega)) ?_
      refine g_c5V hX sX0_bestSplit_50 (by decide) (Nat.le_of_ble_eq_true rfl) (rc0 rfl (CLt hH (by decide)) (CC hH 13 (by decide) rfl)) (by decide) (by decide) (c_X0_share hG hH) ?_
      refine g_aload_0 hX (dk DX0_bestSplit_0 35 rfl) ?_
      refine g_aload_0 hX (dk DX0_bestSplit_0 36 rfl) ?_
      refine g_getRs (r := 28) hX (dk DX0_bestSplit_0 37 rfl) KX0 fX0_28 (by decide) rfl (CLt hH (q := 13) (by decide)) (CC hH 13 (by decide) rfl) (CR hH 13 14 28 (by decide)) ?_
      refine g_c2q hX sX0_bestSplit_58 (hdd) (Nat.le_of_ble_eq_true rfl) (rc0 rfl (CLt hH (by decide)) (CC hH 13 (by decide) rfl)) (by decide) (by decide) (hco _ (hKs _ _ _ (hKs _ _ _ (hKs _ _ _ (hKs _ _ _ hK))))) ?_
      rintro _ J2 _ ⟨hK2, rfl⟩
      refine g_istore_6 hX (dk DX0_bestSplit_0 39 rfl) (by decide) rfl ?_
      refine g_iload_6 hX (dk DX0_bestSplit_0 40 rfl) ?_
      refine g_iload_2 hX (dk DX0_bestSplit_0 41 rfl) ?_
      refine g_icmp_ge (tgt := 86) hX (dk DX0_bestSplit_0 42 rfl) (by decide) (fun hc2 => ?_) (fun hc2 => ?_)
      · refine g_iinc_5 hX (dk DX0_bestSplit_0 53 rfl) (nI_1 c) (by decide) rfl ?_
        refine g_goto (tgt := 24) hX (dk DX0_bestSplit_0 54 rfl) (by decide) ?_
        first
        | exact g_fgt (ih k (by omega) (c + 1) _ _ (by omega) (hKc _ hK2)) ⟨rfl, rfl, rfl, rfl, rfl, rfl, trivial⟩
        | exact g_fgt (ih k (by omega) (c + 1) _ _ (by omega) hK2) ⟨rfl, rfl, rfl, rfl, rfl, rfl, trivial⟩
      · refine g_iload_6 hX (dk DX0_bestSplit_0 43 rfl) ?_
        refine g_istore_2 hX (dk DX0_bestSplit_0 44 rfl) (by decide) rfl ?_
        refine g_aload_0 hX (dk DX0_bestSplit_0 45 rfl) ?_
        refine g_getRs (r := 28) hX (dk DX0_bestSplit_0 46 rfl) KX0 fX0_28 (by decide) rfl (CLt hH (q := 13) (by decide)) (CC hH 13 (by decide) rfl) (CR hH 13 14 28 (by decide)) ?_
        refine g_iconst (v := 0) hX (dk DX0_bestSplit_0 47 rfl) (by decide) ?_
        refine g_aload_0 hX (dk DX0_bestSplit_0 48 rfl) ?_
        refine g_getRs (r := 29) hX (dk DX0_bestSplit_0 49 rfl) KX0 fX0_31 (by decide) rfl (CLt hH (q := 13) (by decide)) (CC hH 13 (by decide) rfl) (CR hH 13 15 29 (by decide)) ?_
        refine g_iconst (v := 0) hX (dk DX0_bestSplit_0 50 rfl) (by decide) ?_
        refine g_iconst (v := 4) hX (dk DX0_bestSplit_0 51 rfl) (by decide) ?_
        refine g_copyI (sp := 0) (dp := 0) (m := 4) hX (dk DX0_bestSplit_0 52 rfl) (tg_4 2 rfl rfl) (tg_4 4 rfl rfl) (tg_4 3 rfl rfl) (tg_1 17 rfl rfl) (CLt hH (q := 28) (by decide)) (CS hH 28 (by decide) rfl) (CLt hH (q := 29) (by decide)) (CS hH 29 (by decide) rfl) (⟨rfl, rfl, rfl⟩) (⟨by decide, by decide⟩) (⟨by decide, by decide⟩) (by decide) (by decide) ?_
        refine g_iinc_5 hX (dk DX0_bestSplit_0 53 rfl) (nI_1 c) (by decide) rfl ?_
        refine g_goto (tgt := 24) hX (dk DX0_bestSplit_0 54 rfl) (by decide) ?_
        first
        | exact g_fgt (ih k (by omega) (c + 1) _ _ (by omega) (hKc _ hK2)) ⟨rfl, rfl, rfl, rfl, rfl, rfl, trivial⟩
        | exact g_fgt (ih k (by omega) (c + 1) _ _ (by omega) hK2) ⟨rfl, rfl, rfl, rfl, rfl, rfl, trivial⟩
  have loop13 : ∀ a, a ≤ hh → (∀ (J : It) (z : Int32), K J → GG G 9 0 0 X (qI (fun _ I2 h2 => K I2 ∧ h2 = h)) 98 [some (.ref 13), some (.int (nI hh)), some (.int z), some (.int (nI a)), none, none, none] [] J h 0 0) → ∀ (k b : Nat) (z : Int32) (J : It), b + k = hh - a + 1 → K J → GG G (9) 0 0 X (qI (fun _ I2 h2 => K I2 ∧ h2 = h)) 13 [some (.ref 13), some (.int (nI hh)), some (.int z), some (.int (nI a)), some (.int (nI b)), none, none] [] (J) (h) 0 0 := by
    intro a ha kk k
    induction k using Nat.strongRecOn with | _ k ih => ?_
    intro b z J hk hK
    refine g_iload_4 hX (dk DX0_bestSplit_0 9 rfl) ?_
    refine g_iload_1 hX (dk DX0_bestSplit_0 10 rfl) ?_
    refine g_iload_3 hX (dk DX0_bestSplit_0 11 rfl) ?_
    refine g_isub hX (dk DX0_bestSplit_0 12 rfl) ?_
    refine g_nmI (nI (hh - a)) (pk_sub (by omega)) ?_
    refine g_icmp_gt (tgt := 98) hX (dk DX0_bestSplit_0 13 rfl) (by decide) (fun hc1 => ?_) (fun hc1 => ?_)
    · exact g_fgt (kk J z hK) ⟨rfl, rfl, rfl, rfl, trivial⟩
    · obtain ⟨k, rfl⟩ := bs_go hk (by omega) hc1
      refine g_iconst (v := 0) hX (dk DX0_bestSplit_0 14 rfl) (by decide) ?_
      refine g_istore_5 hX (dk DX0_bestSplit_0 15 rfl) (by decide) rfl ?_
      refine loop24 a b ha (by omega) (fun J z hK => ?_) (hh - a - b + 1) 0 z J (Nat.zero_add _) hK
      · skip
        refine g_iinc_4 hX (dk DX0_bestSplit_0 55 rfl) (nI_1 b) (by decide) rfl ?_
        refine g_goto (tgt := 13) hX (dk DX0_bestSplit_0 56 rfl) (by decide) ?_
        exact ih k (by omega) (b + 1) _ _ (by omega) hK
  have loop5 : ∀ (k a : Nat) (z : Int32) (J : It), a + k = hh + 1 → K J → GG G (9) 0 0 X (qI (fun _ I2 h2 => K I2 ∧ h2 = h)) 5 [some (.ref 13), some (.int (nI hh)), some (.int z), some (.int (nI a)), none, none, none] [] (J) (h) 0 0 := by
    intro k
    induction k using Nat.strongRecOn with | _ k ih => ?_
    intro a z J hk hK
    refine g_iload_3 hX (dk DX0_bestSplit_0 4 rfl) ?_
    refine g_iload_1 hX (dk DX0_bestSplit_0 5 rfl) ?_
    refine g_icmp_gt (tgt := 104) hX (dk DX0_bestSplit_0 6 rfl) (by decide) (fun hc1 => ?_) (fun hc1 => ?_)
    · refine g_iload_2 hX (dk DX0_bestSplit_0 59 rfl) ?_
      refine g_ireturn hX (dk DX0_bestSplit_1 0 rfl) rfl (rfl) (by decide) (by decide) ?_
      exact qI_of ⟨hK, rfl⟩
    · obtain ⟨k, rfl⟩ := bs_go hk (by omega) hc1
      refine g_iconst (v := 0) hX (dk DX0_bestSplit_0 7 rfl) (by decide) ?_
      refine g_istore_4 hX (dk DX0_bestSplit_0 8 rfl) (by decide) rfl ?_
      refine loop13 a (by omega) (fun J z hK => ?_) (hh - a + 1) 0 z J (Nat.zero_add _) hK
      · skip
        refine g_iinc_3 hX (dk DX0_bestSplit_0 57 rfl) (nI_1 a) (by decide) rfl ?_
        refine g_goto (tgt := 5) hX (dk DX0_bestSplit_0 58 rfl) (by decide) ?_
        exact ih k (by omega) (a + 1) _ _ (by omega) hK
  refine g_ldc (v := 2147483647) hX (dk DX0_bestSplit_0 0 rfl) (tg_3 231 rfl rfl) ?_
  refine g_istore_2 hX (dk DX0_bestSplit_0 1 rfl) (by decide) rfl ?_
  refine g_iconst (v := 0) hX (dk DX0_bestSplit_0 2 rfl) (by decide) ?_
  refine g_istore_3 hX (dk DX0_bestSplit_0 3 rfl) (by decide) rfl ?_
  exact loop5 (hh + 1) 0 _ I (Nat.zero_add _) hK0
end
section
/-! a post is read: post p of the class, in its own terms -/
def hereC (p : Nat) (J : It) : Int32 := if J (43 + 5 * p) 11 ≠ 0 then -1 else if J (43 + 5 * p) 10 < 0 then -1 else if J (43 + 5 * p) 9 ≤ J (43 + 5 * p) 10 then -1 else if J (43 + 5 * p) 10 < 100 then J 31 (tN (J (43 + 5 * p) 10)) else -1
def incW (p : Nat) (J : It) : It := upI J (43 + 5 * p) 10 (J (43 + 5 * p) 10 + 1)
def fauW (p : Nat) (J : It) : It := upI J (43 + 5 * p) 11 1
def tkW (p : Nat) (s : Int32) (J : It) : It := if hereC p J = s then incW p J else J
def tiW (p : Nat) (b : Int32) (J : It) : It := if b = 0 then fauW p J else if J (43 + 5 * p) 11 ≠ 0 then fauW p J else incW p J
def ndW (p : Nat) (s : Int32) (J : It) : It := tiW p (bI (hereC p J = s)) J
def kp1 (p : Nat) (t : Int32) (J : It) : It := upI J (47 + 5 * p) (tN (J (43 + 5 * p) 7)) t
def kpW (p : Nat) (t : Int32) (J : It) : It := if J (43 + 5 * p) 11 ≠ 0 then J else if 100 ≤ J (43 + 5 * p) 7 then J else upI (kp1 p t J) (43 + 5 * p) 7 (kp1 p t J (43 + 5 * p) 7 + 1)
def nuV (p : Nat) (J : It) : Int32 := if hereC p J < 48 then 0 else if 57 < hereC p J then 0 else if hereC p (incW p J) < 48 then 0 * 10 + hereC p J - 48 else if 57 < hereC p (incW p J) then 0 * 10 + hereC p J - 48 else (0 * 10 + hereC p J - 48) * 10 + hereC p (incW p J) - 48
def nuW (p : Nat) (J : It) : It := if hereC p J < 48 then fauW p J else if 57 < hereC p J then fauW p J else if hereC p (incW p J) < 48 then incW p J else if 57 < hereC p (incW p J) then incW p J else incW p (incW p J)
abbrev isL (x : Int32) : Prop := x = 105 ∨ x = 107 ∨ x = 114 ∨ x = 118 ∨ x = 99 ∨ x = 121 ∨ x = 119
abbrev isS (x : Int32) : Prop := x = 60 ∨ x = 61 ∨ x = 62
def ts1 (p : Nat) (J : It) : It := tiW p (bI (isL (hereC p J))) J
def ts2 (p : Nat) (J : It) : It := tiW p (bI (isS (hereC p (ts1 p J)))) (ts1 p J)
def tsW (p : Nat) (J : It) : It := kpW p (hereC p J ||| hereC p (ts1 p J) <<< (8 &&& 31) ||| nuV p (ts2 p J) <<< (16 &&& 31)) (nuW p (ts2 p J))
def anR (p : Nat) (W : It → It) : Nat → It → It := fun f => match f with
  | 0 => fun J => J
  | f + 1 => fun J => if hereC p J = 38 then anR p W f (kpW p 38 (W (tkW p 38 J))) else tkW p 38 J
theorem anR_s (p : Nat) (W : It → It) (f : Nat) (J : It) : anR p W (f + 1) J = if hereC p J = 38 then anR p W f (kpW p 38 (W (tkW p 38 J))) else tkW p 38 J := rfl
def eiR (p : Nat) (W : It → It) : Nat → Nat → It → It := fun f => match f with
  | 0 => fun _ J => J
  | f + 1 => fun k J => if k = 0 then eiR p W f 1 (anR p W 100 (W J)) else if hereC p J = 124 then eiR p W f (k + 1) (kpW p 124 (anR p W 100 (W (tkW p 124 J)))) else tkW p 124 J
theorem eiR_s (p : Nat) (W : It → It) (f k : Nat) (J : It) : eiR p W (f + 1) k J = if k = 0 then eiR p W f 1 (anR p W 100 (W J)) else if hereC p J = 124 then eiR p W f (k + 1) (kpW p 124 (anR p W 100 (W (tkW p 124 J)))) else tkW p 124 J := rfl
def eiF (p : Nat) (W : It → It) (J : It) : It := eiR p W 100 0 J
def paF (p : Nat) : Nat → It → It := fun n => match n with
  | 0 => tsW p
  | n + 1 => fun J => if hereC p J = 33 then kpW p 33 (paF p n (tkW p 33 J)) else if hereC p (tkW p 33 J) = 40 then ndW p 41 (eiF p (paF p n) (tkW p 40 (tkW p 33 J))) else tsW p (tkW p 40 (tkW p 33 J))
theorem paF_s (p n : Nat) (J : It) : paF p (n + 1) J = if hereC p J = 33 then kpW p 33 (paF p n (tkW p 33 J)) else if hereC p (tkW p 33 J) = 40 then ndW p 41 (eiF p (paF p n) (tkW p 40 (tkW p 33 J))) else tsW p (tkW p 40 (tkW p 33 J)) := rfl
def wdA (p : Nat) (J : It) : It := ndW p 99 (tkW p 102 (tkW p 115 J))
def wdV (p : Nat) (J : It) : Int32 := if hereC p J = 115 then 115 else if hereC p (tkW p 115 J) = 102 then 102 else if hereC p (wdA p J) = 111 then 99 else 108
def wdW (p : Nat) (J : It) : It := if hereC p J = 115 then ndW p 121 (ndW p 97 (tkW p 115 J)) else if hereC p (tkW p 115 J) = 102 then ndW p 101 (ndW p 100 (ndW p 97 (tkW p 102 (tkW p 115 J)))) else if hereC p (wdA p J) = 111 then ndW p 116 (ndW p 115 (tkW p 111 (wdA p J))) else ndW p 108 (ndW p 108 (ndW p 97 (tkW p 111 (wdA p J))))
def cl1 (p : Nat) (w : Int32) (J : It) : It := upI J (44 + 5 * p) (tN (J (43 + 5 * p) 2)) w
def cl2 (p : Nat) (w n : Int32) (J : It) : It := upI (cl1 p w J) (45 + 5 * p) (tN (J (43 + 5 * p) 2)) n
def cl3 (p : Nat) (w n : Int32) (J : It) : It := upI (cl2 p w n J) (46 + 5 * p) (tN (J (43 + 5 * p) 2)) (cl2 p w n J (43 + 5 * p) 7)
def clW (p : Nat) (w n : Int32) (J : It) : It := if J (43 + 5 * p) 11 ≠ 0 then J else if 10 ≤ J (43 + 5 * p) 2 then J else upI (cl3 p w n J) (43 + 5 * p) 2 (cl3 p w n J (43 + 5 * p) 2 + 1)
theorem cl_P (p : Nat) (w n : Int32) (J : It) : cl1 p w J (43 + 5 * p) = J (43 + 5 * p) ∧ cl2 p w n J (43 + 5 * p) = J (43 + 5 * p) ∧ cl3 p w n J (43 + 5 * p) = J (43 + 5 * p) := by
  have h1 : cl1 p w J (43 + 5 * p) = J (43 + 5 * p) := upI_off (by omega)
  have h2 : cl2 p w n J (43 + 5 * p) = J (43 + 5 * p) := (upI_off (by omega)).trans h1
  exact ⟨h1, h2, (upI_off (by omega)).trans h2⟩
def rc1 (p : Nat) (J : It) : It := nuW p (ndW p 32 (wdW p J))
def rcN_ (p : Nat) (J : It) : Int32 := nuV p (ndW p 32 (wdW p J))
def rc2 (p : Nat) (J : It) : It := if wdV p J = 115 ∨ wdV p J = 99 then eiF p (paF p 4) (ndW p 32 (rc1 p J)) else if wdV p J = 108 then upI (rc1 p J) (43 + 5 * p) 0 (rcN_ p J) else upI (rc1 p J) (43 + 5 * p) 1 (rcN_ p J)
def rcW (p : Nat) (J : It) : It := clW p (wdV p J) (rcN_ p J) (rc2 p J)
def rfR (p : Nat) : Nat → Nat → It → It := fun f => match f with
  | 0 => fun _ J => J
  | f + 1 => fun k J => if k = 0 then rfR p f 1 (rcW p J) else if hereC p J = 59 then rfR p f (k + 1) (rcW p (tkW p 59 J)) else tkW p 59 J
theorem rfR_s (p f k : Nat) (J : It) : rfR p (f + 1) k J = if k = 0 then rfR p f 1 (rcW p J) else if hereC p J = 59 then rfR p f (k + 1) (rcW p (tkW p 59 J)) else tkW p 59 J := rfl
def rf0 (p : Nat) (s : Int32) (J : It) : It := upI (upI (upI (upI (upI (upI (upI J (43 + 5 * p) 9 (if (100 : Int32) < s then 100 else s)) (43 + 5 * p) 10 0) (43 + 5 * p) 11 0) (43 + 5 * p) 2 0) (43 + 5 * p) 7 0) (43 + 5 * p) 0 7) (43 + 5 * p) 1 1
def rfW (p : Nat) (s : Int32) (J : It) : It := rfR p 10 0 (rf0 p s J)
def rfV (p : Nat) (J : It) : Int32 := if J (43 + 5 * p) 11 ≠ 0 then J (43 + 5 * p) 10 else if J (43 + 5 * p) 10 = J (43 + 5 * p) 9 then -1 else J (43 + 5 * p) 10
/-- what stands while post p is read, from world I on -/
def KP (p : Nat) (I J : It) : Prop := (∀ a, (a < 43 + 5 * p ∨ 47 + 5 * p < a) → J a = I a) ∧ (∃ c, c ≤ 100 ∧ J (43 + 5 * p) 7 = nI c) ∧ (∃ c, c ≤ 10 ∧ J (43 + 5 * p) 2 = nI c) ∧ ∀ k, k < 10 → ∃ x, x ≤ 100 ∧ J (46 + 5 * p) k = nI x
theorem KP.u {p : Nat} {I J : It} {j : Nat} {x : Int32} (h : KP p I J) (hj : j ≠ 7 ∧ j ≠ 2) : KP p I (upI J (43 + 5 * p) j x) := by
  refine ⟨fun a ha => (upI_off (by omega)).trans (h.1 a ha), ?_, ?_, fun k hk => ?_⟩
  · rw [upn (by omega)]; exact h.2.1
  · rw [upn (by omega)]; exact h.2.2.1
  · rw [upI_off (by omega)]; exact h.2.2.2 k hk
theorem KP.inc {p : Nat} {I J : It} (h : KP p I J) : KP p I (incW p J) := h.u (by decide)
theorem KP.fau {p : Nat} {I J : It} (h : KP p I J) : KP p I (fauW p J) := h.u (by decide)
theorem KP.tk {p : Nat} {I J : It} {s : Int32} (h : KP p I J) : KP p I (tkW p s J) := by unfold tkW; split; exact h.inc; exact h
theorem KP.ti {p : Nat} {I J : It} {b : Int32} (h : KP p I J) : KP p I (tiW p b J) := by unfold tiW; split; exact h.fau; split; exact h.fau; exact h.inc
theorem KP.nd {p : Nat} {I J : It} {s : Int32} (h : KP p I J) : KP p I (ndW p s J) := h.ti
theorem lt_nI {c b : Nat} (hc : c < 2 ^ 31) (hb : b < 2 ^ 31) (h : nI c < nI b) : c < b := by
  rcases Nat.lt_or_ge c b with z | z
  · exact z
  · exact absurd h (Int32.not_lt.mpr (nI_le z hc))
theorem KP.kp {p : Nat} {I J : It} {t : Int32} (h : KP p I J) : KP p I (kpW p t J) := by
  unfold kpW
  split
  · exact h
  · split
    · exact h
    · next hlt =>
      obtain ⟨c, hc, e⟩ := h.2.1
      have e2 : kp1 p t J (43 + 5 * p) = J (43 + 5 * p) := upI_off (by omega)
      rw [e2, e]
      rw [e] at hlt
      have hc2 := lt_nI (b := 100) (by omega) (by decide) (Int32.not_le.mp hlt)
      refine ⟨fun a ha => by rw [upI_off (by omega)]; exact (upI_off (by omega)).trans (h.1 a ha), ⟨c + 1, by omega, by rw [up0]; exact nI_1 c⟩, ?_, fun k hk => ?_⟩
      · rw [upn (by omega), e2]; exact h.2.2.1
      · rw [upI_off (by omega), show kp1 p t J (46 + 5 * p) = J (46 + 5 * p) from upI_off (by omega)]; exact h.2.2.2 k hk
theorem KP.nu {p : Nat} {I J : It} (h : KP p I J) : KP p I (nuW p J) := by
  unfold nuW
  split; exact h.fau
  split; exact h.fau
  split; exact h.inc
  split; exact h.inc
  exact h.inc.inc
theorem KP.ts {p : Nat} {I J : It} (h : KP p I J) : KP p I (tsW p J) := KP.kp (KP.nu (KP.ti (KP.ti h)))
theorem KP.an {p : Nat} {W : It → It} (hW : ∀ I J, KP p I J → KP p I (W J)) (f : Nat) : ∀ {I J : It}, KP p I J → KP p I (anR p W f J) := by
  induction f with
  | zero => intro I J h; exact h
  | succ f ih =>
    intro I J h
    rw [anR_s]
    split
    · exact ih (hW _ _ h.tk).kp
    · exact h.tk
theorem KP.eiR {p : Nat} {W : It → It} (hW : ∀ I J, KP p I J → KP p I (W J)) (f : Nat) : ∀ {k : Nat} {I J : It}, KP p I J → KP p I (eiR p W f k J) := by
  induction f with
  | zero => intro k I J h; exact h
  | succ f ih =>
    intro k I J h
    rw [eiR_s]
    split
    · exact ih (KP.an hW 100 (hW _ _ h))
    · split
      · exact ih (KP.kp (KP.an hW 100 (hW _ _ h.tk)))
      · exact h.tk
theorem KP.ei {p : Nat} {W : It → It} (hW : ∀ I J, KP p I J → KP p I (W J)) {I J : It} (h : KP p I J) : KP p I (eiF p W J) := KP.eiR hW 100 h
theorem KP.pa {p : Nat} (n : Nat) : ∀ {I J : It}, KP p I J → KP p I (paF p n J) := by
  induction n with
  | zero => intro I J h; exact h.ts
  | succ n ih =>
    intro I J h
    rw [paF_s]
    split
    · exact (ih h.tk).kp
    · split
      · exact (KP.ei (fun I J h => ih h) h.tk.tk).nd
      · exact h.tk.tk.ts
theorem KP.wd {p : Nat} {I J : It} (h : KP p I J) : KP p I (wdW p J) := by
  unfold wdW
  split; exact h.tk.nd.nd
  split; exact h.tk.tk.nd.nd.nd
  split; exact (KP.nd h.tk.tk).tk.nd.nd
  exact (KP.nd h.tk.tk).tk.nd.nd.nd
theorem KP.rcA {p : Nat} {I J : It} (h : KP p I J) : KP p I (rc1 p J) := h.wd.nd.nu
theorem KP.rcB {p : Nat} {I J : It} (h : KP p I J) : KP p I (rc2 p J) := by
  unfold rc2
  split; exact KP.ei (fun I J h => h.pa 4) h.rcA.nd
  split; exact h.rcA.u (by decide)
  exact h.rcA.u (by decide)
theorem KP.cl {p : Nat} {I J : It} {w n : Int32} (h : KP p I J) : KP p I (clW p w n J) := by
  obtain ⟨e1, e2, e3⟩ := cl_P p w n J
  unfold clW
  split
  · exact h
  · split
    · exact h
    · next hlt =>
      obtain ⟨c, hc, e⟩ := h.2.2.1
      obtain ⟨x, hx, e7⟩ := h.2.1
      rw [e3, e]
      rw [e] at hlt
      have hc2 := lt_nI (b := 10) (by omega) (by decide) (Int32.not_le.mp hlt)
      refine ⟨fun a ha => by rw [upI_off (by omega)]; exact (upI_off (by omega)).trans ((upI_off (by omega)).trans ((upI_off (by omega)).trans (h.1 a ha))), ?_, ⟨c + 1, by omega, by rw [up0]; exact nI_1 c⟩, fun k hk => ?_⟩
      · rw [upn (by omega), e3]; exact h.2.1
      · rw [upI_off (by omega)]
        show ∃ x, x ≤ 100 ∧ upI (cl2 p w n J) (46 + 5 * p) (tN (J (43 + 5 * p) 2)) (cl2 p w n J (43 + 5 * p) 7) (46 + 5 * p) k = nI x
        by_cases ek : k = tN (J (43 + 5 * p) 2)
        · rw [ek, up0, e2]; exact ⟨x, hx, e7⟩
        · rw [upn (fun z => ek z.2), show cl2 p w n J (46 + 5 * p) = J (46 + 5 * p) from (upI_off (by omega)).trans (upI_off (by omega))]; exact h.2.2.2 k hk
theorem KP.rc {p : Nat} {I J : It} (h : KP p I J) : KP p I (rcW p J) := h.rcB.cl
theorem KP.rf {p : Nat} (f : Nat) : ∀ {k : Nat} {I J : It}, KP p I J → KP p I (rfR p f k J) := by
  induction f with
  | zero => intro k I J h; exact h
  | succ f ih =>
    intro k I J h
    rw [rfR_s]
    split
    · exact ih h.rc
    · split
      · exact ih h.tk.rc
      · exact h.tk
theorem KP.rfZ {p : Nat} {s : Int32} {I J : It} (h1 : ∀ a, (a < 43 + 5 * p ∨ 47 + 5 * p < a) → J a = I a) (h2 : ∀ k, k < 10 → ∃ x, x ≤ 100 ∧ J (46 + 5 * p) k = nI x) : KP p I (rf0 p s J) := by
  unfold rf0
  refine KP.u (KP.u ⟨fun a ha => ?_, ?_, ?_, fun k hk => ?_⟩ (by decide)) (by decide)
  · rw [upI_off (by omega), upI_off (by omega), upI_off (by omega), upI_off (by omega), upI_off (by omega)]; exact h1 a ha
  · exact ⟨0, by decide, by rw [up0]; rfl⟩
  · exact ⟨0, by decide, by rw [upn (by omega), up0]; rfl⟩
  · rw [upI_off (by omega), upI_off (by omega), upI_off (by omega), upI_off (by omega), upI_off (by omega)]; exact h2 k hk
theorem here_ix {x : Int32} (h0 : ¬ x < 0) (h1 : x < 100) : idx x (tN x) 100 := by
  obtain ⟨j, hj, rfl⟩ := nI_of h0
  exact ⟨by rw [tN_nI hj], by rw [tN_nI hj]; exact lt_nI hj (by decide) h1, by decide⟩
theorem kp_ix {x : Int32} {b : Nat} (hb : b < 2 ^ 31) (h : ∃ c, c ≤ b ∧ x = nI c) (h1 : ¬ nI b ≤ x) : idx x (tN x) b := by
  obtain ⟨c, hc, rfl⟩ := h
  exact ⟨by rw [tN_nI (by omega)], by rw [tN_nI (by omega)]; exact lt_nI (by omega) hb (Int32.not_le.mp h1), hb⟩

set_option maxRecDepth 8000 in
set_option maxHeartbeats 4000000 in
theorem c_X3_here {G : Gt} (hG : Gok G) {I : It} {h : Ht}  (hH : HX h) {p : Nat} (hp : p < 6)  : Con G (1) 0 0 mX3_here [.ref (43 + 5 * p)] I h (rI (hereC p I) I h) := by
  refine con_intro (own := RX3) (lo0 := [some (.ref (43 + 5 * p))]) hG rfl pl_X3 (Nat.le_of_ble_eq_true rfl) rfl (fun X hX => ?_)
  refine g_aload_0 hX (dk DX3_here 0 rfl) ?_
  refine g_getI hX (dk DX3_here 1 rfl) KX3 fX3_41 (by decide) rfl (PL0 hH hp) (PSh hH hp) ?_
  refine g_if_ne (tgt := 37) hX (dk DX3_here 2 rfl) (by decide) (fun hc1 => ?_) (fun hc1 => ?_)
  · refine g_iconst (v := -1) hX (dk DX3_here 17 rfl) (by decide) ?_
    refine g_goto (tgt := 50) hX (dk DX3_here 18 rfl) (by decide) ?_
    refine g_ireturn hX (dk DX3_here 24 rfl) rfl (rfl) (by decide) (by decide) ?_
    exact rI_of (by unfold hereC; (try first | rw [if_pos hc1] | rw [if_neg hc1] | rw [if_neg (not_not_intro hc1)]); first | done | rfl) rfl rfl
  · refine g_aload_0 hX (dk DX3_here 3 rfl) ?_
    refine g_getI hX (dk DX3_here 4 rfl) KX3 fX3_38 (by decide) rfl (PL0 hH hp) (PSh hH hp) ?_
    refine g_if_lt (tgt := 37) hX (dk DX3_here 5 rfl) (by decide) (fun hc2 => ?_) (fun hc2 => ?_)
    · refine g_iconst (v := -1) hX (dk DX3_here 17 rfl) (by decide) ?_
      refine g_goto (tgt := 50) hX (dk DX3_here 18 rfl) (by decide) ?_
      refine g_ireturn hX (dk DX3_here 24 rfl) rfl (rfl) (by decide) (by decide) ?_
      exact rI_of (by unfold hereC; (try first | rw [if_pos hc1] | rw [if_neg hc1] | rw [if_neg (not_not_intro hc1)]); (try first | rw [if_pos hc2] | rw [if_neg hc2] | rw [if_neg (not_not_intro hc2)]); first | done | rfl) rfl rfl
    · refine g_aload_0 hX (dk DX3_here 6 rfl) ?_
      refine g_getI hX (dk DX3_here 7 rfl) KX3 fX3_38 (by decide) rfl (PL0 hH hp) (PSh hH hp) ?_
      refine g_aload_0 hX (dk DX3_here 8 rfl) ?_
      refine g_getI hX (dk DX3_here 9 rfl) KX3 fX3_34 (by decide) rfl (PL0 hH hp) (PSh hH hp) ?_
      refine g_icmp_ge (tgt := 37) hX (dk DX3_here 10 rfl) (by decide) (fun hc3 => ?_) (fun hc3 => ?_)
      · refine g_iconst (v := -1) hX (dk DX3_here 17 rfl) (by decide) ?_
        refine g_goto (tgt := 50) hX (dk DX3_here 18 rfl) (by decide) ?_
        refine g_ireturn hX (dk DX3_here 24 rfl) rfl (rfl) (by decide) (by decide) ?_
        exact rI_of (by unfold hereC; (try first | rw [if_pos hc1] | rw [if_neg hc1] | rw [if_neg (not_not_intro hc1)]); (try first | rw [if_pos hc2] | rw [if_neg hc2] | rw [if_neg (not_not_intro hc2)]); (try first | rw [if_pos hc3] | rw [if_neg hc3] | rw [if_neg (not_not_intro hc3)]); first | done | rfl) rfl rfl
      · refine g_aload_0 hX (dk DX3_here 11 rfl) ?_
        refine g_getI hX (dk DX3_here 12 rfl) KX3 fX3_38 (by decide) rfl (PL0 hH hp) (PSh hH hp) ?_
        refine g_aload_0 hX (dk DX3_here 13 rfl) ?_
        refine g_getRs (r := 31) hX (dk DX3_here 14 rfl) KX3 fX3_24 (by decide) rfl (PL0 hH hp) (PSh hH hp) (PR8 hH hp) ?_
        refine g_alen (v := 100) hX (dk DX3_here 15 rfl) (CLt hH (q := 31) (by decide)) (CS hH 31 (by decide) rfl) (by decide) (i0 := 2) rfl (by decide) ?_
        refine g_icmp_lt (tgt := 41) hX (dk DX3_here 16 rfl) (by decide) (fun hc4 => ?_) (fun hc4 => ?_)
        · refine g_aload_0 hX (dk DX3_here 19 rfl) ?_
          refine g_getRs (r := 31) hX (dk DX3_here 20 rfl) KX3 fX3_24 (by decide) rfl (PL0 hH hp) (PSh hH hp) (PR8 hH hp) ?_
          refine g_aload_0 hX (dk DX3_here 21 rfl) ?_
          refine g_getI hX (dk DX3_here 22 rfl) KX3 fX3_38 (by decide) rfl (PL0 hH hp) (PSh hH hp) ?_
          refine i_baload hX (dk DX3_here 23 rfl) (CLt hH (q := 31) (by decide)) (CS hH 31 (by decide) rfl) (here_ix (by assumption) (by assumption)) ?_
          refine g_ireturn hX (dk DX3_here 24 rfl) rfl (rfl) (by decide) (by decide) ?_
          exact rI_of (by unfold hereC; (try first | rw [if_pos hc1] | rw [if_neg hc1] | rw [if_neg (not_not_intro hc1)]); (try first | rw [if_pos hc2] | rw [if_neg hc2] | rw [if_neg (not_not_intro hc2)]); (try first | rw [if_pos hc3] | rw [if_neg hc3] | rw [if_neg (not_not_intro hc3)]); (try first | rw [if_pos hc4] | rw [if_neg hc4] | rw [if_neg (not_not_intro hc4)]); first | done | rfl) rfl rfl
        · refine g_iconst (v := -1) hX (dk DX3_here 17 rfl) (by decide) ?_
          refine g_goto (tgt := 50) hX (dk DX3_here 18 rfl) (by decide) ?_
          refine g_ireturn hX (dk DX3_here 24 rfl) rfl (rfl) (by decide) (by decide) ?_
          exact rI_of (by unfold hereC; (try first | rw [if_pos hc1] | rw [if_neg hc1] | rw [if_neg (not_not_intro hc1)]); (try first | rw [if_pos hc2] | rw [if_neg hc2] | rw [if_neg (not_not_intro hc2)]); (try first | rw [if_pos hc3] | rw [if_neg hc3] | rw [if_neg (not_not_intro hc3)]); (try first | rw [if_pos hc4] | rw [if_neg hc4] | rw [if_neg (not_not_intro hc4)]); first | done | rfl) rfl rfl

set_option maxRecDepth 8000 in
set_option maxHeartbeats 4000000 in
theorem c_X3_takes {G : Gt} (hG : Gok G) {I : It} {h : Ht}  (hH : HX h) {p : Nat} (hp : p < 6) {s : Int32} : Con G (2) 0 0 mX3_takes [.ref (43 + 5 * p), .int s] I h (rI (bI (hereC p I = s)) (tkW p s I) h) := by
  refine con_intro (own := RX3) (lo0 := [some (.ref (43 + 5 * p)), some (.int s), none]) hG rfl pl_X3 (Nat.le_of_ble_eq_true rfl) rfl (fun X hX => ?_)
  refine g_aload_0 hX (dk DX3_takes 0 rfl) ?_
  refine g_c1I hX sX3_takes_1 (by decide) (Nat.le_of_ble_eq_true rfl) (rc0 rfl (PL0 hH hp) (PSh hH hp)) (by decide) (by decide) (c_X3_here hG hH hp) ?_
  refine g_iload_1 hX (dk DX3_takes 2 rfl) ?_
  refine g_icmp_ne (tgt := 12) hX (dk DX3_takes 3 rfl) (by decide) (fun hc1 => ?_) (fun hc1 => ?_)
  · refine g_iconst (v := 0) hX (dk DX3_takes 6 rfl) (by decide) ?_
    refine g_istore_2 hX (dk DX3_takes 7 rfl) (by decide) rfl ?_
    refine g_iload_2 hX (dk DX3_takes 8 rfl) ?_
    refine g_if_eq (tgt := 28) hX (dk DX3_takes 9 rfl) (by decide) (fun hc2 => ?_) (fun hc2 => absurd (by decide) hc2)
    refine g_iload_2 hX (dk DX3_takes 16 rfl) ?_
    refine g_ireturn hX (dk DX3_takes 17 rfl) rfl (by decide) (by decide) (by decide) ?_
    first
    | exact rI_of (bI_t (by assumption)).symm (by unfold tkW; (try first | rw [if_pos hc1] | rw [if_neg hc1] | rw [if_neg (not_not_intro hc1)]); (try first | rw [if_pos hc2] | rw [if_neg hc2] | rw [if_neg (not_not_intro hc2)]); first | done | rfl) rfl
    | exact rI_of (bI_f (by assumption)).symm (by unfold tkW; (try first | rw [if_pos hc1] | rw [if_neg hc1] | rw [if_neg (not_not_intro hc1)]); (try first | rw [if_pos hc2] | rw [if_neg hc2] | rw [if_neg (not_not_intro hc2)]); first | done | rfl) rfl
  · refine g_iconst (v := 1) hX (dk DX3_takes 4 rfl) (by decide) ?_
    refine g_goto (tgt := 13) hX (dk DX3_takes 5 rfl) (by decide) ?_
    refine g_istore_2 hX (dk DX3_takes 7 rfl) (by decide) rfl ?_
    refine g_iload_2 hX (dk DX3_takes 8 rfl) ?_
    refine g_if_eq (tgt := 28) hX (dk DX3_takes 9 rfl) (by decide) (fun hc3 => absurd hc3 (by decide)) (fun hc3 => ?_)
    refine g_aload_0 hX (dk DX3_takes 10 rfl) ?_
    refine g_dup hX (dk DX3_takes 11 rfl) rfl ?_
    refine g_getI hX (dk DX3_takes 12 rfl) KX3 fX3_38 (by decide) rfl (PL0 hH hp) (PSh hH hp) ?_
    refine g_iconst (v := 1) hX (dk DX3_takes 13 rfl) (by decide) ?_
    refine g_iadd hX (dk DX3_takes 14 rfl) ?_
    refine g_putI hX (dk DX3_takes 15 rfl) KX3 fX3_38 (by decide) rfl (PL0 hH hp) (PSh hH hp) (Or.inl rfl) (rfl) (rfl) ?_
    refine g_iload_2 hX (dk DX3_takes 16 rfl) ?_
    refine g_ireturn hX (dk DX3_takes 17 rfl) rfl (by decide) (by decide) (by decide) ?_
    first
    | exact rI_of (bI_t (by assumption)).symm (by unfold tkW; (try first | rw [if_pos hc1] | rw [if_neg hc1] | rw [if_neg (not_not_intro hc1)]); (try first | rw [if_pos hc3] | rw [if_neg hc3] | rw [if_neg (not_not_intro hc3)]); first | done | rfl) rfl
    | exact rI_of (bI_f (by assumption)).symm (by unfold tkW; (try first | rw [if_pos hc1] | rw [if_neg hc1] | rw [if_neg (not_not_intro hc1)]); (try first | rw [if_pos hc3] | rw [if_neg hc3] | rw [if_neg (not_not_intro hc3)]); first | done | rfl) rfl

set_option maxRecDepth 8000 in
set_option maxHeartbeats 4000000 in
theorem c_X3_takeIf {G : Gt} (hG : Gok G) {I : It} {h : Ht}  (hH : HX h) {p : Nat} (hp : p < 6) {b : Int32} : Con G (1) 0 0 mX3_takeIf [.ref (43 + 5 * p), .int b] I h (rV (tiW p b I) h) := by
  refine con_intro (own := RX3) (lo0 := [some (.ref (43 + 5 * p)), some (.int b)]) hG rfl pl_X3 (Nat.le_of_ble_eq_true rfl) rfl (fun X hX => ?_)
  refine g_iload_1 hX (dk DX3_takeIf 0 rfl) ?_
  refine g_if_eq (tgt := 24) hX (dk DX3_takeIf 1 rfl) (by decide) (fun hc1 => ?_) (fun hc1 => ?_)
  · refine g_aload_0 hX (dk DX3_takeIf 12 rfl) ?_
    refine g_iconst (v := 1) hX (dk DX3_takeIf 13 rfl) (by decide) ?_
    refine g_putI hX (dk DX3_takeIf 14 rfl) KX3 fX3_41 (by decide) rfl (PL0 hH hp) (PSh hH hp) (Or.inl rfl) (by decide) (by decide) ?_
    refine g_return hX (dk DX3_takeIf 15 rfl) rfl (by decide) (by decide) ?_
    exact rV_of (by unfold tiW; (try first | rw [if_pos hc1] | rw [if_neg hc1] | rw [if_neg (not_not_intro hc1)]); first | done | rfl) rfl
  · refine g_aload_0 hX (dk DX3_takeIf 2 rfl) ?_
    refine g_getI hX (dk DX3_takeIf 3 rfl) KX3 fX3_41 (by decide) rfl (PL0 hH hp) (PSh hH hp) ?_
    refine g_if_ne (tgt := 24) hX (dk DX3_takeIf 4 rfl) (by decide) (fun hc2 => ?_) (fun hc2 => ?_)
    · refine g_aload_0 hX (dk DX3_takeIf 12 rfl) ?_
      refine g_iconst (v := 1) hX (dk DX3_takeIf 13 rfl) (by decide) ?_
      refine g_putI hX (dk DX3_takeIf 14 rfl) KX3 fX3_41 (by decide) rfl (PL0 hH hp) (PSh hH hp) (Or.inl rfl) (by decide) (by decide) ?_
      refine g_return hX (dk DX3_takeIf 15 rfl) rfl (by decide) (by decide) ?_
      exact rV_of (by unfold tiW; (try first | rw [if_pos hc1] | rw [if_neg hc1] | rw [if_neg (not_not_intro hc1)]); (try first | rw [if_pos hc2] | rw [if_neg hc2] | rw [if_neg (not_not_intro hc2)]); first | done | rfl) rfl
    · refine g_aload_0 hX (dk DX3_takeIf 5 rfl) ?_
      refine g_dup hX (dk DX3_takeIf 6 rfl) rfl ?_
      refine g_getI hX (dk DX3_takeIf 7 rfl) KX3 fX3_38 (by decide) rfl (PL0 hH hp) (PSh hH hp) ?_
      refine g_iconst (v := 1) hX (dk DX3_takeIf 8 rfl) (by decide) ?_
      refine g_iadd hX (dk DX3_takeIf 9 rfl) ?_
      refine g_putI hX (dk DX3_takeIf 10 rfl) KX3 fX3_38 (by decide) rfl (PL0 hH hp) (PSh hH hp) (Or.inl rfl) (rfl) (rfl) ?_
      refine g_goto (tgt := 29) hX (dk DX3_takeIf 11 rfl) (by decide) ?_
      refine g_return hX (dk DX3_takeIf 15 rfl) rfl (by decide) (by decide) ?_
      exact rV_of (by unfold tiW; (try first | rw [if_pos hc1] | rw [if_neg hc1] | rw [if_neg (not_not_intro hc1)]); (try first | rw [if_pos hc2] | rw [if_neg hc2] | rw [if_neg (not_not_intro hc2)]); first | done | rfl) rfl

set_option maxRecDepth 8000 in
set_option maxHeartbeats 4000000 in
theorem c_X3_needs {G : Gt} (hG : Gok G) {I : It} {h : Ht}  (hH : HX h) {p : Nat} (hp : p < 6) {s : Int32} : Con G (2) 0 0 mX3_needs [.ref (43 + 5 * p), .int s] I h (rV (ndW p s I) h) := by
  refine con_intro (own := RX3) (lo0 := [some (.ref (43 + 5 * p)), some (.int s)]) hG rfl pl_X3 (Nat.le_of_ble_eq_true rfl) rfl (fun X hX => ?_)
  refine g_aload_0 hX (dk DX3_needs 0 rfl) ?_
  refine g_aload_0 hX (dk DX3_needs 1 rfl) ?_
  refine g_c1I hX sX3_needs_2 (by decide) (Nat.le_of_ble_eq_true rfl) (rc0 rfl (PL0 hH hp) (PSh hH hp)) (by decide) (by decide) (c_X3_here hG hH hp) ?_
  refine g_iload_1 hX (dk DX3_needs 3 rfl) ?_
  refine g_icmp_ne (tgt := 13) hX (dk DX3_needs 4 rfl) (by decide) (fun hc1 => ?_) (fun hc1 => ?_)
  · refine g_iconst (v := 0) hX (dk DX3_needs 7 rfl) (by decide) ?_
    refine g_c2V hX sX3_needs_14 (by decide) (Nat.le_of_ble_eq_true rfl) (rc0 rfl (PL0 hH hp) (PSh hH hp)) (by decide) (by decide) (c_X3_takeIf hG hH hp) ?_
    refine g_return hX (dk DX3_needs 9 rfl) rfl (by decide) (by decide) ?_
    first
    | exact rV_of (by unfold ndW; rw [bI_t (by assumption)]) rfl
    | exact rV_of (by unfold ndW; rw [bI_f (by assumption)]) rfl
  · refine g_iconst (v := 1) hX (dk DX3_needs 5 rfl) (by decide) ?_
    refine g_goto (tgt := 14) hX (dk DX3_needs 6 rfl) (by decide) ?_
    refine g_c2V hX sX3_needs_14 (by decide) (Nat.le_of_ble_eq_true rfl) (rc0 rfl (PL0 hH hp) (PSh hH hp)) (by decide) (by decide) (c_X3_takeIf hG hH hp) ?_
    refine g_return hX (dk DX3_needs 9 rfl) rfl (by decide) (by decide) ?_
    first
    | exact rV_of (by unfold ndW; rw [bI_t (by assumption)]) rfl
    | exact rV_of (by unfold ndW; rw [bI_f (by assumption)]) rfl

set_option maxRecDepth 8000 in
set_option maxHeartbeats 4000000 in
theorem c_X3_keep {G : Gt} (hG : Gok G) {I : It} {h : Ht}  (hH : HX h) {p : Nat} (hp : p < 6) {t : Int32} {I0 : It} (hK : KP p I0 I) : Con G (1) 0 0 mX3_keep [.ref (43 + 5 * p), .int t] I h (rV (kpW p t I) h) := by
  refine con_intro (own := RX3) (lo0 := [some (.ref (43 + 5 * p)), some (.int t)]) hG rfl pl_X3 (Nat.le_of_ble_eq_true rfl) rfl (fun X hX => ?_)
  refine g_aload_0 hX (dk DX3_keep 0 rfl) ?_
  refine g_getI hX (dk DX3_keep 1 rfl) KX3 fX3_41 (by decide) rfl (PL0 hH hp) (PSh hH hp) ?_
  refine g_if_ne (tgt := 39) hX (dk DX3_keep 2 rfl) (by decide) (fun hc1 => ?_) (fun hc1 => ?_)
  · refine g_return hX (dk DX3_keep 21 rfl) rfl (by decide) (by decide) ?_
    exact rV_of (by unfold kpW; (try first | rw [if_pos hc1] | rw [if_neg hc1] | rw [if_neg (not_not_intro hc1)]); first | done | rfl) rfl
  · refine g_aload_0 hX (dk DX3_keep 3 rfl) ?_
    refine g_getI hX (dk DX3_keep 4 rfl) KX3 fX3_48 (by decide) rfl (PL0 hH hp) (PSh hH hp) ?_
    refine g_aload_0 hX (dk DX3_keep 5 rfl) ?_
    refine g_getRs (r := (47 + 5 * p)) hX (dk DX3_keep 6 rfl) KX3 fX3_21 (by decide) rfl (PL0 hH hp) (PSh hH hp) (PR6 hH hp) ?_
    refine g_alen (v := 100) hX (dk DX3_keep 7 rfl) (PLt hH (j := 4) hp (by decide)) (PA7 hH hp) (by decide) (i0 := 0) rfl (by decide) ?_
    refine g_icmp_ge (tgt := 39) hX (dk DX3_keep 8 rfl) (by decide) (fun hc2 => ?_) (fun hc2 => ?_)
    · refine g_return hX (dk DX3_keep 21 rfl) rfl (by decide) (by decide) ?_
      exact rV_of (by unfold kpW; (try first | rw [if_pos hc1] | rw [if_neg hc1] | rw [if_neg (not_not_intro hc1)]); (try first | rw [if_pos hc2] | rw [if_neg hc2] | rw [if_neg (not_not_intro hc2)]); first | done | rfl) rfl
    · refine g_aload_0 hX (dk DX3_keep 9 rfl) ?_
      refine g_getRs (r := (47 + 5 * p)) hX (dk DX3_keep 10 rfl) KX3 fX3_21 (by decide) rfl (PL0 hH hp) (PSh hH hp) (PR6 hH hp) ?_
      refine g_aload_0 hX (dk DX3_keep 11 rfl) ?_
      refine g_getI hX (dk DX3_keep 12 rfl) KX3 fX3_48 (by decide) rfl (PL0 hH hp) (PSh hH hp) ?_
      refine g_iload_1 hX (dk DX3_keep 13 rfl) ?_
      refine i_iastore hX (dk DX3_keep 14 rfl) (PLt hH (j := 4) hp (by decide)) (PA7 hH hp) (kp_ix (b := 100) (by decide) hK.2.1 (by assumption)) ?_
      refine g_aload_0 hX (dk DX3_keep 15 rfl) ?_
      refine g_dup hX (dk DX3_keep 16 rfl) rfl ?_
      refine g_getI hX (dk DX3_keep 17 rfl) KX3 fX3_48 (by decide) rfl (PL0 hH hp) (PSh hH hp) ?_
      refine g_iconst (v := 1) hX (dk DX3_keep 18 rfl) (by decide) ?_
      refine g_iadd hX (dk DX3_keep 19 rfl) ?_
      refine g_putI hX (dk DX3_keep 20 rfl) KX3 fX3_48 (by decide) rfl (PL0 hH hp) (PSh hH hp) (Or.inl rfl) (rfl) (rfl) ?_
      refine g_return hX (dk DX3_keep 21 rfl) rfl (by decide) (by decide) ?_
      exact rV_of (by unfold kpW; (try first | rw [if_pos hc1] | rw [if_neg hc1] | rw [if_neg (not_not_intro hc1)]); (try first | rw [if_pos hc2] | rw [if_neg hc2] | rw [if_neg (not_not_intro hc2)]); first | done | rfl) rfl
end
