set_option maxRecDepth 8000 in
set_option maxHeartbeats 4000000 in
theorem w_X0_hourMore {G : Gt} (hG : Gok G) {I : It} {h : Ht}  (hH : HX h) {y : Int32} : Con G (3) 0 0 mX0_hourMore [.ref 13, .int y] I h (fun r I2 h2 => r = some (.ref 28) ∧ (∀ a, a ≠ 28 → I2 a = I a) ∧ h2 = h) := by
  refine con_intro (own := RX0) (lo0 := [some (.ref 13), some (.int y), none]) hG rfl pl_X0 (Nat.le_of_ble_eq_true rfl) rfl (fun X hX => ?_)
  have loop2 : ∀ (k n : Nat) (J : It), n + k = 4 → (∀ a, a ≠ 28 → J a = I a) → GG G (3) 0 0 X (fun r I2 h2 => r = some (.ref 28) ∧ (∀ a, a ≠ 28 → I2 a = I a) ∧ h2 = h) 2 [some (.ref 13), some (.int y), some (.int (nI n))] [] (J) (h) 0 0 := by
    intro k
    induction k using Nat.strongRecOn with | _ k ih => ?_
    intro n J hk hf
    refine g_iload_2 hX (dk DX0_hourMore 2 rfl) ?_
    refine g_iconst (v := 4) hX (dk DX0_hourMore 3 rfl) (by decide) ?_
    refine g_icmp_ge (tgt := 39) hX (dk DX0_hourMore 4 rfl) (by decide) (fun hc1 => ?_) (fun hc1 => ?_)
    · refine g_aload_0 hX (dk DX0_hourMore 23 rfl) ?_
      refine g_getRs (r := 28) hX (dk DX0_hourMore 24 rfl) KX0 fX0_28 (by decide) rfl (CLt hH (q := 13) (by decide)) (CC hH 13 (by decide) rfl) (CR hH 13 14 28 (by decide)) ?_
      refine g_areturn (r := some 28) hX (dk DX0_hourMore 25 rfl) rfl rfl (Or.inr ⟨_, rfl⟩) (by decide) (by decide) ?_
      exact ⟨rfl, hf, rfl⟩
    · obtain ⟨k, rfl⟩ := cl_go (e := 4) hk (by decide) hc1
      refine g_aload_0 hX (dk DX0_hourMore 5 rfl) ?_
      refine g_getRs (r := 28) hX (dk DX0_hourMore 6 rfl) KX0 fX0_28 (by decide) rfl (CLt hH (q := 13) (by decide)) (CC hH 13 (by decide) rfl) (CR hH 13 14 28 (by decide)) ?_
      refine g_iload_2 hX (dk DX0_hourMore 7 rfl) ?_
      refine g_aload_0 hX (dk DX0_hourMore 8 rfl) ?_
      refine g_getRs (r := 1) hX (dk DX0_hourMore 9 rfl) KX0 fX0_34 (by decide) rfl (CLt hH (q := 13) (by decide)) (CC hH 13 (by decide) rfl) (CR hH 13 0 1 (by decide)) ?_
      refine g_getRs (r := 4) hX (dk DX0_hourMore 10 rfl) KX5 fX0_101 (by decide) rfl (CLt hH (q := 1) (by decide)) (CC hH 1 (by decide) rfl) (CR hH 1 5 4 (by decide)) ?_
      refine g_iload_2 hX (dk DX0_hourMore 11 rfl) ?_
      refine i_iaload hX (dk DX0_hourMore 12 rfl) (CLt hH (q := 4) (by decide)) (CS hH 4 (by decide) rfl) (⟨rfl, by omega, by decide⟩) ?_
      refine g_iload_2 hX (dk DX0_hourMore 13 rfl) ?_
      refine g_iload_1 hX (dk DX0_hourMore 14 rfl) ?_
      refine g_icmp_ne (tgt := 30) hX (dk DX0_hourMore 15 rfl) (by decide) (fun hc2 => ?_) (fun hc2 => ?_)
      · refine g_iconst (v := 0) hX (dk DX0_hourMore 18 rfl) (by decide) ?_
        refine g_iadd hX (dk DX0_hourMore 19 rfl) ?_
        refine i_iastore hX (dk DX0_hourMore 20 rfl) (CLt hH (q := 28) (by decide)) (CS hH 28 (by decide) rfl) (⟨rfl, by omega, by decide⟩) ?_
        refine g_iinc_2 hX (dk DX0_hourMore 21 rfl) (nI_1 n) (by decide) rfl ?_
        refine g_goto (tgt := 2) hX (dk DX0_hourMore 22 rfl) (by decide) ?_
        exact ih k (by omega) (n + 1) _ (by omega) (fun a ha => by rw [upI_off ha]; exact hf a ha)
      · refine g_iconst (v := 1) hX (dk DX0_hourMore 16 rfl) (by decide) ?_
        refine g_goto (tgt := 31) hX (dk DX0_hourMore 17 rfl) (by decide) ?_
        refine g_iadd hX (dk DX0_hourMore 19 rfl) ?_
        refine i_iastore hX (dk DX0_hourMore 20 rfl) (CLt hH (q := 28) (by decide)) (CS hH 28 (by decide) rfl) (⟨rfl, by omega, by decide⟩) ?_
        refine g_iinc_2 hX (dk DX0_hourMore 21 rfl) (nI_1 n) (by decide) rfl ?_
        refine g_goto (tgt := 2) hX (dk DX0_hourMore 22 rfl) (by decide) ?_
        exact ih k (by omega) (n + 1) _ (by omega) (fun a ha => by rw [upI_off ha]; exact hf a ha)
  refine g_iconst (v := 0) hX (dk DX0_hourMore 0 rfl) (by decide) ?_
  refine g_istore_2 hX (dk DX0_hourMore 1 rfl) (by decide) rfl ?_
  exact g_fgt (loop2 4 0 I (Nat.zero_add _) (fun a ha => rfl)) ⟨rfl, rfl, rfl, trivial⟩

set_option maxRecDepth 8000 in
set_option maxHeartbeats 4000000 in
theorem w_X0_bestOf {G : Gt} (hG : Gok G) {I : It} {h : Ht}  (hW : WX I h) {u z : Int32} {m : Nat} (hm : m ≤ 200) (hsp : I 13 1 = nI m) : Con G (7) 0 0 mX0_bestOf [.ref 13, .int u, .int z] I h (qI (fun _ I2 h2 => P2 I I2 ∧ h2 = h)) := by
  refine con_intro (own := RX0) (lo0 := [some (.ref 13), some (.int u), some (.int z), none, none, none, none, none]) hG rfl pl_X0 (Nat.le_of_ble_eq_true rfl) rfl (fun X hX => ?_)
  have hH := hW.1
  have hc10 := hW.2.1.2
  have loop10 : ∀ (k d : Nat) (f l : Int32) (J : It), d + k = cN I → P2 I J → GG G (7) 0 0 X (qI (fun _ I2 h2 => P2 I I2 ∧ h2 = h)) 10 [some (.ref 13), some (.int u), some (.int z), some (.int f), some (.int l), some (.int (nI d)), none, none] [] (J) (h) 0 0 := by
    intro k
    induction k using Nat.strongRecOn with | _ k ih => ?_
    intro d f l J hk hP
    have hS := hP.sc
    have hWI := hW
    have hW := hW.sc hS
    have eJ : J 1 = I 1 := hS 1 (by omega)
    have ec : cN J = cN I := by unfold cN; rw [eJ]
    refine g_iload_5 hX (dk DX0_bestOf 6 rfl) ?_
    refine g_aload_0 hX (dk DX0_bestOf 7 rfl) ?_
    refine g_getRs (r := 1) hX (dk DX0_bestOf 8 rfl) KX0 fX0_34 (by decide) rfl (CLt hH (q := 13) (by decide)) (CC hH 13 (by decide) rfl) (CR hH 13 0 1 (by decide)) ?_
    refine g_getIv hX (dk DX0_bestOf 9 rfl) KX5 fX0_69 (by decide) rfl (CLt hH (q := 1) (by decide)) (CC hH 1 (by decide) rfl) ((show J 1 2 = nI (cN I) from by rw [eJ]; exact hWI.2.1.1)) ?_
    refine g_icmp_ge (tgt := 108) hX (dk DX0_bestOf 10 rfl) (by decide) (fun hc1 => ?_) (fun hc1 => ?_)
    · refine g_iload_3 hX (dk DX0_bestOf 52 rfl) ?_
      refine g_ireturn hX (dk DX0_bestOf 53 rfl) rfl (rfl) (by decide) (by decide) ?_
      exact qI_of ⟨hP, rfl⟩
    · obtain ⟨k, rfl⟩ := cl_go hk (by omega) hc1
      refine g_iload_1 hX (dk DX0_bestOf 11 rfl) ?_
      refine g_iload_5 hX (dk DX0_bestOf 12 rfl) ?_
      refine g_c2I hX sX0_bestOf_25 (by decide) (Nat.le_of_ble_eq_true rfl) rcN (by decide) (by decide) (c_X11_bit hG) ?_
      refine g_if_eq (tgt := 102) hX (dk DX0_bestOf 14 rfl) (by decide) (fun hc2 => ?_) (fun hc2 => ?_)
      · refine g_iinc_5 hX (dk DX0_bestOf 50 rfl) (nI_1 d) (by decide) rfl ?_
        refine g_goto (tgt := 10) hX (dk DX0_bestOf 51 rfl) (by decide) ?_
        first
        | exact g_fgt (ih k (by omega) (d + 1) _ _ _ (by omega) (hP.trans hP2)) ⟨rfl, rfl, rfl, rfl, rfl, rfl, trivial⟩
        | exact g_fgt (ih k (by omega) (d + 1) _ _ _ (by omega) hP) ⟨rfl, rfl, rfl, rfl, rfl, rfl, trivial⟩
      · refine g_iconst (v := 1) hX (dk DX0_bestOf 15 rfl) (by decide) ?_
        refine g_iload_5 hX (dk DX0_bestOf 16 rfl) ?_
        refine g_ishl hX (dk DX0_bestOf 17 rfl) ?_
        refine g_istore_6 hX (dk DX0_bestOf 18 rfl) (by decide) rfl ?_
        refine g_iload_2 hX (dk DX0_bestOf 19 rfl) ?_
        refine g_if_eq (tgt := 65) hX (dk DX0_bestOf 20 rfl) (by decide) (fun hc3 => ?_) (fun hc3 => ?_)
        · refine g_aload_0 hX (dk DX0_bestOf 32 rfl) ?_
          refine g_aload_0 hX (dk DX0_bestOf 33 rfl) ?_
          refine g_getRs (r := 1) hX (dk DX0_bestOf 34 rfl) KX0 fX0_34 (by decide) rfl (CLt hH (q := 13) (by decide)) (CC hH 13 (by decide) rfl) (CR hH 13 0 1 (by decide)) ?_
          refine g_getI hX (dk DX0_bestOf 35 rfl) KX5 fX0_161 (by decide) rfl (CLt hH (q := 1) (by decide)) (CC hH 1 (by decide) rfl) ?_
          refine g_aload_0 hX (dk DX0_bestOf 36 rfl) ?_
          refine g_getRs (r := 1) hX (dk DX0_bestOf 37 rfl) KX0 fX0_34 (by decide) rfl (CLt hH (q := 13) (by decide)) (CC hH 13 (by decide) rfl) (CR hH 13 0 1 (by decide)) ?_
          refine g_getI hX (dk DX0_bestOf 38 rfl) KX5 fX0_166 (by decide) rfl (CLt hH (q := 1) (by decide)) (CC hH 1 (by decide) rfl) ?_
          refine g_iload_6 hX (dk DX0_bestOf 39 rfl) ?_
          refine g_ior hX (dk DX0_bestOf 40 rfl) ?_
          refine g_c3q hX sX0_bestOf_83 (by decide) (Nat.le_of_ble_eq_true rfl) (rc0 rfl (CLt hH (by decide)) (CC hH 13 (by decide) rfl)) (by decide) (by decide) (w_X0_pass hG hW hm (hP.2.trans hsp)) ?_
          rintro _ J2 _ ⟨hP2, rfl⟩
          refine g_istore_7 hX (dk DX0_bestOf 42 rfl) (by decide) rfl ?_
          refine g_iload_7 hX (dk DX0_bestOf 43 rfl) ?_
          refine g_iload_4 hX (dk DX0_bestOf 44 rfl) ?_
          refine g_icmp_ge (tgt := 102) hX (dk DX0_bestOf 45 rfl) (by decide) (fun hc4 => ?_) (fun hc4 => ?_)
          · refine g_iinc_5 hX (dk DX0_bestOf 50 rfl) (nI_1 d) (by decide) rfl ?_
            refine g_goto (tgt := 10) hX (dk DX0_bestOf 51 rfl) (by decide) ?_
            first
            | exact g_fgt (ih k (by omega) (d + 1) _ _ _ (by omega) (hP.trans hP2)) ⟨rfl, rfl, rfl, rfl, rfl, rfl, trivial⟩
            | exact g_fgt (ih k (by omega) (d + 1) _ _ _ (by omega) hP) ⟨rfl, rfl, rfl, rfl, rfl, rfl, trivial⟩
          · refine g_iload_7 hX (dk DX0_bestOf 46 rfl) ?_
            refine g_istore_4 hX (dk DX0_bestOf 47 rfl) (by decide) rfl ?_
            refine g_iload_5 hX (dk DX0_bestOf 48 rfl) ?_
            refine g_istore_3 hX (dk DX0_bestOf 49 rfl) (by decide) rfl ?_
            refine g_iinc_5 hX (dk DX0_bestOf 50 rfl) (nI_1 d) (by decide) rfl ?_
            refine g_goto (tgt := 10) hX (dk DX0_bestOf 51 rfl) (by decide) ?_
            first
            | exact g_fgt (ih k (by omega) (d + 1) _ _ _ (by omega) (hP.trans hP2)) ⟨rfl, rfl, rfl, rfl, rfl, rfl, trivial⟩
            | exact g_fgt (ih k (by omega) (d + 1) _ _ _ (by omega) hP) ⟨rfl, rfl, rfl, rfl, rfl, rfl, trivial⟩
        · refine g_aload_0 hX (dk DX0_bestOf 21 rfl) ?_
          refine g_aload_0 hX (dk DX0_bestOf 22 rfl) ?_
          refine g_getRs (r := 1) hX (dk DX0_bestOf 23 rfl) KX0 fX0_34 (by decide) rfl (CLt hH (q := 13) (by decide)) (CC hH 13 (by decide) rfl) (CR hH 13 0 1 (by decide)) ?_
          refine g_getI hX (dk DX0_bestOf 24 rfl) KX5 fX0_161 (by decide) rfl (CLt hH (q := 1) (by decide)) (CC hH 1 (by decide) rfl) ?_
          refine g_iload_6 hX (dk DX0_bestOf 25 rfl) ?_
          refine g_ior hX (dk DX0_bestOf 26 rfl) ?_
          refine g_aload_0 hX (dk DX0_bestOf 27 rfl) ?_
          refine g_getRs (r := 1) hX (dk DX0_bestOf 28 rfl) KX0 fX0_34 (by decide) rfl (CLt hH (q := 13) (by decide)) (CC hH 13 (by decide) rfl) (CR hH 13 0 1 (by decide)) ?_
          refine g_getI hX (dk DX0_bestOf 29 rfl) KX5 fX0_166 (by decide) rfl (CLt hH (q := 1) (by decide)) (CC hH 1 (by decide) rfl) ?_
          refine g_c3q hX sX0_bestOf_59 (by decide) (Nat.le_of_ble_eq_true rfl) (rc0 rfl (CLt hH (by decide)) (CC hH 13 (by decide) rfl)) (by decide) (by decide) (w_X0_pass hG hW hm (hP.2.trans hsp)) ?_
          rintro _ J2 _ ⟨hP2, rfl⟩
          refine g_goto (tgt := 86) hX (dk DX0_bestOf 31 rfl) (by decide) ?_
          refine g_istore_7 hX (dk DX0_bestOf 42 rfl) (by decide) rfl ?_
          refine g_iload_7 hX (dk DX0_bestOf 43 rfl) ?_
          refine g_iload_4 hX (dk DX0_bestOf 44 rfl) ?_
          refine g_icmp_ge (tgt := 102) hX (dk DX0_bestOf 45 rfl) (by decide) (fun hc5 => ?_) (fun hc5 => ?_)
          · refine g_iinc_5 hX (dk DX0_bestOf 50 rfl) (nI_1 d) (by decide) rfl ?_
            refine g_goto (tgt := 10) hX (dk DX0_bestOf 51 rfl) (by decide) ?_
            first
            | exact g_fgt (ih k (by omega) (d + 1) _ _ _ (by omega) (hP.trans hP2)) ⟨rfl, rfl, rfl, rfl, rfl, rfl, trivial⟩
            | exact g_fgt (ih k (by omega) (d + 1) _ _ _ (by omega) hP) ⟨rfl, rfl, rfl, rfl, rfl, rfl, trivial⟩
          · refine g_iload_7 hX (dk DX0_bestOf 46 rfl) ?_
            refine g_istore_4 hX (dk DX0_bestOf 47 rfl) (by decide) rfl ?_
            refine g_iload_5 hX (dk DX0_bestOf 48 rfl) ?_
            refine g_istore_3 hX (dk DX0_bestOf 49 rfl) (by decide) rfl ?_
            refine g_iinc_5 hX (dk DX0_bestOf 50 rfl) (nI_1 d) (by decide) rfl ?_
            refine g_goto (tgt := 10) hX (dk DX0_bestOf 51 rfl) (by decide) ?_
            first
            | exact g_fgt (ih k (by omega) (d + 1) _ _ _ (by omega) (hP.trans hP2)) ⟨rfl, rfl, rfl, rfl, rfl, rfl, trivial⟩
            | exact g_fgt (ih k (by omega) (d + 1) _ _ _ (by omega) hP) ⟨rfl, rfl, rfl, rfl, rfl, rfl, trivial⟩
  refine g_bipush (v := -5) hX (dk DX0_bestOf 0 rfl) (by decide) ?_
  refine g_istore_3 hX (dk DX0_bestOf 1 rfl) (by decide) rfl ?_
  refine g_ldc (v := 2147483647) hX (dk DX0_bestOf 2 rfl) (tg_3 231 rfl rfl) ?_
  refine g_istore_4 hX (dk DX0_bestOf 3 rfl) (by decide) rfl ?_
  refine g_iconst (v := 0) hX (dk DX0_bestOf 4 rfl) (by decide) ?_
  refine g_istore_5 hX (dk DX0_bestOf 5 rfl) (by decide) rfl ?_
  exact g_fgt (loop10 (cN I) 0 _ _ I (Nat.zero_add _) P2.rf) ⟨rfl, rfl, rfl, rfl, rfl, rfl, trivial⟩

set_option maxRecDepth 8000 in
set_option maxHeartbeats 4000000 in
theorem w_X0_firstRowNotSo {G : Gt} (hG : Gok G) {I : It} {h : Ht}  (hW : WX I h)  {m : Nat} (hm : m ≤ 200) (hsp : I 13 1 = nI m) : Con G (2) 0 0 mX0_firstRowNotSo [.ref 13] I h (qI (fun _ I2 h2 => I2 = I ∧ h2 = h)) := by
  refine con_intro (own := RX0) (lo0 := [some (.ref 13), none, none]) hG rfl pl_X0 (Nat.le_of_ble_eq_true rfl) rfl (fun X hX => ?_)
  have hH := hW.1
  have hc10 := hW.2.1.2
  have loop2 : ∀ r, r ≤ 12 → I 1 12 = nI r → ∀ (k d : Nat), d + k = r → GG G (2) 0 0 X (qI (fun _ I2 h2 => I2 = I ∧ h2 = h)) 2 [some (.ref 13), some (.int (nI d)), none] [] (I) (h) 0 0 := by
    intro r hr12 hr k
    induction k using Nat.strongRecOn with | _ k ih => ?_
    intro d hk
    refine g_iload_1 hX (dk DX0_firstRowNotSo 2 rfl) ?_
    refine g_aload_0 hX (dk DX0_firstRowNotSo 3 rfl) ?_
    refine g_getRs (r := 1) hX (dk DX0_firstRowNotSo 4 rfl) KX0 fX0_34 (by decide) rfl (CLt hH (q := 13) (by decide)) (CC hH 13 (by decide) rfl) (CR hH 13 0 1 (by decide)) ?_
    refine g_getIv hX (dk DX0_firstRowNotSo 5 rfl) KX5 fX0_184 (by decide) rfl (CLt hH (q := 1) (by decide)) (CC hH 1 (by decide) rfl) (hr) ?_
    refine g_icmp_ge (tgt := 72) hX (dk DX0_firstRowNotSo 6 rfl) (by decide) (fun hc1 => ?_) (fun hc1 => ?_)
    · refine g_bipush (v := -5) hX (dk DX0_firstRowNotSo 38 rfl) (by decide) ?_
      refine g_ireturn hX (dk DX0_firstRowNotSo 39 rfl) rfl (rfl) (by decide) (by decide) ?_
      exact qI_of ⟨rfl, rfl⟩
    · obtain ⟨k, rfl⟩ := cl_go hk (by omega) hc1
      refine g_aload_0 hX (dk DX0_firstRowNotSo 7 rfl) ?_
      refine g_getRs (r := 1) hX (dk DX0_firstRowNotSo 8 rfl) KX0 fX0_34 (by decide) rfl (CLt hH (q := 13) (by decide)) (CC hH 13 (by decide) rfl) (CR hH 13 0 1 (by decide)) ?_
      refine g_getRs (r := 5) hX (dk DX0_firstRowNotSo 9 rfl) KX5 fX0_187 (by decide) rfl (CLt hH (q := 1) (by decide)) (CC hH 1 (by decide) rfl) (CR hH 1 10 5 (by decide)) ?_
      refine g_iload_1 hX (dk DX0_firstRowNotSo 10 rfl) ?_
      refine i_iaload hX (dk DX0_firstRowNotSo 11 rfl) (CLt hH (q := 5) (by decide)) (CS hH 5 (by decide) rfl) (⟨rfl, by omega, by decide⟩) ?_
      refine g_aload_0 hX (dk DX0_firstRowNotSo 12 rfl) ?_
      refine g_getRs (r := 1) hX (dk DX0_firstRowNotSo 13 rfl) KX0 fX0_34 (by decide) rfl (CLt hH (q := 13) (by decide)) (CC hH 13 (by decide) rfl) (CR hH 13 0 1 (by decide)) ?_
      refine g_getI hX (dk DX0_firstRowNotSo 14 rfl) KX5 fX0_57 (by decide) rfl (CLt hH (q := 1) (by decide)) (CC hH 1 (by decide) rfl) ?_
      refine g_isub hX (dk DX0_firstRowNotSo 15 rfl) ?_
      refine g_istore_2 hX (dk DX0_firstRowNotSo 16 rfl) (by decide) rfl ?_
      refine g_iload_2 hX (dk DX0_firstRowNotSo 17 rfl) ?_
      refine g_if_lt (tgt := 64) hX (dk DX0_firstRowNotSo 18 rfl) (by decide) (fun hc2 => ?_) (fun hc2 => ?_)
      · refine g_iload_1 hX (dk DX0_firstRowNotSo 34 rfl) ?_
        refine g_ireturn hX (dk DX0_firstRowNotSo 35 rfl) rfl (rfl) (by decide) (by decide) ?_
        exact qI_of ⟨rfl, rfl⟩
      · have h0 := hc2
        refine g_iload_2 hX (dk DX0_firstRowNotSo 19 rfl) ?_
        refine g_aload_0 hX (dk DX0_firstRowNotSo 20 rfl) ?_
        refine g_getIv hX (dk DX0_firstRowNotSo 21 rfl) KX0 fX0_47 (by decide) rfl (CLt hH (q := 13) (by decide)) (CC hH 13 (by decide) rfl) (hsp) ?_
        refine g_icmp_ge (tgt := 64) hX (dk DX0_firstRowNotSo 22 rfl) (by decide) (fun hc3 => ?_) (fun hc3 => ?_)
        · refine g_iload_1 hX (dk DX0_firstRowNotSo 34 rfl) ?_
          refine g_ireturn hX (dk DX0_firstRowNotSo 35 rfl) rfl (rfl) (by decide) (by decide) ?_
          exact qI_of ⟨rfl, rfl⟩
        · have h1 := hc3
          refine g_aload_0 hX (dk DX0_firstRowNotSo 23 rfl) ?_
          refine g_getRs (r := 27) hX (dk DX0_firstRowNotSo 24 rfl) KX0 fX0_25 (by decide) rfl (CLt hH (q := 13) (by decide)) (CC hH 13 (by decide) rfl) (CR hH 13 5 27 (by decide)) ?_
          refine g_iload_2 hX (dk DX0_firstRowNotSo 25 rfl) ?_
          refine i_iaload hX (dk DX0_firstRowNotSo 26 rfl) (CLt hH (q := 27) (by decide)) (CS hH 27 (by decide) rfl) (on_ix h0 h1 hm) ?_
          refine g_aload_0 hX (dk DX0_firstRowNotSo 27 rfl) ?_
          refine g_getRs (r := 1) hX (dk DX0_firstRowNotSo 28 rfl) KX0 fX0_34 (by decide) rfl (CLt hH (q := 13) (by decide)) (CC hH 13 (by decide) rfl) (CR hH 13 0 1 (by decide)) ?_
          refine g_getRs (r := 6) hX (dk DX0_firstRowNotSo 29 rfl) KX5 fX0_190 (by decide) rfl (CLt hH (q := 1) (by decide)) (CC hH 1 (by decide) rfl) (CR hH 1 11 6 (by decide)) ?_
          refine g_iload_1 hX (dk DX0_firstRowNotSo 30 rfl) ?_
          refine i_iaload hX (dk DX0_firstRowNotSo 31 rfl) (CLt hH (q := 6) (by decide)) (CS hH 6 (by decide) rfl) (⟨rfl, by omega, by decide⟩) ?_
          refine g_c2I hX sX0_firstRowNotSo_58 (by decide) (Nat.le_of_ble_eq_true rfl) rcN (by decide) (by decide) (c_X11_bit hG) ?_
          refine g_if_ne (tgt := 66) hX (dk DX0_firstRowNotSo 33 rfl) (by decide) (fun hc4 => ?_) (fun hc4 => ?_)
          · refine g_iinc_1 hX (dk DX0_firstRowNotSo 36 rfl) (nI_1 d) (by decide) rfl ?_
            refine g_goto (tgt := 2) hX (dk DX0_firstRowNotSo 37 rfl) (by decide) ?_
            exact g_fgt (ih k (by omega) (d + 1) (by omega)) ⟨rfl, rfl, trivial⟩
          · refine g_iload_1 hX (dk DX0_firstRowNotSo 34 rfl) ?_
            refine g_ireturn hX (dk DX0_firstRowNotSo 35 rfl) rfl (rfl) (by decide) (by decide) ?_
            exact qI_of ⟨rfl, rfl⟩
  refine g_iconst (v := 0) hX (dk DX0_firstRowNotSo 0 rfl) (by decide) ?_
  refine g_istore_1 hX (dk DX0_firstRowNotSo 1 rfl) (by decide) rfl ?_
  obtain ⟨r, hr12, hr⟩ := hW.2.2.2.2.2
  exact g_fgt (loop2 r hr12 hr r 0 (Nat.zero_add _)) ⟨rfl, rfl, trivial⟩

set_option maxRecDepth 8000 in
set_option maxHeartbeats 4000000 in
theorem w_X0_saidOf {G : Gt} (hG : Gok G) {I : It} {h : Ht}  (hW : WX I h) {q : Nat} {d : Nat} (hd : d < 10) (hq : q < hn h) (h73 : 73 ≤ q) (hdc : isDC (hs h q).1) (hi : I q 0 = nI d) : Con G (7) 0 0 mX0_saidOf [.ref 13, .ref q] I h (qI (fun _ I2 h2 => Sc I I2 ∧ h2 = h)) := by
  refine con_intro (own := RX0) (lo0 := [some (.ref 13), some (.ref q)]) hG rfl pl_X0 (Nat.le_of_ble_eq_true rfl) rfl (fun X hX => ?_)
  have hH := hW.1
  have hc10 := hW.2.1.2
  refine g_aload_0 hX (dk DX0_saidOf 0 rfl) ?_
  refine g_aload_1 hX (dk DX0_saidOf 1 rfl) ?_
  refine g_c2v hX sX0_saidOf_2 (by decide) (Nat.le_of_ble_eq_true rfl) (rc0 rfl (CLt hH (by decide)) (CC hH 13 (by decide) rfl)) (by decide) (by decide) (w_X0_hearOf hG hW hd hq h73 hdc hi) ?_
  rintro J _ ⟨hS, -, rfl⟩
  refine g_aload_1 hX (dk DX0_saidOf 3 rfl) ?_
  refine g_aload_0 hX (dk DX0_saidOf 4 rfl) ?_
  refine g_getRs (r := 16) hX (dk DX0_saidOf 5 rfl) KX0 fX0_22 (by decide) rfl (CLt hH (q := 13) (by decide)) (CC hH 13 (by decide) rfl) (CR hH 13 4 16 (by decide)) ?_
  refine g_aload_1 hX (dk DX0_saidOf 6 rfl) ?_
  refine g_getD (v := (nI d)) hX (dk DX0_saidOf 7 rfl) fX0_93 (by decide) hq hdc ((by rw [hS q (by omega)]; exact hi)) ?_
  refine i_aaload (i0 := 6) hX (dk DX0_saidOf 8 rfl) (CLt hH (q := 16) (by decide)) (CS hH 16 (by decide) rfl) (by decide) rfl rfl (⟨rfl, hd, by decide⟩) (SR hH hd) ?_
  refine g_aload_0 hX (dk DX0_saidOf 9 rfl) ?_
  refine g_getRs (r := 1) hX (dk DX0_saidOf 10 rfl) KX0 fX0_34 (by decide) rfl (CLt hH (q := 13) (by decide)) (CC hH 13 (by decide) rfl) (CR hH 13 0 1 (by decide)) ?_
  refine g_getRs (r := 4) hX (dk DX0_saidOf 11 rfl) KX5 fX0_101 (by decide) rfl (CLt hH (q := 1) (by decide)) (CC hH 1 (by decide) rfl) (CR hH 1 5 4 (by decide)) ?_
  refine g_c3I hX (sD_X0_saidOf_22 _ hdc) (by decide) (Nat.le_of_ble_eq_true rfl) (rc0 rfl hq rfl) (by decide) (by decide) (cD_saidOver hG hq hdc (SL hH hd) (SA hH hd) (CLt hH (q := 4) (by decide)) (CS hH 4 (by decide) rfl)) ?_
  refine g_ireturn hX (dk DX0_saidOf 13 rfl) rfl (rfl) (by decide) (by decide) ?_
  exact qI_of ⟨hS, rfl⟩

