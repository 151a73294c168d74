set_option maxRecDepth 8000 in
set_option maxHeartbeats 4000000 in
theorem zx_busiest {G : Gt} (hG : Gok G) {I : It} {h : Ht}  {E : It} {L : Nat → Int64} (hE : Inv E) (hZ : RZ E L I h) {n w : Int32} : Con G (6) 0 0 mX11_busiest [.ref 0, .int n, .int w] I h (qZ (busiestS E n w) L (hn h)) := by
  refine con_intro (own := RX11) (lo0 := [some (.ref 0), some (.int n), some (.int w), none, none, none, none]) hG rfl pl_X11 (Nat.le_of_ble_eq_true rfl) rfl (fun X hX => ?_)
  have hY := hZ.1
  have hW := hY.wx hE
  have hH := hW.1
  have hc10 := hW.2.1.2
  have hcE := (inv_cnt hE).2
  have loop33 : ∀ m, n = nI m → 1 ≤ m → m ≤ 200 → ¬ ¬ (0 ≤ w ∧ w ≤ 1) → ∀ (k on b : Nat) (z : Int32), on + k = m → bsI E m on k b z → GG G (6) 0 0 X (qZ (busiestS E n w) L (hn h)) 33 [some (.ref 0), some (.int (nI m)), some (.int w), some (.int (nI b)), some (.int z), some (.int (nI on)), none] [] (I) (h) 0 0 := by
    intro m hnm hm1 hm2 hw1 k
    subst hnm
    induction k using Nat.strongRecOn with | _ k ih => ?_
    intro on b z hk hb
    have hw9 := (inv_wk hE).2
    refine g_iload_5 hX (dk DX11_busiest 20 rfl) ?_
    refine g_iload_1 hX (dk DX11_busiest 21 rfl) ?_
    refine g_icmp_ge (tgt := 81) hX (dk DX11_busiest 22 rfl) (by decide) (fun hc1 => ?_) (fun hc1 => ?_)
    · have hk0 := ct_end hk (by omega) hc1
      subst hk0
      obtain ⟨f1, f2⟩ := bsI_end hm1 hk hb
      have hin : ¬ ¬ (1 ≤ nI m ∧ nI m ≤ 200) := not_not_intro ⟨nI_le (a := 1) hm1 (by omega), nI_le (b := 200) hm2 (by decide)⟩
      refine g_iload_2 hX (dk DX11_busiest 42 rfl) ?_
      refine g_if_ne (tgt := 97) hX (dk DX11_busiest 43 rfl) (by decide) (fun hc2 => ?_) (fun hc2 => ?_)
      · refine g_iload_4 hX (dk DX11_busiest 50 rfl) ?_
        refine g_ireturn hX (dk DX11_busiest 51 rfl) rfl (rfl) (by decide) (by decide) ?_
        first
        | exact qZ_of (by unfold busiestS; rw [if_neg hw1, if_neg hin, if_pos (by assumption), tN_nI (by omega), f1]) hZ
        | exact qZ_of (by unfold busiestS; rw [if_neg hw1, if_neg hin, if_neg (by assumption), tN_nI (by omega), f1, f2]) hZ
      · refine g_aload_0 hX (dk DX11_busiest 44 rfl) ?_
        refine g_getRs (r := 1) hX (dk DX11_busiest 45 rfl) KX11 fX11_12 (by decide) rfl (CLt hH (q := 0) (by decide)) (CC hH 0 (by decide) rfl) (CR hH 0 0 1 (by decide)) ?_
        refine g_getIv hX (dk DX11_busiest 46 rfl) KX5 fX11_122 (by decide) rfl (CLt hH (q := 1) (by decide)) (CC hH 1 (by decide) rfl) (hY.2.1.1.2.1.trans (inv_wk hE).1) ?_
        refine g_iload_3 hX (dk DX11_busiest 47 rfl) ?_
        refine g_iadd hX (dk DX11_busiest 48 rfl) ?_
        refine g_nmI (nI (wk E + b)) (nI_add _ _) ?_
        refine g_goto (tgt := 99) hX (dk DX11_busiest 49 rfl) (by decide) ?_
        refine g_ireturn hX (dk DX11_busiest 51 rfl) rfl (rfl) (by decide) (by decide) ?_
        first
        | exact qZ_of (by unfold busiestS; rw [if_neg hw1, if_neg hin, if_pos (by assumption), tN_nI (by omega), f1]) hZ
        | exact qZ_of (by unfold busiestS; rw [if_neg hw1, if_neg hin, if_neg (by assumption), tN_nI (by omega), f1, f2]) hZ
    · obtain ⟨k, rfl⟩ := ct_go hk (by omega) hc1
      obtain ⟨x, hx, e1, e2⟩ := cm_e hE hY (w := wk E + on) (by omega)
      have hx10 := onesN_le x hx
      refine g_aload_0 hX (dk DX11_busiest 23 rfl) ?_
      refine g_getRs (r := 1) hX (dk DX11_busiest 24 rfl) KX11 fX11_12 (by decide) rfl (CLt hH (q := 0) (by decide)) (CC hH 0 (by decide) rfl) (CR hH 0 0 1 (by decide)) ?_
      refine g_aload_0 hX (dk DX11_busiest 25 rfl) ?_
      refine g_getRs (r := 1) hX (dk DX11_busiest 26 rfl) KX11 fX11_12 (by decide) rfl (CLt hH (q := 0) (by decide)) (CC hH 0 (by decide) rfl) (CR hH 0 0 1 (by decide)) ?_
      refine g_getIv hX (dk DX11_busiest 27 rfl) KX5 fX11_122 (by decide) rfl (CLt hH (q := 1) (by decide)) (CC hH 1 (by decide) rfl) (hY.2.1.1.2.1.trans (inv_wk hE).1) ?_
      refine g_iload_5 hX (dk DX11_busiest 28 rfl) ?_
      refine g_iadd hX (dk DX11_busiest 29 rfl) ?_
      refine g_nmI (nI (wk E + on)) (nI_add _ _) ?_
      refine g_c2I hX sX11_busiest_53 (by decide) (Nat.le_of_ble_eq_true rfl) (rc0 rfl (CLt hH (by decide)) (CC hH 1 (by decide) rfl)) (by decide) (by decide) (c_X5_coming hG hW) ?_
      refine g_nmI (nI x) e1 ?_
      refine g_c1q hX sX11_busiest_56 (by decide) (Nat.le_of_ble_eq_true rfl) rcN (by decide) (by decide) (c_J6_bitCount_0f7a4 hG) ?_
      rintro y I9 h9 ⟨hy, rfl, rfl⟩
      refine g_nmI (nI (onesN x)) (hy x hx rfl) ?_
      refine g_istore_6 hX (dk DX11_busiest 32 rfl) (by decide) rfl ?_
      refine g_iload_6 hX (dk DX11_busiest 33 rfl) ?_
      refine g_iload_4 hX (dk DX11_busiest 34 rfl) ?_
      refine g_icmp_le (tgt := 75) hX (dk DX11_busiest 35 rfl) (by decide) (fun hc3 => ?_) (fun hc3 => ?_)
      · refine g_iinc_5 hX (dk DX11_busiest 40 rfl) (nI_1 on) (by decide) rfl ?_
        refine g_goto (tgt := 33) hX (dk DX11_busiest 41 rfl) (by decide) ?_
        first
        | exact g_fgt (ih k (by omega) (on + 1) _ _ (by omega) (bsI_st hb e2 hx10 (by assumption))) ⟨rfl, rfl, rfl, rfl, rfl, rfl, trivial⟩
        | exact g_fgt (ih k (by omega) (on + 1) _ _ (by omega) (bsI_up hb e2 hx10 (by assumption))) ⟨rfl, rfl, rfl, rfl, rfl, rfl, trivial⟩
      · refine g_iload_6 hX (dk DX11_busiest 36 rfl) ?_
        refine g_istore_4 hX (dk DX11_busiest 37 rfl) (by decide) rfl ?_
        refine g_iload_5 hX (dk DX11_busiest 38 rfl) ?_
        refine g_istore_3 hX (dk DX11_busiest 39 rfl) (by decide) rfl ?_
        refine g_iinc_5 hX (dk DX11_busiest 40 rfl) (nI_1 on) (by decide) rfl ?_
        refine g_goto (tgt := 33) hX (dk DX11_busiest 41 rfl) (by decide) ?_
        first
        | exact g_fgt (ih k (by omega) (on + 1) _ _ (by omega) (bsI_st hb e2 hx10 (by assumption))) ⟨rfl, rfl, rfl, rfl, rfl, rfl, trivial⟩
        | exact g_fgt (ih k (by omega) (on + 1) _ _ (by omega) (bsI_up hb e2 hx10 (by assumption))) ⟨rfl, rfl, rfl, rfl, rfl, rfl, trivial⟩
  refine g_iload_2 hX (dk DX11_busiest 0 rfl) ?_
  refine g_iconst (v := 0) hX (dk DX11_busiest 1 rfl) (by decide) ?_
  refine g_iconst (v := 1) hX (dk DX11_busiest 2 rfl) (by decide) ?_
  refine g_c3I hX sX11_busiest_3 (by decide) (Nat.le_of_ble_eq_true rfl) rcN (by decide) (by decide) (c_X11_isNot hG ) ?_
  refine g_ifb_eq (tgt := 11) hX (dk DX11_busiest 4 rfl) (by decide) (fun hc1 => ?_) (fun hc1 => ?_)
  · refine g_iload_1 hX (dk DX11_busiest 7 rfl) ?_
    refine g_iconst (v := 1) hX (dk DX11_busiest 8 rfl) (by decide) ?_
    refine g_sipush (v := 200) hX (dk DX11_busiest 9 rfl) (by decide) ?_
    refine g_c3I hX sX11_busiest_16 (by decide) (Nat.le_of_ble_eq_true rfl) rcN (by decide) (by decide) (c_X11_isNot hG ) ?_
    refine g_ifb_eq (tgt := 25) hX (dk DX11_busiest 11 rfl) (by decide) (fun hc2 => ?_) (fun hc2 => ?_)
    · have hw1 := hc1
      obtain ⟨m, hm1, hm2, rfl⟩ := in1_of (c := 1) (b := 200) (by decide) (by decide) (Decidable.not_not.mp hc2)
      refine g_iconst (v := 0) hX (dk DX11_busiest 14 rfl) (by decide) ?_
      refine g_istore_3 hX (dk DX11_busiest 15 rfl) (by decide) rfl ?_
      refine g_iconst (v := -1) hX (dk DX11_busiest 16 rfl) (by decide) ?_
      refine g_istore_4 hX (dk DX11_busiest 17 rfl) (by decide) rfl ?_
      refine g_iconst (v := 0) hX (dk DX11_busiest 18 rfl) (by decide) ?_
      refine g_istore_5 hX (dk DX11_busiest 19 rfl) (by decide) rfl ?_
      exact g_fgt (loop33 m rfl hm1 hm2 hw1 m 0 0 (-1) (Nat.zero_add _) (Or.inl ⟨rfl, rfl, rfl, rfl⟩)) ⟨rfl, rfl, rfl, rfl, rfl, rfl, trivial⟩
    · refine g_bipush (v := -2) hX (dk DX11_busiest 12 rfl) (by decide) ?_
      refine g_ireturn hX (dk DX11_busiest 13 rfl) rfl (rfl) (by decide) (by decide) ?_
      exact qZ_of (by unfold busiestS; rw [if_neg (by assumption), if_pos (by assumption)]) hZ
  · refine g_iconst (v := -1) hX (dk DX11_busiest 5 rfl) (by decide) ?_
    refine g_ireturn hX (dk DX11_busiest 6 rfl) rfl (rfl) (by decide) (by decide) ?_
    exact qZ_of (by unfold busiestS; rw [if_pos (by assumption)]) hZ

set_option maxRecDepth 8000 in
set_option maxHeartbeats 4000000 in
theorem zx_all {G : Gt} (hG : Gok G) {I : It} {h : Ht}  {E : It} {L : Nat → Int64} (hE : Inv E) (hZ : RZ E L I h) {s : Int32} : Con G (6) 0 0 mX11_all [.ref 0, .int s] I h (qZ (allS E s) L (hn h)) := by
  refine con_intro (own := RX11) (lo0 := [some (.ref 0), some (.int s), none, none]) hG rfl pl_X11 (Nat.le_of_ble_eq_true rfl) rfl (fun X hX => ?_)
  have hY := hZ.1
  have hW := hY.wx hE
  have hH := hW.1
  have hc10 := hW.2.1.2
  have hcE := (inv_cnt hE).2
  have loop23 : 1 ≤ s → s ≤ bitI (nI (cnt E)) - 1 → ∀ (k on : Nat), k = 3601 - on → on ≤ 3700 → alR E s k on = alR E s 3601 0 → GG G (6) 0 0 X (qZ (allS E s) L (hn h)) 23 [some (.ref 0), some (.int s), some (.int (nI on)), none] [] (I) (h) 0 0 := by
    intro hs1 hs2 k
    induction k using Nat.strongRecOn with | _ k ih => ?_
    intro on hk h37 hv
    have hw9 := (inv_wk hE).2
    have hss : ¬ ¬ (1 ≤ s ∧ s ≤ bitI (E 0 0) - 1) := not_not_intro ⟨hs1, by rw [(inv_cnt hE).1]; exact hs2⟩
    refine g_iload_2 hX (dk DX11_all 14 rfl) ?_
    refine g_sipush (v := 3600) hX (dk DX11_all 15 rfl) (by decide) ?_
    refine g_icmp_gt (tgt := 61) hX (dk DX11_all 16 rfl) (by decide) (fun hc1 => ?_) (fun hc1 => ?_)
    · refine g_bipush (v := -5) hX (dk DX11_all 36 rfl) (by decide) ?_
      refine g_ireturn hX (dk DX11_all 37 rfl) rfl (rfl) (by decide) (by decide) ?_
      have hk0 : k = 0 := by have := lt_nI (c := 3600) (by decide) (by omega) hc1; omega
      subst hk0
      exact qZ_of (by unfold allS; rw [if_neg hss, ← hv]; rfl) hZ
    · have hon : on ≤ 3600 := (nI_leI (b := 3600) (by omega) (by decide)).mp (Int32.not_lt.mp hc1)
      obtain ⟨W, hW60, -, eW, hW0, hWj⟩ := lw_e hE hY (s := s) (w := wk E + on) (by omega) (cnt E) 0 0 (Nat.zero_add _) (by decide)
      refine g_aload_0 hX (dk DX11_all 17 rfl) ?_
      refine g_getRs (r := 1) hX (dk DX11_all 18 rfl) KX11 fX11_12 (by decide) rfl (CLt hH (q := 0) (by decide)) (CC hH 0 (by decide) rfl) (CR hH 0 0 1 (by decide)) ?_
      refine g_iload_1 hX (dk DX11_all 19 rfl) ?_
      refine g_aload_0 hX (dk DX11_all 20 rfl) ?_
      refine g_getRs (r := 1) hX (dk DX11_all 21 rfl) KX11 fX11_12 (by decide) rfl (CLt hH (q := 0) (by decide)) (CC hH 0 (by decide) rfl) (CR hH 0 0 1 (by decide)) ?_
      refine g_getIv hX (dk DX11_all 22 rfl) KX5 fX11_122 (by decide) rfl (CLt hH (q := 1) (by decide)) (CC hH 1 (by decide) rfl) (hY.2.1.1.2.1.trans (inv_wk hE).1) ?_
      refine g_iload_2 hX (dk DX11_all 23 rfl) ?_
      refine g_iadd hX (dk DX11_all 24 rfl) ?_
      refine g_nmI (nI (wk E + on)) (nI_add _ _) ?_
      refine g_c3I hX sX11_all_44 (by decide) (Nat.le_of_ble_eq_true rfl) (rc0 rfl (CLt hH (by decide)) (CC hH 1 (by decide) rfl)) (by decide) (by decide) (c_X5_longestWait hG hW) ?_
      refine g_nmI (nI W) (by rw [hY.cn]; exact eW) ?_
      refine g_istore_3 hX (dk DX11_all 26 rfl) (by decide) rfl ?_
      refine g_iload_3 hX (dk DX11_all 27 rfl) ?_
      refine g_if_gt (tgt := 54) hX (dk DX11_all 28 rfl) (by decide) (fun hc2 => ?_) (fun hc2 => ?_)
      · have hWp : 0 < W := by
          rcases Nat.eq_zero_or_pos W with z | z
          · rw [z] at hc2; exact absurd hc2 (by decide)
          · exact z
        refine g_iload_2 hX (dk DX11_all 31 rfl) ?_
        refine g_iload_3 hX (dk DX11_all 32 rfl) ?_
        refine g_iadd hX (dk DX11_all 33 rfl) ?_
        refine g_nmI (nI (on + W)) (nI_add _ _) ?_
        refine g_istore_2 hX (dk DX11_all 34 rfl) (by decide) rfl ?_
        refine g_goto (tgt := 23) hX (dk DX11_all 35 rfl) (by decide) ?_
        refine g_fgt (ih (3601 - (on + W)) (by omega) (on + W) rfl (by omega) ?_) ⟨rfl, rfl, rfl, trivial⟩
        rw [← hv]
        by_cases hle : on + W ≤ 3601
        · rw [← alR_skip W (3601 - (on + W)) on (fun j hj => hWj j (Nat.zero_le _) hj), show 3601 - (on + W) + W = k by omega]
        · rw [show 3601 - (on + W) = 0 by omega, alR_none k on (fun j hj => hWj j (Nat.zero_le _) (by omega))]; rfl
      · have hW00 : W = 0 := by
          rcases Nat.eq_zero_or_pos W with z | z
          · exact z
          · exact absurd (nI_lt (a := 0) z (by omega)) hc2
        obtain ⟨k, rfl⟩ : ∃ z, k = z + 1 := ⟨k - 1, by omega⟩
        refine g_iload_2 hX (dk DX11_all 29 rfl) ?_
        refine g_ireturn hX (dk DX11_all 30 rfl) rfl (rfl) (by decide) (by decide) ?_
        exact qZ_of (by unfold allS; rw [if_neg hss, ← hv, alR_s, if_pos (hW0 hW00)]) hZ
  refine g_iload_1 hX (dk DX11_all 0 rfl) ?_
  refine g_if_eq (tgt := 18) hX (dk DX11_all 1 rfl) (by decide) (fun hc1 => ?_) (fun hc1 => ?_)
  · refine g_bipush (v := -2) hX (dk DX11_all 10 rfl) (by decide) ?_
    refine g_ireturn hX (dk DX11_all 11 rfl) rfl (rfl) (by decide) (by decide) ?_
    first
    | exact qZ_of (by unfold allS; rw [if_pos (fun z => by rw [show s = 0 by assumption] at z; exact absurd z.1 (by decide))]) hZ
    | (have hok : ¬ s &&& (bitI (I 1 2) - 1 ^^^ -1) = 0 := by assumption
       rw [show I 1 2 = nI (cnt E) from hY.2.1.1.1.trans (inv_cnt hE).1] at hok
       exact qZ_of (by unfold allS; rw [if_pos (fun z => hok ((all_ok (inv_cnt hE).2).mpr ⟨Int32.le_trans (by decide) z.1, by rw [(inv_cnt hE).1] at z; exact z.2⟩))]) hZ)
  · refine g_iload_1 hX (dk DX11_all 2 rfl) ?_
    refine g_aload_0 hX (dk DX11_all 3 rfl) ?_
    refine g_getRs (r := 1) hX (dk DX11_all 4 rfl) KX11 fX11_12 (by decide) rfl (CLt hH (q := 0) (by decide)) (CC hH 0 (by decide) rfl) (CR hH 0 0 1 (by decide)) ?_
    refine g_c1I hX sX11_all_9 (by decide) (Nat.le_of_ble_eq_true rfl) (rc0 rfl (CLt hH (by decide)) (CC hH 1 (by decide) rfl)) (by decide) (by decide) (c_X5_everyDoing hG hW) ?_
    refine g_iconst (v := -1) hX (dk DX11_all 6 rfl) (by decide) ?_
    refine g_ixor hX (dk DX11_all 7 rfl) ?_
    refine g_iand hX (dk DX11_all 8 rfl) ?_
    refine g_if_eq (tgt := 21) hX (dk DX11_all 9 rfl) (by decide) (fun hc2 => ?_) (fun hc2 => ?_)
    · have h0 : ¬ s = 0 := by first | assumption | (intro z; exact absurd z hc1)
      have hok := hc2
      have ecn : I 1 2 = nI (cnt E) := hY.2.1.1.1.trans (inv_cnt hE).1
      rw [ecn] at hok
      have hss := (all_ok (inv_cnt hE).2).mp hok
      have hs1 : 1 ≤ s := by
        obtain ⟨j, hj, rfl⟩ := nI_of (Int32.not_lt.mpr hss.1)
        have : j ≠ 0 := fun z => h0 (by rw [z]; rfl)
        exact nI_le (a := 1) (by omega) hj
      refine g_iconst (v := 0) hX (dk DX11_all 12 rfl) (by decide) ?_
      refine g_istore_2 hX (dk DX11_all 13 rfl) (by decide) rfl ?_
      exact g_fgt (loop23 hs1 hss.2 3601 0 rfl (by decide) rfl) ⟨rfl, rfl, rfl, trivial⟩
    · refine g_bipush (v := -2) hX (dk DX11_all 10 rfl) (by decide) ?_
      refine g_ireturn hX (dk DX11_all 11 rfl) rfl (rfl) (by decide) (by decide) ?_
      first
      | exact qZ_of (by unfold allS; rw [if_pos (fun z => by rw [show s = 0 by assumption] at z; exact absurd z.1 (by decide))]) hZ
      | (have hok : ¬ s &&& (bitI (I 1 2) - 1 ^^^ -1) = 0 := by assumption
         rw [show I 1 2 = nI (cnt E) from hY.2.1.1.1.trans (inv_cnt hE).1] at hok
         exact qZ_of (by unfold allS; rw [if_pos (fun z => hok ((all_ok (inv_cnt hE).2).mpr ⟨Int32.le_trans (by decide) z.1, by rw [(inv_cnt hE).1] at z; exact z.2⟩))]) hZ)

