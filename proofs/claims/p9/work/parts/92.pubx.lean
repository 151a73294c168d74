set_option maxRecDepth 8000 in
set_option maxHeartbeats 4000000 in
theorem x_all {G : Gt} (hG : Gok G) {I : It} {h : Ht}  {E : It} {L : Nat → Int64} (hE : Inv E) (hY : RY E L I h) {s : Int32} : Con G (6) 0 0 mX11_all [.ref 0, .int s] I h (qX (allS E s) L (hn h)) := by
  refine con_intro (own := RX11) (lo0 := [some (.ref 0), some (.int s), none, none]) hG rfl pl_X11 (Nat.le_of_ble_eq_true rfl) rfl (fun X hX => ?_)
  have hW := hY.wx hE
  have hH := hW.1
  have hc10 := hW.2.1.2
  have loop23 : 1 ≤ s → s ≤ bitI (nI (cnt E)) - 1 → ∀ (k on : Nat), k = 3601 - on → on ≤ 3700 → alR E s k on = alR E s 3601 0 → GG G (6) 0 0 X (qX (allS E s) L (hn h)) 23 [some (.ref 0), some (.int s), some (.int (nI on)), none] [] (I) (h) 0 0 := by
    intro hs1 hs2 k
    induction k using Nat.strongRecOn with | _ k ih => ?_
    intro on hk h37 hv
    have hw9 := (inv_wk hE).2
    have hss : ¬ ¬ (1 ≤ s ∧ s ≤ bitI (E 0 0) - 1) := not_not_intro ⟨hs1, by rw [(inv_cnt hE).1]; exact hs2⟩
    refine g_iload_2 hX (dk DX11_all 14 rfl) ?_
    refine g_sipush (v := 3600) hX (dk DX11_all 15 rfl) (by decide) ?_
    refine g_icmp_gt (tgt := 61) hX (dk DX11_all 16 rfl) (by decide) (fun hc1 => ?_) (fun hc1 => ?_)
    · refine g_bipush (v := -5) hX (dk DX11_all 36 rfl) (by decide) ?_
      refine g_ireturn hX (dk DX11_all 37 rfl) rfl (rfl) (by decide) (by decide) ?_
      have hk0 : k = 0 := by have := lt_nI (c := 3600) (by decide) (by omega) hc1; omega
      subst hk0
      exact qX_of (by unfold allS; rw [if_neg hss, ← hv]; rfl) hY
    · have hon : on ≤ 3600 := (nI_leI (b := 3600) (by omega) (by decide)).mp (Int32.not_lt.mp hc1)
      obtain ⟨W, hW60, -, eW, hW0, hWj⟩ := lw_e hE hY (s := s) (w := wk E + on) (by omega) (cnt E) 0 0 (Nat.zero_add _) (by decide)
      refine g_aload_0 hX (dk DX11_all 17 rfl) ?_
      refine g_getRs (r := 1) hX (dk DX11_all 18 rfl) KX11 fX11_12 (by decide) rfl (CLt hH (q := 0) (by decide)) (CC hH 0 (by decide) rfl) (CR hH 0 0 1 (by decide)) ?_
      refine g_iload_1 hX (dk DX11_all 19 rfl) ?_
      refine g_aload_0 hX (dk DX11_all 20 rfl) ?_
      refine g_getRs (r := 1) hX (dk DX11_all 21 rfl) KX11 fX11_12 (by decide) rfl (CLt hH (q := 0) (by decide)) (CC hH 0 (by decide) rfl) (CR hH 0 0 1 (by decide)) ?_
      refine g_getIv hX (dk DX11_all 22 rfl) KX5 fX11_122 (by decide) rfl (CLt hH (q := 1) (by decide)) (CC hH 1 (by decide) rfl) (hY.2.1.1.2.1.trans (inv_wk hE).1) ?_
      refine g_iload_2 hX (dk DX11_all 23 rfl) ?_
      refine g_iadd hX (dk DX11_all 24 rfl) ?_
      refine g_nmI (nI (wk E + on)) (nI_add _ _) ?_
      refine g_c3I hX sX11_all_44 (by decide) (Nat.le_of_ble_eq_true rfl) (rc0 rfl (CLt hH (by decide)) (CC hH 1 (by decide) rfl)) (by decide) (by decide) (c_X5_longestWait hG hW) ?_
      refine g_nmI (nI W) (by rw [hY.cn]; exact eW) ?_
      refine g_istore_3 hX (dk DX11_all 26 rfl) (by decide) rfl ?_
      refine g_iload_3 hX (dk DX11_all 27 rfl) ?_
      refine g_if_gt (tgt := 54) hX (dk DX11_all 28 rfl) (by decide) (fun hc2 => ?_) (fun hc2 => ?_)
      · have hWp : 0 < W := by
          rcases Nat.eq_zero_or_pos W with z | z
          · rw [z] at hc2; exact absurd hc2 (by decide)
          · exact z
        refine g_iload_2 hX (dk DX11_all 31 rfl) ?_
        refine g_iload_3 hX (dk DX11_all 32 rfl) ?_
        refine g_iadd hX (dk DX11_all 33 rfl) ?_
        refine g_nmI (nI (on + W)) (nI_add _ _) ?_
        refine g_istore_2 hX (dk DX11_all 34 rfl) (by decide) rfl ?_
        refine g_goto (tgt := 23) hX (dk DX11_all 35 rfl) (by decide) ?_
        refine g_fgt (ih (3601 - (on + W)) (by omega) (on + W) rfl (by omega) ?_) ⟨rfl, rfl, rfl, trivial⟩
        rw [← hv]
        by_cases hle : on + W ≤ 3601
        · rw [← alR_skip W (3601 - (on + W)) on (fun j hj => hWj j (Nat.zero_le _) hj), show 3601 - (on + W) + W = k by omega]
        · rw [show 3601 - (on + W) = 0 by omega, alR_none k on (fun j hj => hWj j (Nat.zero_le _) (by omega))]; rfl
      · have hW00 : W = 0 := by
          rcases Nat.eq_zero_or_pos W with z | z
          · exact z
          · exact absurd (nI_lt (a := 0) z (by omega)) hc2
        obtain ⟨k, rfl⟩ : ∃ z, k = z + 1 := ⟨k - 1, by omega⟩
        refine g_iload_2 hX (dk DX11_all 29 rfl) ?_
        refine g_ireturn hX (dk DX11_all 30 rfl) rfl (rfl) (by decide) (by decide) ?_
        exact qX_of (by unfold allS; rw [if_neg hss, ← hv, alR_s, if_pos (hW0 hW00)]) hY
  refine g_iload_1 hX (dk DX11_all 0 rfl) ?_
  refine g_if_eq (tgt := 18) hX (dk DX11_all 1 rfl) (by decide) (fun hc1 => ?_) (fun hc1 => ?_)
  · refine g_bipush (v := -2) hX (dk DX11_all 10 rfl) (by decide) ?_
    refine g_ireturn hX (dk DX11_all 11 rfl) rfl (rfl) (by decide) (by decide) ?_
    first
    | exact qX_of (by unfold allS; rw [if_pos (fun z => by rw [show s = 0 by assumption] at z; exact absurd z.1 (by decide))]) hY
    | (have hok : ¬ s &&& (bitI (I 1 2) - 1 ^^^ -1) = 0 := by assumption
       rw [show I 1 2 = nI (cnt E) from hY.2.1.1.1.trans (inv_cnt hE).1] at hok
       exact qX_of (by unfold allS; rw [if_pos (fun z => hok ((all_ok (inv_cnt hE).2).mpr ⟨Int32.le_trans (by decide) z.1, by rw [(inv_cnt hE).1] at z; exact z.2⟩))]) hY)
  · refine g_iload_1 hX (dk DX11_all 2 rfl) ?_
    refine g_aload_0 hX (dk DX11_all 3 rfl) ?_
    refine g_getRs (r := 1) hX (dk DX11_all 4 rfl) KX11 fX11_12 (by decide) rfl (CLt hH (q := 0) (by decide)) (CC hH 0 (by decide) rfl) (CR hH 0 0 1 (by decide)) ?_
    refine g_c1I hX sX11_all_9 (by decide) (Nat.le_of_ble_eq_true rfl) (rc0 rfl (CLt hH (by decide)) (CC hH 1 (by decide) rfl)) (by decide) (by decide) (c_X5_everyDoing hG hW) ?_
    refine g_iconst (v := -1) hX (dk DX11_all 6 rfl) (by decide) ?_
    refine g_ixor hX (dk DX11_all 7 rfl) ?_
    refine g_iand hX (dk DX11_all 8 rfl) ?_
    refine g_if_eq (tgt := 21) hX (dk DX11_all 9 rfl) (by decide) (fun hc2 => ?_) (fun hc2 => ?_)
    · have h0 : ¬ s = 0 := by first | assumption | (intro z; exact absurd z hc1)
      have hok := hc2
      have ecn : I 1 2 = nI (cnt E) := hY.2.1.1.1.trans (inv_cnt hE).1
      rw [ecn] at hok
      have hss := (all_ok (inv_cnt hE).2).mp hok
      have hs1 : 1 ≤ s := by
        obtain ⟨j, hj, rfl⟩ := nI_of (Int32.not_lt.mpr hss.1)
        have : j ≠ 0 := fun z => h0 (by rw [z]; rfl)
        exact nI_le (a := 1) (by omega) hj
      refine g_iconst (v := 0) hX (dk DX11_all 12 rfl) (by decide) ?_
      refine g_istore_2 hX (dk DX11_all 13 rfl) (by decide) rfl ?_
      exact g_fgt (loop23 hs1 hss.2 3601 0 rfl (by decide) rfl) ⟨rfl, rfl, rfl, trivial⟩
    · refine g_bipush (v := -2) hX (dk DX11_all 10 rfl) (by decide) ?_
      refine g_ireturn hX (dk DX11_all 11 rfl) rfl (rfl) (by decide) (by decide) ?_
      first
      | exact qX_of (by unfold allS; rw [if_pos (fun z => by rw [show s = 0 by assumption] at z; exact absurd z.1 (by decide))]) hY
      | (have hok : ¬ s &&& (bitI (I 1 2) - 1 ^^^ -1) = 0 := by assumption
         rw [show I 1 2 = nI (cnt E) from hY.2.1.1.1.trans (inv_cnt hE).1] at hok
         exact qX_of (by unfold allS; rw [if_pos (fun z => hok ((all_ok (inv_cnt hE).2).mpr ⟨Int32.le_trans (by decide) z.1, by rw [(inv_cnt hE).1] at z; exact z.2⟩))]) hY)

