set_option maxRecDepth 8000 in
set_option maxHeartbeats 4000000 in
theorem x_chance {G : Gt} (hG : Gok G) {I : It} {h : Ht}  {E : It} {L : Nat → Int64} (hE : Inv E) (hY : RY E L I h) {n p : Int32} : Con G (5) 0 0 mX11_chance [.ref 0, .int n, .int p] I h (qXL (chanceF E n p) E L (hn h)) := by
  refine con_intro (own := RX11) (lo0 := [some (.ref 0), some (.int n), some (.int p), none, none, none, none, none, none]) hG rfl pl_X11 (Nat.le_of_ble_eq_true rfl) rfl (fun X hX => ?_)
  have hW := hY.wx hE
  have hH := hW.1
  have hc10 := hW.2.1.2
  have loop31 : ∀ m, n = nI m → m ≤ 60 → (0 ≤ p ∧ p ≤ 1) → ∀ (k d a b : Nat), d + k = cnt E → a ≤ b → a ≤ 10 ^ d → (1 ≤ b ∧ b ≤ 10 ^ d) → chR E m k d a b = chR E m (cnt E) 0 1 1 → GG G (5) 0 0 X (qXL (chanceF E n p) E L (hn h)) 31 [some (.ref 0), some (.int (nI m)), some (.int p), some (.long (lN a)), none, some (.long (lN b)), none, some (.int (nI d)), none] [] (I) (h) 0 0 := by
    intro m hnm hm60 hp1 k
    subst hnm
    have hin : 0 ≤ nI m ∧ nI m ≤ 60 := ⟨nI_pos' (by omega), (nI_leI (b := 60) (by omega) (by decide)).mpr hm60⟩
    induction k using Nat.strongRecOn with | _ k ih => ?_
    intro d a b hk hab ha hb hv
    refine g_iload_7 hX (dk DX11_chance_0 18 rfl) ?_
    refine g_aload_0 hX (dk DX11_chance_0 19 rfl) ?_
    refine g_getRs (r := 1) hX (dk DX11_chance_0 20 rfl) KX11 fX11_12 (by decide) rfl (CLt hH (q := 0) (by decide)) (CC hH 0 (by decide) rfl) (CR hH 0 0 1 (by decide)) ?_
    refine g_getIv hX (dk DX11_chance_0 21 rfl) KX5 fX11_72 (by decide) rfl (CLt hH (q := 1) (by decide)) (CC hH 1 (by decide) rfl) (hY.2.1.1.1.trans (inv_cnt hE).1) ?_
    refine g_icmp_ge (tgt := 118) hX (dk DX11_chance_0 22 rfl) (by decide) (fun hc1 => ?_) (fun hc1 => ?_)
    · have hg : 0 < Nat.gcd a b := Nat.gcd_pos_of_pos_right _ hb.1
      have hg2 : Nat.gcd a b < 2 ^ 63 := Nat.lt_of_le_of_lt (Nat.gcd_le_right _ hb.1) (ch_63 hb.2 (by have := (inv_cnt hE).2; omega))
      have hk0 := cl_end hk (by have := (inv_cnt hE).2; omega) hc1
      subst hk0
      have hcE := (inv_cnt hE).2
      have hb34 : b < 2 ^ 34 := Nat.lt_of_le_of_lt (Nat.le_trans hb.2 (Nat.pow_le_pow_right (by decide) (show d ≤ 10 by omega))) (by decide)
      refine g_lload_3 hX (dk DX11_chance_0 58 rfl) ?_
      refine g_lload_5 hX (dk DX11_chance_0 59 rfl) ?_
      refine g_c2L hX sX11_chance_121 (by decide) (Nat.le_of_ble_eq_true rfl) rcN (by decide) (by decide) (c_X11_commonDivisor hG hab hb.1 hb34) ?_
      refine g_lstore_7 hX (dk DX11_chance_1 1 rfl) (by decide) rfl ?_
      refine g_iload_2 hX (dk DX11_chance_1 2 rfl) ?_
      refine g_if_ne (tgt := 134) hX (dk DX11_chance_1 3 rfl) (by decide) (fun hc2 => ?_) (fun hc2 => ?_)
      · refine g_lload_5 hX (dk DX11_chance_1 6 rfl) ?_
        refine g_lload_7 hX (dk DX11_chance_1 7 rfl) ?_
        refine g_ldiv hX (dk DX11_chance_1 8 rfl) (lN_ne0 hg hg2) ?_
        refine g_lreturn hX (dk DX11_chance_1 9 rfl) rfl (by decide) (by decide) ?_
        have hch : chanceF E (nI m) p = if p = 0 then lN (a / Nat.gcd a b) else lN (b / Nat.gcd a b) := by
          unfold chanceF
          rw [if_neg (not_not_intro hin), if_neg (not_not_intro hp1), tN_nI (by omega), ← hv]
          rfl
        first
        | exact qXL_of (by rw [hch, if_pos (by assumption)]; exact pk_lDiv (ch_63 ha (by omega)) hg hg2) hY
        | exact qXL_of (by rw [hch, if_neg (by assumption)]; exact pk_lDiv (ch_63 hb.2 (by omega)) hg hg2) hY
      · refine g_lload_3 hX (dk DX11_chance_1 4 rfl) ?_
        refine g_goto (tgt := 136) hX (dk DX11_chance_1 5 rfl) (by decide) ?_
        refine g_lload_7 hX (dk DX11_chance_1 7 rfl) ?_
        refine g_ldiv hX (dk DX11_chance_1 8 rfl) (lN_ne0 hg hg2) ?_
        refine g_lreturn hX (dk DX11_chance_1 9 rfl) rfl (by decide) (by decide) ?_
        have hch : chanceF E (nI m) p = if p = 0 then lN (a / Nat.gcd a b) else lN (b / Nat.gcd a b) := by
          unfold chanceF
          rw [if_neg (not_not_intro hin), if_neg (not_not_intro hp1), tN_nI (by omega), ← hv]
          rfl
        first
        | exact qXL_of (by rw [hch, if_pos (by assumption)]; exact pk_lDiv (ch_63 ha (by omega)) hg hg2) hY
        | exact qXL_of (by rw [hch, if_neg (by assumption)]; exact pk_lDiv (ch_63 hb.2 (by omega)) hg hg2) hY
    · have hcE := (inv_cnt hE).2
      obtain ⟨k, rfl⟩ := cl_go hk (by omega) hc1
      have hd : d < cnt E := by omega
      have hd10 : d < 10 := by omega
      have hcd : d < cN I := by rw [hY.cn]; exact hd
      obtain ⟨g1, g2, g3, g4, g5, g6, g7, g8, g9, g10⟩ := hY.d hd
      have hw9 := (inv_wk hE).2
      refine g_aload_0 hX (dk DX11_chance_0 23 rfl) ?_
      refine g_getRs (r := 1) hX (dk DX11_chance_0 24 rfl) KX11 fX11_12 (by decide) rfl (CLt hH (q := 0) (by decide)) (CC hH 0 (by decide) rfl) (CR hH 0 0 1 (by decide)) ?_
      refine g_iload_7 hX (dk DX11_chance_0 25 rfl) ?_
      refine g_c2R hX sX11_chance_49 (by decide) (Nat.le_of_ble_eq_true rfl) (rc0 rfl (CLt hH (by decide)) (CC hH 1 (by decide) rfl)) (by decide) (by decide) (c_X5_find hG hW hcd) ?_
      refine g_astore_8 hX (dk DX11_chance_0 27 rfl) (by decide) rfl ?_
      refine g_aload_8 hX (dk DX11_chance_0 28 rfl) ?_
      refine g_ifnullR hX (dk DX11_chance_0 29 rfl) ?_
      refine g_aload_0 hX (dk DX11_chance_0 30 rfl) ?_
      refine g_getRs (r := 1) hX (dk DX11_chance_0 31 rfl) KX11 fX11_12 (by decide) rfl (CLt hH (q := 0) (by decide)) (CC hH 0 (by decide) rfl) (CR hH 0 0 1 (by decide)) ?_
      refine g_getIv hX (dk DX11_chance_0 32 rfl) KX5 fX11_109 (by decide) rfl (CLt hH (q := 1) (by decide)) (CC hH 1 (by decide) rfl) (hY.2.1.1.2.2.1) ?_
      refine g_iload_7 hX (dk DX11_chance_0 33 rfl) ?_
      refine g_c2I hX sX11_chance_68 (by decide) (Nat.le_of_ble_eq_true rfl) rcN (by decide) (by decide) (c_X11_bit hG) ?_
      refine g_if_ne (tgt := 112) hX (dk DX11_chance_0 35 rfl) (by decide) (fun hc3 => ?_) (fun hc3 => ?_)
      · refine g_iinc_7 hX (dk DX11_chance_0 56 rfl) (nI_1 d) (by decide) rfl ?_
        refine g_goto (tgt := 31) hX (dk DX11_chance_0 57 rfl) (by decide) ?_
        first
        | exact g_fgt (ih k (by omega) (d + 1) _ _ (by omega) (Nat.mul_le_mul hab ho) hbd.1 hbd.2 (by rw [← hv, hst])) ⟨rfl, rfl, rfl, rfl, rfl, rfl, trivial⟩
        | exact g_fgt (ih k (by omega) (d + 1) _ _ (by omega) hab (ch_up ha) ⟨hb.1, ch_up hb.2⟩ (by rw [← hv, chR_s, if_neg hst0, if_neg (fun z => (show ¬ nI (wu E d (wk E)) < nI m from Int32.not_lt.mpr (by assumption)) ((comIn_e hE hd m (by omega)).mp z))])) ⟨rfl, rfl, rfl, rfl, rfl, rfl, trivial⟩
        | exact g_fgt (ih k (by omega) (d + 1) _ _ (by omega) hab (ch_up ha) ⟨hb.1, ch_up hb.2⟩ (by rw [← hv, chR_s, if_pos ((has_01 _ _).resolve_left (by assumption))])) ⟨rfl, rfl, rfl, rfl, rfl, rfl, trivial⟩
      · have hst0 : ¬ hasI (E 0 6) (nI d) = 1 := fun z => by rw [show hasI (E 0 6) (nI d) = 0 by first | assumption | exact Decidable.not_not.mp hc3] at z; exact absurd z (by decide)
        refine g_aload_8 hX (dk DX11_chance_0 36 rfl) ?_
        refine g_aload_0 hX (dk DX11_chance_0 37 rfl) ?_
        refine g_getRs (r := 1) hX (dk DX11_chance_0 38 rfl) KX11 fX11_12 (by decide) rfl (CLt hH (q := 0) (by decide)) (CC hH 0 (by decide) rfl) (CR hH 0 0 1 (by decide)) ?_
        refine g_getIv hX (dk DX11_chance_0 39 rfl) KX5 fX11_122 (by decide) rfl (CLt hH (q := 1) (by decide)) (CC hH 1 (by decide) rfl) (hY.2.1.1.2.1.trans (inv_wk hE).1) ?_
        refine g_c2I hX (sD_X11_chance_83 _ (by rw [g4]; exact kcl_dc _)) (by decide) (Nat.le_of_ble_eq_true rfl) (rc0 rfl g3 rfl) (by decide) (by decide) (cD_weeksUntil hG g3 (by rw [g4]; exact kcl_dc _) (by exact (hW.2.2.1 d hcd).2.2.2.2.2)) ?_
        refine g_nmI (nI (wu E d (wk E))) (by rw [g7, g8]; exact (wu_fm hE hd (by omega)).1) ?_
        refine g_iload_1 hX (dk DX11_chance_0 41 rfl) ?_
        refine g_icmp_ge (tgt := 112) hX (dk DX11_chance_0 42 rfl) (by decide) (fun hc4 => ?_) (fun hc4 => ?_)
        · refine g_iinc_7 hX (dk DX11_chance_0 56 rfl) (nI_1 d) (by decide) rfl ?_
          refine g_goto (tgt := 31) hX (dk DX11_chance_0 57 rfl) (by decide) ?_
          first
          | exact g_fgt (ih k (by omega) (d + 1) _ _ (by omega) (Nat.mul_le_mul hab ho) hbd.1 hbd.2 (by rw [← hv, hst])) ⟨rfl, rfl, rfl, rfl, rfl, rfl, trivial⟩
          | exact g_fgt (ih k (by omega) (d + 1) _ _ (by omega) hab (ch_up ha) ⟨hb.1, ch_up hb.2⟩ (by rw [← hv, chR_s, if_neg hst0, if_neg (fun z => (show ¬ nI (wu E d (wk E)) < nI m from Int32.not_lt.mpr (by assumption)) ((comIn_e hE hd m (by omega)).mp z))])) ⟨rfl, rfl, rfl, rfl, rfl, rfl, trivial⟩
          | exact g_fgt (ih k (by omega) (d + 1) _ _ (by omega) hab (ch_up ha) ⟨hb.1, ch_up hb.2⟩ (by rw [← hv, chR_s, if_pos ((has_01 _ _).resolve_left (by assumption))])) ⟨rfl, rfl, rfl, rfl, rfl, rfl, trivial⟩
        · have hst : chR E m (k + 1) d a b = chR E m k (d + 1) (a * tN (E 7 d)) (b * 10) := by rw [chR_s, if_neg hst0, if_pos ((comIn_e hE hd m (by omega)).mpr (Int32.not_le.mp hc4))]
          obtain ⟨-, -, -, -, -, o, ho, eo⟩ := inv_d hE hd
          have ht : tN (E 7 d) = o := by rw [eo, tN_nI (by omega)]
          rw [ht] at hst
          have hbd := ch_bd ha hb ho
          refine g_lload_3 hX (dk DX11_chance_0 43 rfl) ?_
          refine g_aload_0 hX (dk DX11_chance_0 44 rfl) ?_
          refine g_getRs (r := 1) hX (dk DX11_chance_0 45 rfl) KX11 fX11_12 (by decide) rfl (CLt hH (q := 0) (by decide)) (CC hH 0 (by decide) rfl) (CR hH 0 0 1 (by decide)) ?_
          refine g_getRs (r := 3) hX (dk DX11_chance_0 46 rfl) KX5 fX11_129 (by decide) rfl (CLt hH (q := 1) (by decide)) (CC hH 1 (by decide) rfl) (CR hH 1 1 3 (by decide)) ?_
          refine g_iload_7 hX (dk DX11_chance_0 47 rfl) ?_
          refine v_iaload hX (dk DX11_chance_0 48 rfl) (CLt hH (q := 3) (by decide)) (CS hH 3 (by decide) rfl) (⟨rfl, hd10, by decide⟩) (hY.2.1.2.1 d hd10) ?_
          refine g_i2l hX (dk DX11_chance_0 49 rfl) ?_
          refine g_lmul hX (dk DX11_chance_0 50 rfl) ?_
          rw [eo, nI_l (by omega), lN_mul]
          refine g_lstore_3 hX (dk DX11_chance_0 51 rfl) (by decide) rfl ?_
          refine g_lload_5 hX (dk DX11_chance_0 52 rfl) ?_
          refine g_ldc2_w (v := 10) hX (dk DX11_chance_0 53 rfl) (tg_4 80 rfl rfl) ?_
          refine g_lmul hX (dk DX11_chance_0 54 rfl) ?_
          rw [show (10 : Int64) = lN 10 from rfl, lN_mul]
          refine g_lstore_5 hX (dk DX11_chance_0 55 rfl) (by decide) rfl ?_
          refine g_iinc_7 hX (dk DX11_chance_0 56 rfl) (nI_1 d) (by decide) rfl ?_
          refine g_goto (tgt := 31) hX (dk DX11_chance_0 57 rfl) (by decide) ?_
          first
          | exact g_fgt (ih k (by omega) (d + 1) _ _ (by omega) (Nat.mul_le_mul hab ho) hbd.1 hbd.2 (by rw [← hv, hst])) ⟨rfl, rfl, rfl, rfl, rfl, rfl, trivial⟩
          | exact g_fgt (ih k (by omega) (d + 1) _ _ (by omega) hab (ch_up ha) ⟨hb.1, ch_up hb.2⟩ (by rw [← hv, chR_s, if_neg hst0, if_neg (fun z => (show ¬ nI (wu E d (wk E)) < nI m from Int32.not_lt.mpr (by assumption)) ((comIn_e hE hd m (by omega)).mp z))])) ⟨rfl, rfl, rfl, rfl, rfl, rfl, trivial⟩
          | exact g_fgt (ih k (by omega) (d + 1) _ _ (by omega) hab (ch_up ha) ⟨hb.1, ch_up hb.2⟩ (by rw [← hv, chR_s, if_pos ((has_01 _ _).resolve_left (by assumption))])) ⟨rfl, rfl, rfl, rfl, rfl, rfl, trivial⟩
  refine g_iload_1 hX (dk DX11_chance_0 0 rfl) ?_
  refine g_iconst (v := 0) hX (dk DX11_chance_0 1 rfl) (by decide) ?_
  refine g_bipush (v := 60) hX (dk DX11_chance_0 2 rfl) (by decide) ?_
  refine g_c3I hX sX11_chance_4 (by decide) (Nat.le_of_ble_eq_true rfl) rcN (by decide) (by decide) (c_X11_isNot hG ) ?_
  refine g_ifb_ne (tgt := 19) hX (dk DX11_chance_0 4 rfl) (by decide) (fun hc1 => ?_) (fun hc1 => ?_)
  · refine g_ldc2_w (v := -9223372036854775808) hX (dk DX11_chance_0 10 rfl) (tg_4 79 rfl rfl) ?_
    refine g_lreturn hX (dk DX11_chance_0 11 rfl) rfl (by decide) (by decide) ?_
    first
    | exact qXL_of (by unfold chanceF; rw [if_pos (by assumption)]; rfl) hY
    | exact qXL_of (by unfold chanceF; rw [if_neg (show ¬ ¬ (0 ≤ n ∧ n ≤ 60) by assumption), if_pos (by assumption)]; rfl) hY
  · refine g_iload_2 hX (dk DX11_chance_0 5 rfl) ?_
    refine g_iconst (v := 0) hX (dk DX11_chance_0 6 rfl) (by decide) ?_
    refine g_iconst (v := 1) hX (dk DX11_chance_0 7 rfl) (by decide) ?_
    refine g_c3I hX sX11_chance_13 (by decide) (Nat.le_of_ble_eq_true rfl) rcN (by decide) (by decide) (c_X11_isNot hG ) ?_
    refine g_ifb_eq (tgt := 23) hX (dk DX11_chance_0 9 rfl) (by decide) (fun hc2 => ?_) (fun hc2 => ?_)
    · have hp1 := Decidable.not_not.mp hc2
      have hn1 := Decidable.not_not.mp hc1
      obtain ⟨m, hm60, rfl⟩ := in_of (b := 60) (by decide) hn1
      refine g_lconst (v := 1) hX (dk DX11_chance_0 12 rfl) (by decide) ?_
      refine g_lstore_3 hX (dk DX11_chance_0 13 rfl) (by decide) rfl ?_
      refine g_lconst (v := 1) hX (dk DX11_chance_0 14 rfl) (by decide) ?_
      refine g_lstore_5 hX (dk DX11_chance_0 15 rfl) (by decide) rfl ?_
      refine g_iconst (v := 0) hX (dk DX11_chance_0 16 rfl) (by decide) ?_
      refine g_istore_7 hX (dk DX11_chance_0 17 rfl) (by decide) rfl ?_
      exact g_fgt (loop31 m rfl hm60 hp1 (cnt E) 0 1 1 (Nat.zero_add _) (by decide) (by decide) (by decide) rfl) ⟨rfl, rfl, rfl, rfl, rfl, rfl, trivial⟩
    · refine g_ldc2_w (v := -9223372036854775808) hX (dk DX11_chance_0 10 rfl) (tg_4 79 rfl rfl) ?_
      refine g_lreturn hX (dk DX11_chance_0 11 rfl) rfl (by decide) (by decide) ?_
      first
      | exact qXL_of (by unfold chanceF; rw [if_pos (by assumption)]; rfl) hY
      | exact qXL_of (by unfold chanceF; rw [if_neg (show ¬ ¬ (0 ≤ n ∧ n ≤ 60) by assumption), if_pos (by assumption)]; rfl) hY

