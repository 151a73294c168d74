set_option maxRecDepth 8000 in
set_option maxHeartbeats 4000000 in
theorem zx_chance {G : Gt} (hG : Gok G) {I : It} {h : Ht}  {E : It} {L : Nat → Int64} (hE : Inv E) (hZ : RZ E L I h) {n p : Int32} : Con G (5) 0 0 mX11_chance [.ref 0, .int n, .int p] I h (qZL (chanceF E n p) E L (hn h)) := by
  refine con_intro (own := RX11) (lo0 := [some (.ref 0), some (.int n), some (.int p), none, none, none, none, none, none]) hG rfl pl_X11 (Nat.le_of_ble_eq_true rfl) rfl (fun X hX => ?_)
  have hY := hZ.1
  have hW := hY.wx hE
  have hH := hW.1
  have hc10 := hW.2.1.2
  have hcE := (inv_cnt hE).2
  have loop31 : ∀ m, n = nI m → m ≤ 60 → (0 ≤ p ∧ p ≤ 1) → ∀ (k d a b : Nat), d + k = cnt E → a ≤ b → a ≤ 10 ^ d → (1 ≤ b ∧ b ≤ 10 ^ d) → chR E m k d a b = chR E m (cnt E) 0 1 1 → GG G (5) 0 0 X (qZL (chanceF E n p) E L (hn h)) 31 [some (.ref 0), some (.int (nI m)), some (.int p), some (.long (lN a)), none, some (.long (lN b)), none, some (.int (nI d)), none] [] (I) (h) 0 0 := by
    intro m hnm hm60 hp1 k
    subst hnm
    have hin : 0 ≤ nI m ∧ nI m ≤ 60 := ⟨nI_pos' (by omega), (nI_leI (b := 60) (by omega) (by decide)).mpr hm60⟩
    induction k using Nat.strongRecOn with | _ k ih => ?_
    intro d a b hk hab ha hb hv
    refine g_iload_7 hX (dk DX11_chance_0 18 rfl) ?_
    refine g_aload_0 hX (dk DX11_chance_0 19 rfl) ?_
    refine g_getRs (r := 1) hX (dk DX11_chance_0 20 rfl) KX11 fX11_12 (by decide) rfl (CLt hH (q := 0) (by decide)) (CC hH 0 (by decide) rfl) (CR hH 0 0 1 (by decide)) ?_
    refine g_getIv hX (dk DX11_chance_0 21 rfl) KX5 fX11_72 (by decide) rfl (CLt hH (q := 1) (by decide)) (CC hH 1 (by decide) rfl) (hY.2.1.1.1.trans (inv_cnt hE).1) ?_
    refine g_icmp_ge (tgt := 118) hX (dk DX11_chance_0 22 rfl) (by decide) (fun hc1 => ?_) (fun hc1 => ?_)
    · have hg : 0 < Nat.gcd a b := Nat.gcd_pos_of_pos_right _ hb.1
      have hg2 : Nat.gcd a b < 2 ^ 63 := Nat.lt_of_le_of_lt (Nat.gcd_le_right _ hb.1) (ch_63 hb.2 (by have := (inv_cnt hE).2; omega))
      have hk0 := cl_end hk (by have := (inv_cnt hE).2; omega) hc1
      subst hk0
      have hcE := (inv_cnt hE).2
      have hb34 : b < 2 ^ 34 := Nat.lt_of_le_of_lt (Nat.le_trans hb.2 (Nat.pow_le_pow_right (by decide) (show d ≤ 10 by omega))) (by decide)
      refine g_lload_3 hX (dk DX11_chance_0 58 rfl) ?_
      refine g_lload_5 hX (dk DX11_chance_0 59 rfl) ?_
      refine g_c2L hX sX11_chance_121 (by decide) (Nat.le_of_ble_eq_true rfl) rcN (by decide) (by decide) (c_X11_commonDivisor hG hab hb.1 hb34) ?_
      refine g_lstore_7 hX (dk DX11_chance_1 1 rfl) (by decide) rfl ?_
      refine g_iload_2 hX (dk DX11_chance_1 2 rfl) ?_
      refine g_if_ne (tgt := 134) hX (dk DX11_chance_1 3 rfl) (by decide) (fun hc2 => ?_) (fun hc2 => ?_)
      · refine g_lload_5 hX (dk DX11_chance_1 6 rfl) ?_
        refine g_lload_7 hX (dk DX11_chance_1 7 rfl) ?_
        refine g_ldiv hX (dk DX11_chance_1 8 rfl) (lN_ne0 hg hg2) ?_
        refine g_lreturn hX (dk DX11_chance_1 9 rfl) rfl (by decide) (by decide) ?_
        have hch : chanceF E (nI m) p = if p = 0 then lN (a / Nat.gcd a b) else lN (b / Nat.gcd a b) := by
          unfold chanceF
          rw [if_neg (not_not_intro hin), if_neg (not_not_intro hp1), tN_nI (by omega), ← hv]
          rfl
        first
        | exact qZL_of (by rw [hch, if_pos (by assumption)]; exact pk_lDiv (ch_63 ha (by omega)) hg hg2) hZ
        | exact qZL_of (by rw [hch, if_neg (by assumption)]; exact pk_lDiv (ch_63 hb.2 (by omega)) hg hg2) hZ
      · refine g_lload_3 hX (dk DX11_chance_1 4 rfl) ?_
        refine g_goto (tgt := 136) hX (dk DX11_chance_1 5 rfl) (by decide) ?_
        refine g_lload_7 hX (dk DX11_chance_1 7 rfl) ?_
        refine g_ldiv hX (dk DX11_chance_1 8 rfl) (lN_ne0 hg hg2) ?_
        refine g_lreturn hX (dk DX11_chance_1 9 rfl) rfl (by decide) (by decide) ?_
        have hch : chanceF E (nI m) p = if p = 0 then lN (a / Nat.gcd a b) else lN (b / Nat.gcd a b) := by
          unfold chanceF
          rw [if_neg (not_not_intro hin), if_neg (not_not_intro hp1), tN_nI (by omega), ← hv]
          rfl
        first
        | exact qZL_of (by rw [hch, if_pos (by assumption)]; exact pk_lDiv (ch_63 ha (by omega)) hg hg2) hZ
        | exact qZL_of (by rw [hch, if_neg (by assumption)]; exact pk_lDiv (ch_63 hb.2 (by omega)) hg hg2) hZ
    · have hcE := (inv_cnt hE).2
      obtain ⟨k, rfl⟩ := cl_go hk (by omega) hc1
      have hd : d < cnt E := by omega
      have hd10 : d < 10 := by omega
      have hcd : d < cN I := by rw [hY.cn]; exact hd
      obtain ⟨g1, g2, g3, g4, g5, g6, g7, g8, g9, g10⟩ := hY.d hd
      have hw9 := (inv_wk hE).2
      refine g_aload_0 hX (dk DX11_chance_0 23 rfl) ?_
      refine g_getRs (r := 1) hX (dk DX11_chance_0 24 rfl) KX11 fX11_12 (by decide) rfl (CLt hH (q := 0) (by decide)) (CC hH 0 (by decide) rfl) (CR hH 0 0 1 (by decide)) ?_
      refine g_iload_7 hX (dk DX11_chance_0 25 rfl) ?_
      refine g_c2R hX sX11_chance_49 (by decide) (Nat.le_of_ble_eq_true rfl) (rc0 rfl (CLt hH (by decide)) (CC hH 1 (by decide) rfl)) (by decide) (by decide) (c_X5_find hG hW hcd) ?_
      refine g_astore_8 hX (dk DX11_chance_0 27 rfl) (by decide) rfl ?_
      refine g_aload_8 hX (dk DX11_chance_0 28 rfl) ?_
      refine g_ifnullR hX (dk DX11_chance_0 29 rfl) ?_
      refine g_aload_0 hX (dk DX11_chance_0 30 rfl) ?_
      refine g_getRs (r := 1) hX (dk DX11_chance_0 31 rfl) KX11 fX11_12 (by decide) rfl (CLt hH (q := 0) (by decide)) (CC hH 0 (by decide) rfl) (CR hH 0 0 1 (by decide)) ?_
      refine g_getIv hX (dk DX11_chance_0 32 rfl) KX5 fX11_109 (by decide) rfl (CLt hH (q := 1) (by decide)) (CC hH 1 (by decide) rfl) (hY.2.1.1.2.2.1) ?_
      refine g_iload_7 hX (dk DX11_chance_0 33 rfl) ?_
      refine g_c2I hX sX11_chance_68 (by decide) (Nat.le_of_ble_eq_true rfl) rcN (by decide) (by decide) (c_X11_bit hG) ?_
      refine g_if_ne (tgt := 112) hX (dk DX11_chance_0 35 rfl) (by decide) (fun hc3 => ?_) (fun hc3 => ?_)
      · refine g_iinc_7 hX (dk DX11_chance_0 56 rfl) (nI_1 d) (by decide) rfl ?_
        refine g_goto (tgt := 31) hX (dk DX11_chance_0 57 rfl) (by decide) ?_
        first
        | exact g_fgt (ih k (by omega) (d + 1) _ _ (by omega) (Nat.mul_le_mul hab ho) hbd.1 hbd.2 (by rw [← hv, hst])) ⟨rfl, rfl, rfl, rfl, rfl, rfl, trivial⟩
        | exact g_fgt (ih k (by omega) (d + 1) _ _ (by omega) hab (ch_up ha) ⟨hb.1, ch_up hb.2⟩ (by rw [← hv, chR_s, if_neg hst0, if_neg (fun z => (show ¬ nI (wu E d (wk E)) < nI m from Int32.not_lt.mpr (by assumption)) ((comIn_e hE hd m (by omega)).mp z))])) ⟨rfl, rfl, rfl, rfl, rfl, rfl, trivial⟩
        | exact g_fgt (ih k (by omega) (d + 1) _ _ (by omega) hab (ch_up ha) ⟨hb.1, ch_up hb.2⟩ (by rw [← hv, chR_s, if_pos ((has_01 _ _).resolve_left (by assumption))])) ⟨rfl, rfl, rfl, rfl, rfl, rfl, trivial⟩
      · have hst0 : ¬ hasI (E 0 6) (nI d) = 1 := fun z => by rw [show hasI (E 0 6) (nI d) = 0 by first | assumption | exact Decidable.not_not.mp hc3] at z; exact absurd z (by decide)
        refine g_aload_8 hX (dk DX11_chance_0 36 rfl) ?_
        refine g_aload_0 hX (dk DX11_chance_0 37 rfl) ?_
        refine g_getRs (r := 1) hX (dk DX11_chance_0 38 rfl) KX11 fX11_12 (by decide) rfl (CLt hH (q := 0) (by decide)) (CC hH 0 (by decide) rfl) (CR hH 0 0 1 (by decide)) ?_
        refine g_getIv hX (dk DX11_chance_0 39 rfl) KX5 fX11_122 (by decide) rfl (CLt hH (q := 1) (by decide)) (CC hH 1 (by decide) rfl) (hY.2.1.1.2.1.trans (inv_wk hE).1) ?_
        refine g_c2I hX (sD_X11_chance_83 _ (by rw [g4]; exact kcl_dc _)) (by decide) (Nat.le_of_ble_eq_true rfl) (rc0 rfl g3 rfl) (by decide) (by decide) (cD_weeksUntil hG g3 (by rw [g4]; exact kcl_dc _) (by exact (hW.2.2.1 d hcd).2.2.2.2.2)) ?_
        refine g_nmI (nI (wu E d (wk E))) (by rw [g7, g8]; exact (wu_fm hE hd (by omega)).1) ?_
        refine g_iload_1 hX (dk DX11_chance_0 41 rfl) ?_
        refine g_icmp_ge (tgt := 112) hX (dk DX11_chance_0 42 rfl) (by decide) (fun hc4 => ?_) (fun hc4 => ?_)
        · refine g_iinc_7 hX (dk DX11_chance_0 56 rfl) (nI_1 d) (by decide) rfl ?_
          refine g_goto (tgt := 31) hX (dk DX11_chance_0 57 rfl) (by decide) ?_
          first
          | exact g_fgt (ih k (by omega) (d + 1) _ _ (by omega) (Nat.mul_le_mul hab ho) hbd.1 hbd.2 (by rw [← hv, hst])) ⟨rfl, rfl, rfl, rfl, rfl, rfl, trivial⟩
          | exact g_fgt (ih k (by omega) (d + 1) _ _ (by omega) hab (ch_up ha) ⟨hb.1, ch_up hb.2⟩ (by rw [← hv, chR_s, if_neg hst0, if_neg (fun z => (show ¬ nI (wu E d (wk E)) < nI m from Int32.not_lt.mpr (by assumption)) ((comIn_e hE hd m (by omega)).mp z))])) ⟨rfl, rfl, rfl, rfl, rfl, rfl, trivial⟩
          | exact g_fgt (ih k (by omega) (d + 1) _ _ (by omega) hab (ch_up ha) ⟨hb.1, ch_up hb.2⟩ (by rw [← hv, chR_s, if_pos ((has_01 _ _).resolve_left (by assumption))])) ⟨rfl, rfl, rfl, rfl, rfl, rfl, trivial⟩
        · have hst : chR E m (k + 1) d a b = chR E m k (d + 1) (a * tN (E 7 d)) (b * 10) := by rw [chR_s, if_neg hst0, if_pos ((comIn_e hE hd m (by omega)).mpr (Int32.not_le.mp hc4))]
          obtain ⟨-, -, -, -, -, o, ho, eo⟩ := inv_d hE hd
          have ht : tN (E 7 d) = o := by rw [eo, tN_nI (by omega)]
          rw [ht] at hst
          have hbd := ch_bd ha hb ho
          refine g_lload_3 hX (dk DX11_chance_0 43 rfl) ?_
          refine g_aload_0 hX (dk DX11_chance_0 44 rfl) ?_
          refine g_getRs (r := 1) hX (dk DX11_chance_0 45 rfl) KX11 fX11_12 (by decide) rfl (CLt hH (q := 0) (by decide)) (CC hH 0 (by decide) rfl) (CR hH 0 0 1 (by decide)) ?_
          refine g_getRs (r := 3) hX (dk DX11_chance_0 46 rfl) KX5 fX11_129 (by decide) rfl (CLt hH (q := 1) (by decide)) (CC hH 1 (by decide) rfl) (CR hH 1 1 3 (by decide)) ?_
          refine g_iload_7 hX (dk DX11_chance_0 47 rfl) ?_
          refine v_iaload hX (dk DX11_chance_0 48 rfl) (CLt hH (q := 3) (by decide)) (CS hH 3 (by decide) rfl) (⟨rfl, hd10, by decide⟩) (hY.2.1.2.1 d hd10) ?_
          refine g_i2l hX (dk DX11_chance_0 49 rfl) ?_
          refine g_lmul hX (dk DX11_chance_0 50 rfl) ?_
          rw [eo, nI_l (by omega), lN_mul]
          refine g_lstore_3 hX (dk DX11_chance_0 51 rfl) (by decide) rfl ?_
          refine g_lload_5 hX (dk DX11_chance_0 52 rfl) ?_
          refine g_ldc2_w (v := 10) hX (dk DX11_chance_0 53 rfl) (tg_4 80 rfl rfl) ?_
          refine g_lmul hX (dk DX11_chance_0 54 rfl) ?_
          rw [show (10 : Int64) = lN 10 from rfl, lN_mul]
          refine g_lstore_5 hX (dk DX11_chance_0 55 rfl) (by decide) rfl ?_
          refine g_iinc_7 hX (dk DX11_chance_0 56 rfl) (nI_1 d) (by decide) rfl ?_
          refine g_goto (tgt := 31) hX (dk DX11_chance_0 57 rfl) (by decide) ?_
          first
          | exact g_fgt (ih k (by omega) (d + 1) _ _ (by omega) (Nat.mul_le_mul hab ho) hbd.1 hbd.2 (by rw [← hv, hst])) ⟨rfl, rfl, rfl, rfl, rfl, rfl, trivial⟩
          | exact g_fgt (ih k (by omega) (d + 1) _ _ (by omega) hab (ch_up ha) ⟨hb.1, ch_up hb.2⟩ (by rw [← hv, chR_s, if_neg hst0, if_neg (fun z => (show ¬ nI (wu E d (wk E)) < nI m from Int32.not_lt.mpr (by assumption)) ((comIn_e hE hd m (by omega)).mp z))])) ⟨rfl, rfl, rfl, rfl, rfl, rfl, trivial⟩
          | exact g_fgt (ih k (by omega) (d + 1) _ _ (by omega) hab (ch_up ha) ⟨hb.1, ch_up hb.2⟩ (by rw [← hv, chR_s, if_pos ((has_01 _ _).resolve_left (by assumption))])) ⟨rfl, rfl, rfl, rfl, rfl, rfl, trivial⟩
  refine g_iload_1 hX (dk DX11_chance_0 0 rfl) ?_
  refine g_iconst (v := 0) hX (dk DX11_chance_0 1 rfl) (by decide) ?_
  refine g_bipush (v := 60) hX (dk DX11_chance_0 2 rfl) (by decide) ?_
  refine g_c3I hX sX11_chance_4 (by decide) (Nat.le_of_ble_eq_true rfl) rcN (by decide) (by decide) (c_X11_isNot hG ) ?_
  refine g_ifb_ne (tgt := 19) hX (dk DX11_chance_0 4 rfl) (by decide) (fun hc1 => ?_) (fun hc1 => ?_)
  · refine g_ldc2_w (v := -9223372036854775808) hX (dk DX11_chance_0 10 rfl) (tg_4 79 rfl rfl) ?_
    refine g_lreturn hX (dk DX11_chance_0 11 rfl) rfl (by decide) (by decide) ?_
    first
    | exact qZL_of (by unfold chanceF; rw [if_pos (by assumption)]; rfl) hZ
    | exact qZL_of (by unfold chanceF; rw [if_neg (show ¬ ¬ (0 ≤ n ∧ n ≤ 60) by assumption), if_pos (by assumption)]; rfl) hZ
  · refine g_iload_2 hX (dk DX11_chance_0 5 rfl) ?_
    refine g_iconst (v := 0) hX (dk DX11_chance_0 6 rfl) (by decide) ?_
    refine g_iconst (v := 1) hX (dk DX11_chance_0 7 rfl) (by decide) ?_
    refine g_c3I hX sX11_chance_13 (by decide) (Nat.le_of_ble_eq_true rfl) rcN (by decide) (by decide) (c_X11_isNot hG ) ?_
    refine g_ifb_eq (tgt := 23) hX (dk DX11_chance_0 9 rfl) (by decide) (fun hc2 => ?_) (fun hc2 => ?_)
    · have hp1 := Decidable.not_not.mp hc2
      have hn1 := Decidable.not_not.mp hc1
      obtain ⟨m, hm60, rfl⟩ := in_of (b := 60) (by decide) hn1
      refine g_lconst (v := 1) hX (dk DX11_chance_0 12 rfl) (by decide) ?_
      refine g_lstore_3 hX (dk DX11_chance_0 13 rfl) (by decide) rfl ?_
      refine g_lconst (v := 1) hX (dk DX11_chance_0 14 rfl) (by decide) ?_
      refine g_lstore_5 hX (dk DX11_chance_0 15 rfl) (by decide) rfl ?_
      refine g_iconst (v := 0) hX (dk DX11_chance_0 16 rfl) (by decide) ?_
      refine g_istore_7 hX (dk DX11_chance_0 17 rfl) (by decide) rfl ?_
      exact g_fgt (loop31 m rfl hm60 hp1 (cnt E) 0 1 1 (Nat.zero_add _) (by decide) (by decide) (by decide) rfl) ⟨rfl, rfl, rfl, rfl, rfl, rfl, trivial⟩
    · refine g_ldc2_w (v := -9223372036854775808) hX (dk DX11_chance_0 10 rfl) (tg_4 79 rfl rfl) ?_
      refine g_lreturn hX (dk DX11_chance_0 11 rfl) rfl (by decide) (by decide) ?_
      first
      | exact qZL_of (by unfold chanceF; rw [if_pos (by assumption)]; rfl) hZ
      | exact qZL_of (by unfold chanceF; rw [if_neg (show ¬ ¬ (0 ≤ n ∧ n ≤ 60) by assumption), if_pos (by assumption)]; rfl) hZ

set_option maxRecDepth 8000 in
set_option maxHeartbeats 4000000 in
theorem zy_taken {G : Gt} (hG : Gok G) {I : It} {h : Ht}  {E : It} {L : Nat → Int64} (hE : Inv E) (hZ : RZ E L I h) {d : Nat} (hd : d < cnt E) {k : Int32} : Con G (4) 0 0 mX11_taken [.ref 0, .int (nI d), .int k] I h (qZ (takenS E (nI d) k) L (hn h)) := by
  refine con_intro (own := RX11) (lo0 := [some (.ref 0), some (.int (nI d)), some (.int k), none]) hG rfl pl_X11 (Nat.le_of_ble_eq_true rfl) rfl (fun X hX => ?_)
  have hY := hZ.1
  have hW := hY.wx hE
  have hH := hW.1
  have hc10 := hW.2.1.2
  have hcE := (inv_cnt hE).2
  have hd10 : d < 10 := Nat.lt_of_lt_of_le hd (inv_cnt hE).2
  have hcd : d < cN I := by rw [hY.cn]; exact hd
  have hDD := isD_mk hE hd
  obtain ⟨g1, g2, g3, g4, g5, g6, g7, g8, g9, g10⟩ := hY.d hd
  refine g_iload_2 hX (dk DX11_taken 0 rfl) ?_
  refine g_iconst (v := 0) hX (dk DX11_taken 1 rfl) (by decide) ?_
  refine g_bipush (v := 6) hX (dk DX11_taken 2 rfl) (by decide) ?_
  refine g_c3I hX sX11_taken_4 (by decide) (Nat.le_of_ble_eq_true rfl) rcN (by decide) (by decide) (c_X11_isNot hG ) ?_
  refine g_ifb_eq (tgt := 13) hX (dk DX11_taken 4 rfl) (by decide) (fun hc1 => ?_) (fun hc1 => ?_)
  · refine g_aload_0 hX (dk DX11_taken 7 rfl) ?_
    refine g_getRs (r := 1) hX (dk DX11_taken 8 rfl) KX11 fX11_12 (by decide) rfl (CLt hH (q := 0) (by decide)) (CC hH 0 (by decide) rfl) (CR hH 0 0 1 (by decide)) ?_
    refine g_iload_1 hX (dk DX11_taken 9 rfl) ?_
    refine g_c2R hX sX11_taken_18 (by decide) (Nat.le_of_ble_eq_true rfl) (rc0 rfl (CLt hH (by decide)) (CC hH 1 (by decide) rfl)) (by decide) (by decide) (c_X5_find hG hW (by exact hcd)) ?_
    refine g_astore_3 hX (dk DX11_taken 11 rfl) (by decide) rfl ?_
    refine g_aload_3 hX (dk DX11_taken 12 rfl) ?_
    refine g_ifnonnull (tgt := 29) hX (dk DX11_taken 13 rfl) (by decide) ?_
    obtain ⟨q, hq, ek⟩ := in_of (b := 6) (by decide) (Decidable.not_not.mp hc1)
    obtain ⟨⟨x, hx, ex⟩, -⟩ := inv_d hE hd
    have htk := tk_e x (by omega) q (by omega)
    rw [← ek, ← ex] at htk
    have htd : tN (nI d) = d := tN_nI (by omega)
    refine g_aload_3 hX (dk DX11_taken 16 rfl) ?_
    refine g_iload_2 hX (dk DX11_taken 17 rfl) ?_
    refine g_c2I hX sX11_taken_31 (by decide) (Nat.le_of_ble_eq_true rfl) rcN (by decide) (by decide) (c_isOfKind hG g3 (by rw [g4]; exact kcl_dc _)) ?_
    refine g_nmI (ikC (kcl (E 1 d)) k) (by rw [g4]) ?_
    refine g_if_eq (tgt := 44) hX (dk DX11_taken 19 rfl) (by decide) (fun hc2 => ?_) (fun hc2 => ?_)
    · refine g_bipush (v := -12) hX (dk DX11_taken 23 rfl) (by decide) ?_
      refine g_ireturn hX (dk DX11_taken 24 rfl) rfl (rfl) (by decide) (by decide) ?_
      first
      | exact qZ_of (by unfold takenS; rw [if_neg (show ¬ ¬ (0 ≤ k ∧ k ≤ 6) by assumption), if_neg (not_not_intro hDD), htd, if_pos (Decidable.not_not.mp (fun z => (show ¬ ikC (kcl (E 1 d)) k = 0 by assumption) (htk.1.mpr z)))]) hZ
      | exact qZ_of (by unfold takenS; rw [if_neg (show ¬ ¬ (0 ≤ k ∧ k ≤ 6) by assumption), if_neg (not_not_intro hDD), htd, if_neg (htk.1.mp (by assumption))]) hZ
    · refine g_aload_3 hX (dk DX11_taken 20 rfl) ?_
      refine g_c1I hX (sD_X11_taken_38 _ (by rw [g4]; exact kcl_dc _)) (by decide) (Nat.le_of_ble_eq_true rfl) (rc0 rfl g3 rfl) (by decide) (by decide) (cD_kind hG g3 (by rw [g4]; exact kcl_dc _)) ?_
      refine g_nmI (E 1 d) (by rw [g4]; exact htk.2) ?_
      refine g_goto (tgt := 46) hX (dk DX11_taken 22 rfl) (by decide) ?_
      refine g_ireturn hX (dk DX11_taken 24 rfl) rfl (rfl) (by decide) (by decide) ?_
      first
      | exact qZ_of (by unfold takenS; rw [if_neg (show ¬ ¬ (0 ≤ k ∧ k ≤ 6) by assumption), if_neg (not_not_intro hDD), htd, if_pos (Decidable.not_not.mp (fun z => (show ¬ ikC (kcl (E 1 d)) k = 0 by assumption) (htk.1.mpr z)))]) hZ
      | exact qZ_of (by unfold takenS; rw [if_neg (show ¬ ¬ (0 ≤ k ∧ k ≤ 6) by assumption), if_neg (not_not_intro hDD), htd, if_neg (htk.1.mp (by assumption))]) hZ
  · refine g_bipush (v := -2) hX (dk DX11_taken 5 rfl) (by decide) ?_
    refine g_ireturn hX (dk DX11_taken 6 rfl) rfl (rfl) (by decide) (by decide) ?_
    exact qZ_of (by unfold takenS; rw [if_pos (by assumption)]) hZ

set_option maxRecDepth 8000 in
set_option maxHeartbeats 4000000 in
theorem zz_taken {G : Gt} (hG : Gok G) {I : It} {h : Ht}  {E : It} {L : Nat → Int64} (hE : Inv E) (hZ : RZ E L I h) {a : Int32} (hno : ¬ isD E a) {k : Int32} : Con G (4) 0 0 mX11_taken [.ref 0, .int a, .int k] I h (qZ (takenS E a k) L (hn h)) := by
  refine con_intro (own := RX11) (lo0 := [some (.ref 0), some (.int a), some (.int k), none]) hG rfl pl_X11 (Nat.le_of_ble_eq_true rfl) rfl (fun X hX => ?_)
  have hY := hZ.1
  have hW := hY.wx hE
  have hH := hW.1
  have hc10 := hW.2.1.2
  have hcE := (inv_cnt hE).2
  refine g_iload_2 hX (dk DX11_taken 0 rfl) ?_
  refine g_iconst (v := 0) hX (dk DX11_taken 1 rfl) (by decide) ?_
  refine g_bipush (v := 6) hX (dk DX11_taken 2 rfl) (by decide) ?_
  refine g_c3I hX sX11_taken_4 (by decide) (Nat.le_of_ble_eq_true rfl) rcN (by decide) (by decide) (c_X11_isNot hG ) ?_
  refine g_ifb_eq (tgt := 13) hX (dk DX11_taken 4 rfl) (by decide) (fun hc1 => ?_) (fun hc1 => ?_)
  · refine g_aload_0 hX (dk DX11_taken 7 rfl) ?_
    refine g_getRs (r := 1) hX (dk DX11_taken 8 rfl) KX11 fX11_12 (by decide) rfl (CLt hH (q := 0) (by decide)) (CC hH 0 (by decide) rfl) (CR hH 0 0 1 (by decide)) ?_
    refine g_iload_1 hX (dk DX11_taken 9 rfl) ?_
    refine g_c2R hX sX11_taken_18 (by decide) (Nat.le_of_ble_eq_true rfl) (rc0 rfl (CLt hH (by decide)) (CC hH 1 (by decide) rfl)) (by decide) (by decide) (c_X5_find0 hG hW (hY.no hE hno)) ?_
    refine g_astoreN_3 hX (dk DX11_taken 11 rfl) (by decide) rfl ?_
    refine g_aloadN_3 hX (dk DX11_taken 12 rfl) ?_
    refine g_ifnonnullN hX (dk DX11_taken 13 rfl) ?_
    refine g_bipush (v := -11) hX (dk DX11_taken 14 rfl) (by decide) ?_
    refine g_ireturn hX (dk DX11_taken 15 rfl) rfl (rfl) (by decide) (by decide) ?_
    exact qZ_of (by unfold takenS; rw [if_neg (show ¬ ¬ (0 ≤ k ∧ k ≤ 6) by assumption), if_pos hno]) hZ
  · refine g_bipush (v := -2) hX (dk DX11_taken 5 rfl) (by decide) ?_
    refine g_ireturn hX (dk DX11_taken 6 rfl) rfl (rfl) (by decide) (by decide) ?_
    exact qZ_of (by unfold takenS; rw [if_pos (by assumption)]) hZ

theorem zx_taken {G : Gt} (hG : Gok G) {I : It} {h : Ht} {E : It} {L : Nat → Int64} (hE : Inv E) (hZ : RZ E L I h) {a : Int32} {k : Int32} : Con G 4 0 0 mX11_taken [.ref 0, .int a, .int k] I h (qZ (takenS E a k) L (hn h)) := by
  by_cases hh : isD E a
  · obtain ⟨d, hd, rfl⟩ := isD_of hE hh
    exact zy_taken hG hE hZ hd (k := k)
  · exact zz_taken hG hE hZ hh (k := k)
set_option maxRecDepth 8000 in
set_option maxHeartbeats 4000000 in
theorem zx_shift {G : Gt} (hG : Gok G) {I : It} {h : Ht}  {E : It} {L : Nat → Int64} (hE : Inv E) (hZ : RZ E L I h) {a e c f n : Int32} : Con G (3) 0 0 mX11_shift [.ref 0, .int a, .int e, .int c, .int f, .int n] I h (qZ (shiftS E a e c f n, E) (shiftL E L a e c f n) (hn h)) := by
  refine con_intro (own := RX11) (lo0 := [some (.ref 0), some (.int a), some (.int e), some (.int c), some (.int f), some (.int n)]) hG rfl pl_X11 (Nat.le_of_ble_eq_true rfl) rfl (fun X hX => ?_)
  have hY := hZ.1
  have hW := hY.wx hE
  have hH := hW.1
  have hc10 := hW.2.1.2
  have hcE := (inv_cnt hE).2
  refine g_iload_1 hX (dk DX11_shift_0 0 rfl) ?_
  refine g_iconst (v := 0) hX (dk DX11_shift_0 1 rfl) (by decide) ?_
  refine g_iconst (v := 5) hX (dk DX11_shift_0 2 rfl) (by decide) ?_
  refine g_c3I hX sX11_shift_3 (by decide) (Nat.le_of_ble_eq_true rfl) rcN (by decide) (by decide) (c_X11_isNot hG ) ?_
  refine g_ifb_ne (tgt := 18) hX (dk DX11_shift_0 4 rfl) (by decide) (fun hc1 => ?_) (fun hc1 => ?_)
  · refine g_iconst (v := -1) hX (dk DX11_shift_0 10 rfl) (by decide) ?_
    refine g_ireturn hX (dk DX11_shift_0 11 rfl) rfl (rfl) (by decide) (by decide) ?_
    exact itz_of (s := (shiftS E a e c f n, shiftL E L a e c f n)) (L' := L) (by unfold shiftS shiftL; first | (rw [if_pos (show ¬ isT a by assumption), if_pos (show ¬ isT a by assumption)]; done) | (rw [if_neg (show ¬ ¬ isT a by assumption), if_neg (show ¬ ¬ isT a by assumption), if_pos (show ¬ isT c by assumption), if_pos (show ¬ isT c by assumption)]; done)) hZ
  · refine g_iload_3 hX (dk DX11_shift_0 5 rfl) ?_
    refine g_iconst (v := 0) hX (dk DX11_shift_0 6 rfl) (by decide) ?_
    refine g_iconst (v := 5) hX (dk DX11_shift_0 7 rfl) (by decide) ?_
    refine g_c3I hX sX11_shift_12 (by decide) (Nat.le_of_ble_eq_true rfl) rcN (by decide) (by decide) (c_X11_isNot hG ) ?_
    refine g_ifb_eq (tgt := 20) hX (dk DX11_shift_0 9 rfl) (by decide) (fun hc2 => ?_) (fun hc2 => ?_)
    · obtain ⟨t, ht5, rfl⟩ := in_of (b := 5) (by decide) (Decidable.not_not.mp hc1)
      have ht : t < 6 := by omega
      have hTt := hY.2.2.2.2.2.2.1 t ht
      obtain ⟨o, ho5, rfl⟩ := in_of (b := 5) (by decide) (Decidable.not_not.mp hc2)
      have ho : o < 6 := by omega
      have hTo := hY.2.2.2.2.2.2.1 o ho
      have ta : isT (nI t) := Decidable.not_not.mp hc1
      have oa : isT (nI o) := Decidable.not_not.mp hc2
      obtain ⟨lt, hlt, elt, -, ht3⟩ := tp_of hE ht
      obtain ⟨l2, hl2, el2, -, ho3⟩ := tp_of hE ho
      have hsp := sh_sp (E := E) (L := L) (e := e) (f := f) (n := n) ht ho ta oa
      refine g_aload_0 hX (dk DX11_shift_0 12 rfl) ?_
      refine g_getRs (r := 34) hX (dk DX11_shift_0 13 rfl) KX11 fX11_47 (by decide) rfl (CLt hH (q := 0) (by decide)) (CC hH 0 (by decide) rfl) (CR hH 0 9 34 (by decide)) ?_
      refine g_iload_1 hX (dk DX11_shift_0 14 rfl) ?_
      refine v_iaload hX (dk DX11_shift_0 15 rfl) (CLt hH (q := 34) (by decide)) (CS hH 34 (by decide) rfl) (⟨rfl, ht, by decide⟩) (hTt.1) ?_
      refine g_iconst (v := -1) hX (dk DX11_shift_0 16 rfl) (by decide) ?_
      refine g_icmp_eq (tgt := 40) hX (dk DX11_shift_0 17 rfl) (by decide) (fun hc3 => ?_) (fun hc3 => ?_)
      · refine g_bipush (v := -11) hX (dk DX11_shift_0 24 rfl) (by decide) ?_
        refine g_ireturn hX (dk DX11_shift_0 25 rfl) rfl (rfl) (by decide) (by decide) ?_
        exact itz_of (s := (shiftS E (nI t) e (nI o) f n, shiftL E L (nI t) e (nI o) f n)) (L' := L) (by first | exact hsp.1 (Or.inl (by first | assumption | exact Decidable.not_not.mp (by assumption))) | exact hsp.1 (Or.inr (by first | assumption | exact Decidable.not_not.mp (by assumption)))) hZ
      · refine g_aload_0 hX (dk DX11_shift_0 18 rfl) ?_
        refine g_getRs (r := 34) hX (dk DX11_shift_0 19 rfl) KX11 fX11_47 (by decide) rfl (CLt hH (q := 0) (by decide)) (CC hH 0 (by decide) rfl) (CR hH 0 9 34 (by decide)) ?_
        refine g_iload_3 hX (dk DX11_shift_0 20 rfl) ?_
        refine v_iaload hX (dk DX11_shift_0 21 rfl) (CLt hH (q := 34) (by decide)) (CS hH 34 (by decide) rfl) (⟨rfl, ho, by decide⟩) (hTo.1) ?_
        refine g_iconst (v := -1) hX (dk DX11_shift_0 22 rfl) (by decide) ?_
        refine g_icmp_ne (tgt := 43) hX (dk DX11_shift_0 23 rfl) (by decide) (fun hc4 => ?_) (fun hc4 => ?_)
        · refine g_aload_0 hX (dk DX11_shift_0 26 rfl) ?_
          refine g_getRs (r := 34) hX (dk DX11_shift_0 27 rfl) KX11 fX11_47 (by decide) rfl (CLt hH (q := 0) (by decide)) (CC hH 0 (by decide) rfl) (CR hH 0 9 34 (by decide)) ?_
          refine g_iload_1 hX (dk DX11_shift_0 28 rfl) ?_
          refine v_iaload hX (dk DX11_shift_0 29 rfl) (CLt hH (q := 34) (by decide)) (CS hH 34 (by decide) rfl) (⟨rfl, ht, by decide⟩) (hTt.1) ?_
          refine g_aload_0 hX (dk DX11_shift_0 30 rfl) ?_
          refine g_getRs (r := 34) hX (dk DX11_shift_0 31 rfl) KX11 fX11_47 (by decide) rfl (CLt hH (q := 0) (by decide)) (CC hH 0 (by decide) rfl) (CR hH 0 9 34 (by decide)) ?_
          refine g_iload_3 hX (dk DX11_shift_0 32 rfl) ?_
          refine v_iaload hX (dk DX11_shift_0 33 rfl) (CLt hH (q := 34) (by decide)) (CS hH 34 (by decide) rfl) (⟨rfl, ho, by decide⟩) (hTo.1) ?_
          refine g_icmp_eq (tgt := 61) hX (dk DX11_shift_0 34 rfl) (by decide) (fun hc5 => ?_) (fun hc5 => ?_)
          · refine g_iload_5 hX (dk DX11_shift_0 37 rfl) ?_
            refine g_if_lt (tgt := 101) hX (dk DX11_shift_0 38 rfl) (by decide) (fun hc6 => ?_) (fun hc6 => ?_)
            · refine g_bipush (v := -13) hX (dk DX11_shift_0 59 rfl) (by decide) ?_
              refine g_ireturn hX (dk DX11_shift_1 0 rfl) rfl (rfl) (by decide) (by decide) ?_
              exact itz_of (s := (shiftS E (nI t) e (nI o) f n, shiftL E L (nI t) e (nI o) f n)) (L' := L) (hsp.2.2.1 (by assumption) (by assumption) ht3 ho3 (by first | assumption | exact Decidable.not_not.mp (by assumption)) (by first | exact Or.inl (by assumption) | exact Or.inr (Or.inl (by assumption)) | exact Or.inr (Or.inr (by assumption)))) hZ
            · refine g_iload_2 hX (dk DX11_shift_0 39 rfl) ?_
              refine g_iconst (v := 0) hX (dk DX11_shift_0 40 rfl) (by decide) ?_
              refine g_aload_0 hX (dk DX11_shift_0 41 rfl) ?_
              refine g_getRs (r := 35) hX (dk DX11_shift_0 42 rfl) KX11 fX11_51 (by decide) rfl (CLt hH (q := 0) (by decide)) (CC hH 0 (by decide) rfl) (CR hH 0 10 35 (by decide)) ?_
              refine g_iload_1 hX (dk DX11_shift_0 43 rfl) ?_
              refine v_iaload hX (dk DX11_shift_0 44 rfl) (CLt hH (q := 35) (by decide)) (CS hH 35 (by decide) rfl) (⟨rfl, ht, by decide⟩) (hTt.2.1) ?_
              refine g_iload_5 hX (dk DX11_shift_0 45 rfl) ?_
              refine g_isub hX (dk DX11_shift_0 46 rfl) ?_
              refine g_c3I hX sX11_shift_77 (by decide) (Nat.le_of_ble_eq_true rfl) rcN (by decide) (by decide) (c_X11_isNot hG ) ?_
              refine g_ifb_ne (tgt := 101) hX (dk DX11_shift_0 48 rfl) (by decide) (fun hc7 => ?_) (fun hc7 => ?_)
              · refine g_bipush (v := -13) hX (dk DX11_shift_0 59 rfl) (by decide) ?_
                refine g_ireturn hX (dk DX11_shift_1 0 rfl) rfl (rfl) (by decide) (by decide) ?_
                exact itz_of (s := (shiftS E (nI t) e (nI o) f n, shiftL E L (nI t) e (nI o) f n)) (L' := L) (hsp.2.2.1 (by assumption) (by assumption) ht3 ho3 (by first | assumption | exact Decidable.not_not.mp (by assumption)) (by first | exact Or.inl (by assumption) | exact Or.inr (Or.inl (by assumption)) | exact Or.inr (Or.inr (by assumption)))) hZ
              · refine g_iload_4 hX (dk DX11_shift_0 49 rfl) ?_
                refine g_iconst (v := 0) hX (dk DX11_shift_0 50 rfl) (by decide) ?_
                refine g_aload_0 hX (dk DX11_shift_0 51 rfl) ?_
                refine g_getRs (r := 35) hX (dk DX11_shift_0 52 rfl) KX11 fX11_51 (by decide) rfl (CLt hH (q := 0) (by decide)) (CC hH 0 (by decide) rfl) (CR hH 0 10 35 (by decide)) ?_
                refine g_iload_3 hX (dk DX11_shift_0 53 rfl) ?_
                refine v_iaload hX (dk DX11_shift_0 54 rfl) (CLt hH (q := 35) (by decide)) (CS hH 35 (by decide) rfl) (⟨rfl, ho, by decide⟩) (hTo.2.1) ?_
                refine g_iload_5 hX (dk DX11_shift_0 55 rfl) ?_
                refine g_isub hX (dk DX11_shift_0 56 rfl) ?_
                refine g_c3I hX sX11_shift_95 (by decide) (Nat.le_of_ble_eq_true rfl) rcN (by decide) (by decide) (c_X11_isNot hG ) ?_
                refine g_ifb_eq (tgt := 104) hX (dk DX11_shift_0 58 rfl) (by decide) (fun hc8 => ?_) (fun hc8 => ?_)
                · obtain ⟨i0, j0, n0, rfl, rfl, rfl, hi0, hj0⟩ := sh_in hlt hl2 elt el2 (show ¬ n < 0 by assumption) (by assumption) (by assumption)
                  refine g_aload_0 hX (dk DX11_shift_1 1 rfl) ?_
                  refine g_getRs (r := 36) hX (dk DX11_shift_1 2 rfl) KX11 fX11_56 (by decide) rfl (CLt hH (q := 0) (by decide)) (CC hH 0 (by decide) rfl) (CR hH 0 11 36 (by decide)) ?_
                  refine g_iload_1 hX (dk DX11_shift_1 3 rfl) ?_
                  refine i_aaload (i0 := 7) hX (dk DX11_shift_1 4 rfl) (CLt hH (q := 36) (by decide)) (CS hH 36 (by decide) rfl) (by decide) rfl rfl (⟨rfl, ht, by decide⟩) (IT_r hH ht) ?_
                  refine g_iload_2 hX (dk DX11_shift_1 5 rfl) ?_
                  refine g_aload_0 hX (dk DX11_shift_1 6 rfl) ?_
                  refine g_getRs (r := 36) hX (dk DX11_shift_1 7 rfl) KX11 fX11_56 (by decide) rfl (CLt hH (q := 0) (by decide)) (CC hH 0 (by decide) rfl) (CR hH 0 11 36 (by decide)) ?_
                  refine g_iload_3 hX (dk DX11_shift_1 8 rfl) ?_
                  refine i_aaload (i0 := 7) hX (dk DX11_shift_1 9 rfl) (CLt hH (q := 36) (by decide)) (CS hH 36 (by decide) rfl) (by decide) rfl rfl (⟨rfl, ho, by decide⟩) (IT_r hH ho) ?_
                  refine g_iload_4 hX (dk DX11_shift_1 10 rfl) ?_
                  refine g_iload_5 hX (dk DX11_shift_1 11 rfl) ?_
                  refine g_copyL (sp := i0) (dp := j0) (m := n0) hX (dk DX11_shift_1 12 rfl) (tg_4 224 rfl rfl) (tg_4 4 rfl rfl) (tg_4 3 rfl rfl) (tg_1 17 rfl rfl) (IT_lt hH ht) (IT_sh hH ht) (IT_lt hH ho) (IT_sh hH ho) (⟨rfl, rfl, rfl⟩) (⟨by omega, by decide⟩) (⟨by omega, by decide⟩) (by decide) (by decide) ?_
                  refine g_iload_5 hX (dk DX11_shift_1 13 rfl) ?_
                  refine g_ireturn hX (dk DX11_shift_1 14 rfl) rfl (rfl) (by decide) (by decide) ?_
                  exact itz_of (s := (shiftS E (nI t) (nI i0) (nI o) (nI j0) (nI n0), shiftL E L (nI t) (nI i0) (nI o) (nI j0) (nI n0))) (hsp.2.2.2 (by assumption) (by assumption) ht3 ho3 (by first | assumption | exact Decidable.not_not.mp (by assumption)) elt el2 hlt hl2 hi0 hj0) (hZ.shift ht ho (by omega) (by omega))
                · refine g_bipush (v := -13) hX (dk DX11_shift_0 59 rfl) (by decide) ?_
                  refine g_ireturn hX (dk DX11_shift_1 0 rfl) rfl (rfl) (by decide) (by decide) ?_
                  exact itz_of (s := (shiftS E (nI t) e (nI o) f n, shiftL E L (nI t) e (nI o) f n)) (L' := L) (hsp.2.2.1 (by assumption) (by assumption) ht3 ho3 (by first | assumption | exact Decidable.not_not.mp (by assumption)) (by first | exact Or.inl (by assumption) | exact Or.inr (Or.inl (by assumption)) | exact Or.inr (Or.inr (by assumption)))) hZ
          · refine g_bipush (v := -12) hX (dk DX11_shift_0 35 rfl) (by decide) ?_
            refine g_ireturn hX (dk DX11_shift_0 36 rfl) rfl (rfl) (by decide) (by decide) ?_
            exact itz_of (s := (shiftS E (nI t) e (nI o) f n, shiftL E L (nI t) e (nI o) f n)) (L' := L) (hsp.2.1 (by assumption) (by assumption) ht3 ho3 (by assumption)) hZ
        · refine g_bipush (v := -11) hX (dk DX11_shift_0 24 rfl) (by decide) ?_
          refine g_ireturn hX (dk DX11_shift_0 25 rfl) rfl (rfl) (by decide) (by decide) ?_
          exact itz_of (s := (shiftS E (nI t) e (nI o) f n, shiftL E L (nI t) e (nI o) f n)) (L' := L) (by first | exact hsp.1 (Or.inl (by first | assumption | exact Decidable.not_not.mp (by assumption))) | exact hsp.1 (Or.inr (by first | assumption | exact Decidable.not_not.mp (by assumption)))) hZ
    · refine g_iconst (v := -1) hX (dk DX11_shift_0 10 rfl) (by decide) ?_
      refine g_ireturn hX (dk DX11_shift_0 11 rfl) rfl (rfl) (by decide) (by decide) ?_
      exact itz_of (s := (shiftS E a e c f n, shiftL E L a e c f n)) (L' := L) (by unfold shiftS shiftL; first | (rw [if_pos (show ¬ isT a by assumption), if_pos (show ¬ isT a by assumption)]; done) | (rw [if_neg (show ¬ ¬ isT a by assumption), if_neg (show ¬ ¬ isT a by assumption), if_pos (show ¬ isT c by assumption), if_pos (show ¬ isT c by assumption)]; done)) hZ

set_option maxRecDepth 8000 in
set_option maxHeartbeats 4000000 in
theorem zx_doing {G : Gt} (hG : Gok G) {I : It} {h : Ht}  {E : It} {L : Nat → Int64} (hE : Inv E) (hZ : RZ E L I h) {k v r p c e : Int32} (hGn : Gnew G (hn h)) : Con G (7) 1 6 mX11_doing [.ref 0, .int k, .int v, .int r, .int p, .int c, .int e] I h (qZ (doingS E k v r p c e) L (hn h + 1)) := by
  refine con_intro (own := RX11) (lo0 := [some (.ref 0), some (.int k), some (.int v), some (.int r), some (.int p), some (.int c), some (.int e)]) hG rfl pl_X11 (Nat.le_of_ble_eq_true rfl) rfl (fun X hX => ?_)
  have hY := hZ.1
  have hW := hY.wx hE
  have hH := hW.1
  have hc10 := hW.2.1.2
  have hcE := (inv_cnt hE).2
  have hN1 : I 1 2 = nI (cnt E) := hY.2.1.1.1.trans (inv_cnt hE).1
  refine g_iload_1 hX (dk DX11_doing 0 rfl) ?_
  refine g_iconst (v := 0) hX (dk DX11_doing 1 rfl) (by decide) ?_
  refine g_bipush (v := 6) hX (dk DX11_doing 2 rfl) (by decide) ?_
  refine g_c3I hX sX11_doing_4 (by decide) (Nat.le_of_ble_eq_true rfl) rcN (by decide) (by decide) (c_X11_isNot hG ) ?_
  refine g_ifb_eq (tgt := 12) hX (dk DX11_doing 4 rfl) (by decide) (fun hc1 => ?_) (fun hc1 => ?_)
  · refine g_iload_2 hX (dk DX11_doing 7 rfl) ?_
    refine g_iconst (v := 0) hX (dk DX11_doing 8 rfl) (by decide) ?_
    refine g_bipush (v := 9) hX (dk DX11_doing 9 rfl) (by decide) ?_
    refine g_c3I hX sX11_doing_16 (by decide) (Nat.le_of_ble_eq_true rfl) rcN (by decide) (by decide) (c_X11_isNot hG ) ?_
    refine g_ifb_ne (tgt := 66) hX (dk DX11_doing 11 rfl) (by decide) (fun hc2 => ?_) (fun hc2 => ?_)
    · refine g_bipush (v := -2) hX (dk DX11_doing 34 rfl) (by decide) ?_
      refine g_ireturn hX (dk DX11_doing 35 rfl) rfl (rfl) (by decide) (by decide) ?_
      first
      | exact qZ_ofN (by unfold doingS; rw [if_neg (show ¬ ¬ (0 ≤ k ∧ k ≤ 6) by assumption), if_pos (show ¬ (0 ≤ v ∧ v ≤ 9) by assumption)]) hZ (Nat.le_succ _)
      | exact qZ_ofN (by unfold doingS; rw [if_neg (show ¬ ¬ (0 ≤ k ∧ k ≤ 6) by assumption), if_neg (show ¬ ¬ (0 ≤ v ∧ v ≤ 9) by assumption), if_pos (show ¬ (1 ≤ r ∧ r ≤ 60) by assumption)]) hZ (Nat.le_succ _)
      | exact qZ_ofN (by unfold doingS; rw [if_neg (show ¬ ¬ (0 ≤ k ∧ k ≤ 6) by assumption), if_neg (show ¬ ¬ (0 ≤ v ∧ v ≤ 9) by assumption), if_neg (show ¬ ¬ (1 ≤ r ∧ r ≤ 60) by assumption), if_pos (show ¬ (0 ≤ p ∧ p ≤ r - 1) by assumption)]) hZ (Nat.le_succ _)
      | exact qZ_ofN (by unfold doingS; rw [if_neg (show ¬ ¬ (0 ≤ k ∧ k ≤ 6) by assumption), if_neg (show ¬ ¬ (0 ≤ v ∧ v ≤ 9) by assumption), if_neg (show ¬ ¬ (1 ≤ r ∧ r ≤ 60) by assumption), if_neg (show ¬ ¬ (0 ≤ p ∧ p ≤ r - 1) by assumption), if_pos (show ¬ (0 ≤ c ∧ c ≤ 99) by assumption)]) hZ (Nat.le_succ _)
      | exact qZ_ofN (by unfold doingS; rw [if_neg (show ¬ ¬ (0 ≤ k ∧ k ≤ 6) by assumption), if_neg (show ¬ ¬ (0 ≤ v ∧ v ≤ 9) by assumption), if_neg (show ¬ ¬ (1 ≤ r ∧ r ≤ 60) by assumption), if_neg (show ¬ ¬ (0 ≤ p ∧ p ≤ r - 1) by assumption), if_neg (show ¬ ¬ (0 ≤ c ∧ c ≤ 99) by assumption), if_pos (show ¬ (0 ≤ e ∧ e ≤ 99) by assumption)]) hZ (Nat.le_succ _)
    · refine g_iload_3 hX (dk DX11_doing 12 rfl) ?_
      refine g_iconst (v := 1) hX (dk DX11_doing 13 rfl) (by decide) ?_
      refine g_bipush (v := 60) hX (dk DX11_doing 14 rfl) (by decide) ?_
      refine g_c3I hX sX11_doing_26 (by decide) (Nat.le_of_ble_eq_true rfl) rcN (by decide) (by decide) (c_X11_isNot hG ) ?_
      refine g_ifb_ne (tgt := 66) hX (dk DX11_doing 16 rfl) (by decide) (fun hc3 => ?_) (fun hc3 => ?_)
      · refine g_bipush (v := -2) hX (dk DX11_doing 34 rfl) (by decide) ?_
        refine g_ireturn hX (dk DX11_doing 35 rfl) rfl (rfl) (by decide) (by decide) ?_
        first
        | exact qZ_ofN (by unfold doingS; rw [if_neg (show ¬ ¬ (0 ≤ k ∧ k ≤ 6) by assumption), if_pos (show ¬ (0 ≤ v ∧ v ≤ 9) by assumption)]) hZ (Nat.le_succ _)
        | exact qZ_ofN (by unfold doingS; rw [if_neg (show ¬ ¬ (0 ≤ k ∧ k ≤ 6) by assumption), if_neg (show ¬ ¬ (0 ≤ v ∧ v ≤ 9) by assumption), if_pos (show ¬ (1 ≤ r ∧ r ≤ 60) by assumption)]) hZ (Nat.le_succ _)
        | exact qZ_ofN (by unfold doingS; rw [if_neg (show ¬ ¬ (0 ≤ k ∧ k ≤ 6) by assumption), if_neg (show ¬ ¬ (0 ≤ v ∧ v ≤ 9) by assumption), if_neg (show ¬ ¬ (1 ≤ r ∧ r ≤ 60) by assumption), if_pos (show ¬ (0 ≤ p ∧ p ≤ r - 1) by assumption)]) hZ (Nat.le_succ _)
        | exact qZ_ofN (by unfold doingS; rw [if_neg (show ¬ ¬ (0 ≤ k ∧ k ≤ 6) by assumption), if_neg (show ¬ ¬ (0 ≤ v ∧ v ≤ 9) by assumption), if_neg (show ¬ ¬ (1 ≤ r ∧ r ≤ 60) by assumption), if_neg (show ¬ ¬ (0 ≤ p ∧ p ≤ r - 1) by assumption), if_pos (show ¬ (0 ≤ c ∧ c ≤ 99) by assumption)]) hZ (Nat.le_succ _)
        | exact qZ_ofN (by unfold doingS; rw [if_neg (show ¬ ¬ (0 ≤ k ∧ k ≤ 6) by assumption), if_neg (show ¬ ¬ (0 ≤ v ∧ v ≤ 9) by assumption), if_neg (show ¬ ¬ (1 ≤ r ∧ r ≤ 60) by assumption), if_neg (show ¬ ¬ (0 ≤ p ∧ p ≤ r - 1) by assumption), if_neg (show ¬ ¬ (0 ≤ c ∧ c ≤ 99) by assumption), if_pos (show ¬ (0 ≤ e ∧ e ≤ 99) by assumption)]) hZ (Nat.le_succ _)
      · refine g_iload_4 hX (dk DX11_doing 17 rfl) ?_
        refine g_iconst (v := 0) hX (dk DX11_doing 18 rfl) (by decide) ?_
        refine g_iload_3 hX (dk DX11_doing 19 rfl) ?_
        refine g_iconst (v := 1) hX (dk DX11_doing 20 rfl) (by decide) ?_
        refine g_isub hX (dk DX11_doing 21 rfl) ?_
        refine g_c3I hX sX11_doing_38 (by decide) (Nat.le_of_ble_eq_true rfl) rcN (by decide) (by decide) (c_X11_isNot hG ) ?_
        refine g_ifb_ne (tgt := 66) hX (dk DX11_doing 23 rfl) (by decide) (fun hc4 => ?_) (fun hc4 => ?_)
        · refine g_bipush (v := -2) hX (dk DX11_doing 34 rfl) (by decide) ?_
          refine g_ireturn hX (dk DX11_doing 35 rfl) rfl (rfl) (by decide) (by decide) ?_
          first
          | exact qZ_ofN (by unfold doingS; rw [if_neg (show ¬ ¬ (0 ≤ k ∧ k ≤ 6) by assumption), if_pos (show ¬ (0 ≤ v ∧ v ≤ 9) by assumption)]) hZ (Nat.le_succ _)
          | exact qZ_ofN (by unfold doingS; rw [if_neg (show ¬ ¬ (0 ≤ k ∧ k ≤ 6) by assumption), if_neg (show ¬ ¬ (0 ≤ v ∧ v ≤ 9) by assumption), if_pos (show ¬ (1 ≤ r ∧ r ≤ 60) by assumption)]) hZ (Nat.le_succ _)
          | exact qZ_ofN (by unfold doingS; rw [if_neg (show ¬ ¬ (0 ≤ k ∧ k ≤ 6) by assumption), if_neg (show ¬ ¬ (0 ≤ v ∧ v ≤ 9) by assumption), if_neg (show ¬ ¬ (1 ≤ r ∧ r ≤ 60) by assumption), if_pos (show ¬ (0 ≤ p ∧ p ≤ r - 1) by assumption)]) hZ (Nat.le_succ _)
          | exact qZ_ofN (by unfold doingS; rw [if_neg (show ¬ ¬ (0 ≤ k ∧ k ≤ 6) by assumption), if_neg (show ¬ ¬ (0 ≤ v ∧ v ≤ 9) by assumption), if_neg (show ¬ ¬ (1 ≤ r ∧ r ≤ 60) by assumption), if_neg (show ¬ ¬ (0 ≤ p ∧ p ≤ r - 1) by assumption), if_pos (show ¬ (0 ≤ c ∧ c ≤ 99) by assumption)]) hZ (Nat.le_succ _)
          | exact qZ_ofN (by unfold doingS; rw [if_neg (show ¬ ¬ (0 ≤ k ∧ k ≤ 6) by assumption), if_neg (show ¬ ¬ (0 ≤ v ∧ v ≤ 9) by assumption), if_neg (show ¬ ¬ (1 ≤ r ∧ r ≤ 60) by assumption), if_neg (show ¬ ¬ (0 ≤ p ∧ p ≤ r - 1) by assumption), if_neg (show ¬ ¬ (0 ≤ c ∧ c ≤ 99) by assumption), if_pos (show ¬ (0 ≤ e ∧ e ≤ 99) by assumption)]) hZ (Nat.le_succ _)
        · refine g_iload_5 hX (dk DX11_doing 24 rfl) ?_
          refine g_iconst (v := 0) hX (dk DX11_doing 25 rfl) (by decide) ?_
          refine g_bipush (v := 99) hX (dk DX11_doing 26 rfl) (by decide) ?_
          refine g_c3I hX sX11_doing_49 (by decide) (Nat.le_of_ble_eq_true rfl) rcN (by decide) (by decide) (c_X11_isNot hG ) ?_
          refine g_ifb_ne (tgt := 66) hX (dk DX11_doing 28 rfl) (by decide) (fun hc5 => ?_) (fun hc5 => ?_)
          · refine g_bipush (v := -2) hX (dk DX11_doing 34 rfl) (by decide) ?_
            refine g_ireturn hX (dk DX11_doing 35 rfl) rfl (rfl) (by decide) (by decide) ?_
            first
            | exact qZ_ofN (by unfold doingS; rw [if_neg (show ¬ ¬ (0 ≤ k ∧ k ≤ 6) by assumption), if_pos (show ¬ (0 ≤ v ∧ v ≤ 9) by assumption)]) hZ (Nat.le_succ _)
            | exact qZ_ofN (by unfold doingS; rw [if_neg (show ¬ ¬ (0 ≤ k ∧ k ≤ 6) by assumption), if_neg (show ¬ ¬ (0 ≤ v ∧ v ≤ 9) by assumption), if_pos (show ¬ (1 ≤ r ∧ r ≤ 60) by assumption)]) hZ (Nat.le_succ _)
            | exact qZ_ofN (by unfold doingS; rw [if_neg (show ¬ ¬ (0 ≤ k ∧ k ≤ 6) by assumption), if_neg (show ¬ ¬ (0 ≤ v ∧ v ≤ 9) by assumption), if_neg (show ¬ ¬ (1 ≤ r ∧ r ≤ 60) by assumption), if_pos (show ¬ (0 ≤ p ∧ p ≤ r - 1) by assumption)]) hZ (Nat.le_succ _)
            | exact qZ_ofN (by unfold doingS; rw [if_neg (show ¬ ¬ (0 ≤ k ∧ k ≤ 6) by assumption), if_neg (show ¬ ¬ (0 ≤ v ∧ v ≤ 9) by assumption), if_neg (show ¬ ¬ (1 ≤ r ∧ r ≤ 60) by assumption), if_neg (show ¬ ¬ (0 ≤ p ∧ p ≤ r - 1) by assumption), if_pos (show ¬ (0 ≤ c ∧ c ≤ 99) by assumption)]) hZ (Nat.le_succ _)
            | exact qZ_ofN (by unfold doingS; rw [if_neg (show ¬ ¬ (0 ≤ k ∧ k ≤ 6) by assumption), if_neg (show ¬ ¬ (0 ≤ v ∧ v ≤ 9) by assumption), if_neg (show ¬ ¬ (1 ≤ r ∧ r ≤ 60) by assumption), if_neg (show ¬ ¬ (0 ≤ p ∧ p ≤ r - 1) by assumption), if_neg (show ¬ ¬ (0 ≤ c ∧ c ≤ 99) by assumption), if_pos (show ¬ (0 ≤ e ∧ e ≤ 99) by assumption)]) hZ (Nat.le_succ _)
          · refine g_iload_6 hX (dk DX11_doing 29 rfl) ?_
            refine g_iconst (v := 0) hX (dk DX11_doing 30 rfl) (by decide) ?_
            refine g_bipush (v := 99) hX (dk DX11_doing 31 rfl) (by decide) ?_
            refine g_c3I hX sX11_doing_60 (by decide) (Nat.le_of_ble_eq_true rfl) rcN (by decide) (by decide) (c_X11_isNot hG ) ?_
            refine g_ifb_eq (tgt := 69) hX (dk DX11_doing 33 rfl) (by decide) (fun hc6 => ?_) (fun hc6 => ?_)
            · refine g_aload_0 hX (dk DX11_doing 36 rfl) ?_
              refine g_getRs (r := 1) hX (dk DX11_doing 37 rfl) KX11 fX11_12 (by decide) rfl (CLt hH (q := 0) (by decide)) (CC hH 0 (by decide) rfl) (CR hH 0 0 1 (by decide)) ?_
              refine g_getIv hX (dk DX11_doing 38 rfl) KX5 fX11_72 (by decide) rfl (CLt hH (q := 1) (by decide)) (CC hH 1 (by decide) rfl) (hN1) ?_
              refine g_bipush (v := 10) hX (dk DX11_doing 39 rfl) (by decide) ?_
              refine g_icmp_lt (tgt := 84) hX (dk DX11_doing 40 rfl) (by decide) (fun hc7 => ?_) (fun hc7 => ?_)
              · have hlt10 := lt_nI (b := 10) (by have := (inv_cnt hE).2; omega) (by decide) hc7
                have hr1 : 1 ≤ r := (Decidable.not_not.mp (show ¬ ¬ (1 ≤ r ∧ r ≤ 60) by assumption)).1
                refine g_aload_0 hX (dk DX11_doing 43 rfl) ?_
                refine g_getRs (r := 1) hX (dk DX11_doing 44 rfl) KX11 fX11_12 (by decide) rfl (CLt hH (q := 0) (by decide)) (CC hH 0 (by decide) rfl) (CR hH 0 0 1 (by decide)) ?_
                refine g_iload_1 hX (dk DX11_doing 45 rfl) ?_
                refine g_aload_0 hX (dk DX11_doing 46 rfl) ?_
                refine g_getRs (r := 1) hX (dk DX11_doing 47 rfl) KX11 fX11_12 (by decide) rfl (CLt hH (q := 0) (by decide)) (CC hH 0 (by decide) rfl) (CR hH 0 0 1 (by decide)) ?_
                refine g_getIv hX (dk DX11_doing 48 rfl) KX5 fX11_72 (by decide) rfl (CLt hH (q := 1) (by decide)) (CC hH 1 (by decide) rfl) (hN1) ?_
                refine g_iload_2 hX (dk DX11_doing 49 rfl) ?_
                refine g_iload_3 hX (dk DX11_doing 50 rfl) ?_
                refine g_iload_4 hX (dk DX11_doing 51 rfl) ?_
                refine g_iload_5 hX (dk DX11_doing 52 rfl) ?_
                refine g_iload_6 hX (dk DX11_doing 53 rfl) ?_
                refine g_c7 hX sX11_doing_104 (by decide) (Nat.le_of_ble_eq_true rfl) rcN (by decide) (by decide) (c_X11_made hG hGn) (fun r I2 h2 hq => ?_)
                obtain ⟨rfl, rfl, rfl⟩ := hq
                have hHx := hH
                have hH := HX.zA (c := kcl k) (a1 := 0) hH
                refine g_c2q hX sX11_doing_107 (by decide) (Nat.le_of_ble_eq_true rfl) (rc0 rfl (CLt hH (by decide)) (CC hH 1 (by decide) rfl)) (by decide) (by decide) (c_X5_add hG hH (n := cnt E) ((congrFun (dI_1 hHx.1) 2).trans hN1) hlt10 (Nat.lt_succ_self _) (by show isDC (if hn h = hn h then (kcl k, 0) else hs h (hn h)).1; rw [if_pos rfl]; exact kcl_dc k)) ?_
                rintro x I2 h2 ⟨rfl, rfl, rfl⟩
                refine g_ireturn hX (dk DX11_doing 56 rfl) rfl (rfl) (by decide) (by decide) ?_
                exact qZ_ofN (E' := doE E k v r p c e) (by unfold doingS; rw [if_neg (show ¬ ¬ (0 ≤ k ∧ k ≤ 6) by assumption), if_neg (show ¬ ¬ (0 ≤ v ∧ v ≤ 9) by assumption), if_neg (show ¬ ¬ (1 ≤ r ∧ r ≤ 60) by assumption), if_neg (show ¬ ¬ (0 ≤ p ∧ p ≤ r - 1) by assumption), if_neg (show ¬ ¬ (0 ≤ c ∧ c ≤ 99) by assumption), if_neg (show ¬ ¬ (0 ≤ e ∧ e ≤ 99) by assumption), if_neg (by rw [(inv_cnt hE).1]; exact fun z => absurd ((nI_eq (b := 10) (by omega) (by decide)).mp z) (by omega))]; exact congrArg (fun z => (z, _)) (inv_cnt hE).1) (RZ_doing hE hZ hlt10 hr1) (Nat.le_refl _)
              · refine g_bipush (v := -4) hX (dk DX11_doing 41 rfl) (by decide) ?_
                refine g_ireturn hX (dk DX11_doing 42 rfl) rfl (rfl) (by decide) (by decide) ?_
                exact qZ_ofN (by unfold doingS; rw [if_neg (show ¬ ¬ (0 ≤ k ∧ k ≤ 6) by assumption), if_neg (show ¬ ¬ (0 ≤ v ∧ v ≤ 9) by assumption), if_neg (show ¬ ¬ (1 ≤ r ∧ r ≤ 60) by assumption), if_neg (show ¬ ¬ (0 ≤ p ∧ p ≤ r - 1) by assumption), if_neg (show ¬ ¬ (0 ≤ c ∧ c ≤ 99) by assumption), if_neg (show ¬ ¬ (0 ≤ e ∧ e ≤ 99) by assumption), if_pos (by rw [(inv_cnt hE).1]; exact c10_n (inv_cnt hE).2 (by assumption))]) hZ (Nat.le_succ _)
            · refine g_bipush (v := -2) hX (dk DX11_doing 34 rfl) (by decide) ?_
              refine g_ireturn hX (dk DX11_doing 35 rfl) rfl (rfl) (by decide) (by decide) ?_
              first
              | exact qZ_ofN (by unfold doingS; rw [if_neg (show ¬ ¬ (0 ≤ k ∧ k ≤ 6) by assumption), if_pos (show ¬ (0 ≤ v ∧ v ≤ 9) by assumption)]) hZ (Nat.le_succ _)
              | exact qZ_ofN (by unfold doingS; rw [if_neg (show ¬ ¬ (0 ≤ k ∧ k ≤ 6) by assumption), if_neg (show ¬ ¬ (0 ≤ v ∧ v ≤ 9) by assumption), if_pos (show ¬ (1 ≤ r ∧ r ≤ 60) by assumption)]) hZ (Nat.le_succ _)
              | exact qZ_ofN (by unfold doingS; rw [if_neg (show ¬ ¬ (0 ≤ k ∧ k ≤ 6) by assumption), if_neg (show ¬ ¬ (0 ≤ v ∧ v ≤ 9) by assumption), if_neg (show ¬ ¬ (1 ≤ r ∧ r ≤ 60) by assumption), if_pos (show ¬ (0 ≤ p ∧ p ≤ r - 1) by assumption)]) hZ (Nat.le_succ _)
              | exact qZ_ofN (by unfold doingS; rw [if_neg (show ¬ ¬ (0 ≤ k ∧ k ≤ 6) by assumption), if_neg (show ¬ ¬ (0 ≤ v ∧ v ≤ 9) by assumption), if_neg (show ¬ ¬ (1 ≤ r ∧ r ≤ 60) by assumption), if_neg (show ¬ ¬ (0 ≤ p ∧ p ≤ r - 1) by assumption), if_pos (show ¬ (0 ≤ c ∧ c ≤ 99) by assumption)]) hZ (Nat.le_succ _)
              | exact qZ_ofN (by unfold doingS; rw [if_neg (show ¬ ¬ (0 ≤ k ∧ k ≤ 6) by assumption), if_neg (show ¬ ¬ (0 ≤ v ∧ v ≤ 9) by assumption), if_neg (show ¬ ¬ (1 ≤ r ∧ r ≤ 60) by assumption), if_neg (show ¬ ¬ (0 ≤ p ∧ p ≤ r - 1) by assumption), if_neg (show ¬ ¬ (0 ≤ c ∧ c ≤ 99) by assumption), if_pos (show ¬ (0 ≤ e ∧ e ≤ 99) by assumption)]) hZ (Nat.le_succ _)
  · refine g_iconst (v := -1) hX (dk DX11_doing 5 rfl) (by decide) ?_
    refine g_ireturn hX (dk DX11_doing 6 rfl) rfl (rfl) (by decide) (by decide) ?_
    exact qZ_ofN (by unfold doingS; rw [if_pos (by assumption)]) hZ (Nat.le_succ _)

