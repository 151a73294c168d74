set_option maxRecDepth 8000 in
set_option maxHeartbeats 4000000 in
theorem c_X12_chance {G : Gt} (hG : Gok G) {I : It} {h : Ht} (hM : HM h) {E : It} (hE : Inv E) (hR : RM E I) {L : Nat → Int64} (hl : hL h 38 = L) {n p : Int32} : Con G (3) 0 0 mX12_chance [.ref 0, .int n, .int p] I h (qSL (chanceF E n p) E L) := by
  refine con_intro (own := RX12) (lo0 := [some (.ref 0), some (.int n), some (.int p), none, none, none, none, none, none]) hG rfl pl_X12 (Nat.le_of_ble_eq_true rfl) rfl (fun X hX => ?_)
  have loop33 : ∀ m, m ≤ 60 → n = nI m → (0 ≤ p ∧ p ≤ 1) → ∀ (k i a b : Nat), i + k = cnt E → a ≤ 10 ^ i → (1 ≤ b ∧ b ≤ 10 ^ i) → chR E m k i a b = chR E m (cnt E) 0 1 1 → GG G (3) 0 0 X (qSL (chanceF E n p) E L) 33 [some (.ref 0), some (.int (nI m)), some (.int p), some (.long (lN a)), none, some (.long (lN b)), none, some (.int (nI i)), none] [] (I) (h) 0 0 := by
    intro m hm60 hn hp k
    subst hn
    have hin : 0 ≤ nI m ∧ nI m ≤ 60 := ⟨nI_pos' (by omega), (nI_leI (b := 60) (by omega) (by decide)).mpr hm60⟩
    have hc10 := inv_cnt hE
    induction k using Nat.strongRecOn with | _ k ih => ?_
    intro i a b hk ha hb hv
    refine g_iload_7 hX (dk DX12_chance_0 20 rfl) ?_
    refine g_aload_0 hX (dk DX12_chance_0 21 rfl) ?_
    refine g_getIv hX (dk DX12_chance_0 22 rfl) KX12 fX12_7 (by decide) rfl (MLt hM (by decide)) (MC hM) ((RM.f hR 0 (by decide) (by decide)).trans hc10.1) ?_
    refine g_icmp_ge (tgt := 93) hX (dk DX12_chance_0 23 rfl) (by decide) (fun hc1 => ?_) (fun hc1 => ?_)
    · have hg : 0 < Nat.gcd a b := Nat.gcd_pos_of_pos_right _ hb.1
      have hg2 : Nat.gcd a b < 2 ^ 63 := Nat.lt_of_le_of_lt (Nat.gcd_le_right _ hb.1) (ch_63 hb.2 (by omega))
      have hk0 := cl_end hk (by omega) hc1
      subst hk0
      refine g_aload_0 hX (dk DX12_chance_0 50 rfl) ?_
      refine g_lload_3 hX (dk DX12_chance_0 51 rfl) ?_
      refine g_lload_5 hX (dk DX12_chance_0 52 rfl) ?_
      refine g_c3L hX sX12_chance_97 (by decide) (Nat.le_of_ble_eq_true rfl) (rc0 rfl (MLt hM (by decide)) (MC hM)) (by decide) (by decide) (c_X12_divisor hG (ch_63 ha (by omega)) (ch_63 hb.2 (by omega))) ?_
      refine g_lstore_7 hX (dk DX12_chance_0 54 rfl) (by decide) rfl ?_
      refine g_iload_2 hX (dk DX12_chance_0 55 rfl) ?_
      refine g_if_ne (tgt := 113) hX (dk DX12_chance_0 56 rfl) (by decide) (fun hc2 => ?_) (fun hc2 => ?_)
      · refine g_lload_5 hX (dk DX12_chance_1 1 rfl) ?_
        refine g_lload_7 hX (dk DX12_chance_1 2 rfl) ?_
        refine g_ldiv hX (dk DX12_chance_1 3 rfl) (lN_ne0 hg hg2) ?_
        refine g_lreturn hX (dk DX12_chance_1 4 rfl) rfl (by decide) (by decide) ?_
        exact qSL_of hM hl (by unfold chanceF; rw [if_neg (not_not_intro hin), if_neg (not_not_intro hp), tN_nI (by omega), ← hv]; (try first | rw [if_pos hc1] | rw [if_neg hc1] | rw [if_neg (not_not_intro hc1)]); (try first | rw [if_pos hc2] | rw [if_neg hc2] | rw [if_neg (not_not_intro hc2)]); first | exact pk_lDiv (ch_63 ha (by omega)) hg hg2 | exact pk_lDiv (ch_63 hb.2 (by omega)) hg hg2) hR
      · refine g_lload_3 hX (dk DX12_chance_0 57 rfl) ?_
        refine g_lload_7 hX (dk DX12_chance_0 58 rfl) ?_
        refine g_ldiv hX (dk DX12_chance_0 59 rfl) (lN_ne0 hg hg2) ?_
        refine g_goto (tgt := 118) hX (dk DX12_chance_1 0 rfl) (by decide) ?_
        refine g_lreturn hX (dk DX12_chance_1 4 rfl) rfl (by decide) (by decide) ?_
        exact qSL_of hM hl (by unfold chanceF; rw [if_neg (not_not_intro hin), if_neg (not_not_intro hp), tN_nI (by omega), ← hv]; (try first | rw [if_pos hc1] | rw [if_neg hc1] | rw [if_neg (not_not_intro hc1)]); (try first | rw [if_pos hc2] | rw [if_neg hc2] | rw [if_neg (not_not_intro hc2)]); first | exact pk_lDiv (ch_63 ha (by omega)) hg hg2 | exact pk_lDiv (ch_63 hb.2 (by omega)) hg hg2) hR
    · obtain ⟨k, rfl⟩ := cl_go hk (by omega) hc1
      have hi : i < cnt E := by omega
      have hi10 : i < 10 := by omega
      refine g_aload_0 hX (dk DX12_chance_0 24 rfl) ?_
      refine g_aload_0 hX (dk DX12_chance_0 25 rfl) ?_
      refine g_getIv hX (dk DX12_chance_0 26 rfl) KX12 fX12_28 (by decide) rfl (MLt hM (by decide)) (MC hM) (RM.f hR 6 (by decide) (by decide)) ?_
      refine g_iload_7 hX (dk DX12_chance_0 27 rfl) ?_
      refine g_c3I hX sX12_chance_49 (by decide) (Nat.le_of_ble_eq_true rfl) (rc0 rfl (MLt hM (by decide)) (MC hM)) (by decide) (by decide) (c_X12_has hG ) ?_
      refine g_ifb_ne (tgt := 87) hX (dk DX12_chance_0 29 rfl) (by decide) (fun hc3 => ?_) (fun hc3 => ?_)
      · refine g_iinc_7 hX (dk DX12_chance_0 48 rfl) (nI_1 i) (by decide) rfl ?_
        refine g_goto (tgt := 33) hX (dk DX12_chance_0 49 rfl) (by decide) ?_
        first
        | exact ih k (by omega) (i + 1) _ _ (by omega) hbd.1 hbd.2 (by rw [← hv, hst])
        | exact ih k (by omega) (i + 1) _ _ (by omega) (ch_up ha) ⟨hb.1, ch_up hb.2⟩ (by rw [← hv]; first | rw [hst] | (rw [chR_s]; (try first | rw [if_pos hc1] | rw [if_neg hc1] | rw [if_neg (not_not_intro hc1)]); (try first | rw [if_pos hc3] | rw [if_neg hc3] | rw [if_neg (not_not_intro hc3)]); done))
      · have hst0 := hc3
        refine g_aload_0 hX (dk DX12_chance_0 30 rfl) ?_
        refine g_iload_7 hX (dk DX12_chance_0 31 rfl) ?_
        refine g_iload_1 hX (dk DX12_chance_0 32 rfl) ?_
        refine g_c3I hX sX12_chance_59 (by decide) (Nat.le_of_ble_eq_true rfl) (rc0 rfl (MLt hM (by decide)) (MC hM)) (by decide) (by decide) (c_X12_comesIn hG hM hE (Ag.of hR (by decide) (by decide)) hi (by omega)) ?_
        refine g_ifb_ne (tgt := 68) hX (dk DX12_chance_0 34 rfl) (by decide) (fun hc4 => ?_) (fun hc4 => ?_)
        · have hst : chR E m (k + 1) i a b = chR E m k (i + 1) (a * tN (E 7 i)) (b * 10) := by rw [chR_s, if_neg hst0, if_pos hc4]
          obtain ⟨-, -, -, -, -, o, ho, eo⟩ := inv_d hE hi
          have ht : tN (E 7 i) = o := by rw [eo, tN_nI (by omega)]
          rw [ht] at hst
          have hbd := ch_bd ha hb ho
          refine g_lload_3 hX (dk DX12_chance_0 36 rfl) ?_
          refine g_aload_0 hX (dk DX12_chance_0 37 rfl) ?_
          refine g_getRs (r := 7) hX (dk DX12_chance_0 38 rfl) KX12 fX12_50 (by decide) rfl (MLt hM (by decide)) (MC hM) (MR hM 13 (by decide) rfl) ?_
          refine g_iload_7 hX (dk DX12_chance_0 39 rfl) ?_
          refine v_iaload hX (dk DX12_chance_0 40 rfl) (MLt hM (q := 7) (by decide)) (MS hM 7 (by decide) rfl) (⟨rfl, hi10, by decide⟩) (RM.c1 hR 7 _ (by decide) (by decide)) ?_
          refine g_i2l hX (dk DX12_chance_0 41 rfl) ?_
          refine g_lmul hX (dk DX12_chance_0 42 rfl) ?_
          rw [eo, nI_l (by omega), lN_mul]
          refine g_lstore_3 hX (dk DX12_chance_0 43 rfl) (by decide) rfl ?_
          refine g_lload_5 hX (dk DX12_chance_0 44 rfl) ?_
          refine g_ldc2_w (v := 10) hX (dk DX12_chance_0 45 rfl) (tg_7 9 rfl rfl) ?_
          refine g_lmul hX (dk DX12_chance_0 46 rfl) ?_
          rw [show (10 : Int64) = lN 10 from rfl, lN_mul]
          refine g_lstore_5 hX (dk DX12_chance_0 47 rfl) (by decide) rfl ?_
          refine g_iinc_7 hX (dk DX12_chance_0 48 rfl) (nI_1 i) (by decide) rfl ?_
          refine g_goto (tgt := 33) hX (dk DX12_chance_0 49 rfl) (by decide) ?_
          first
          | exact ih k (by omega) (i + 1) _ _ (by omega) hbd.1 hbd.2 (by rw [← hv, hst])
          | exact ih k (by omega) (i + 1) _ _ (by omega) (ch_up ha) ⟨hb.1, ch_up hb.2⟩ (by rw [← hv]; first | rw [hst] | (rw [chR_s]; (try first | rw [if_pos hc1] | rw [if_neg hc1] | rw [if_neg (not_not_intro hc1)]); (try first | rw [if_pos hc3] | rw [if_neg hc3] | rw [if_neg (not_not_intro hc3)]); (try first | rw [if_pos hc4] | rw [if_neg hc4] | rw [if_neg (not_not_intro hc4)]); done))
        · have hst : chR E m (k + 1) i a b = chR E m k (i + 1) a b := by rw [chR_s, if_neg hst0, if_neg hc4]
          refine g_goto (tgt := 87) hX (dk DX12_chance_0 35 rfl) (by decide) ?_
          refine g_iinc_7 hX (dk DX12_chance_0 48 rfl) (nI_1 i) (by decide) rfl ?_
          refine g_goto (tgt := 33) hX (dk DX12_chance_0 49 rfl) (by decide) ?_
          first
          | exact ih k (by omega) (i + 1) _ _ (by omega) hbd.1 hbd.2 (by rw [← hv, hst])
          | exact ih k (by omega) (i + 1) _ _ (by omega) (ch_up ha) ⟨hb.1, ch_up hb.2⟩ (by rw [← hv]; first | rw [hst] | (rw [chR_s]; (try first | rw [if_pos hc1] | rw [if_neg hc1] | rw [if_neg (not_not_intro hc1)]); (try first | rw [if_pos hc3] | rw [if_neg hc3] | rw [if_neg (not_not_intro hc3)]); (try first | rw [if_pos hc4] | rw [if_neg hc4] | rw [if_neg (not_not_intro hc4)]); done))
  refine g_aload_0 hX (dk DX12_chance_0 0 rfl) ?_
  refine g_iload_1 hX (dk DX12_chance_0 1 rfl) ?_
  refine g_iconst (v := 0) hX (dk DX12_chance_0 2 rfl) (by decide) ?_
  refine g_bipush (v := 60) hX (dk DX12_chance_0 3 rfl) (by decide) ?_
  refine g_c4I hX sX12_chance_5 (by decide) (Nat.le_of_ble_eq_true rfl) (rc0 rfl (MLt hM (by decide)) (MC hM)) (by decide) (by decide) (c_X12_in hG ) ?_
  refine g_ifb_eq (tgt := 21) hX (dk DX12_chance_0 5 rfl) (by decide) (fun hc1 => ?_) (fun hc1 => ?_)
  · refine g_ldc2_w (v := -9223372036854775808) hX (dk DX12_chance_0 12 rfl) (tg_7 4 rfl rfl) ?_
    refine g_lreturn hX (dk DX12_chance_0 13 rfl) rfl (by decide) (by decide) ?_
    exact qSL_of hM hl (by unfold chanceF; (try first | rw [if_pos hc1] | rw [if_neg hc1] | rw [if_neg (not_not_intro hc1)]); first | done | rfl) hR
  · refine g_aload_0 hX (dk DX12_chance_0 6 rfl) ?_
    refine g_iload_2 hX (dk DX12_chance_0 7 rfl) ?_
    refine g_iconst (v := 0) hX (dk DX12_chance_0 8 rfl) (by decide) ?_
    refine g_iconst (v := 1) hX (dk DX12_chance_0 9 rfl) (by decide) ?_
    refine g_c4I hX sX12_chance_15 (by decide) (Nat.le_of_ble_eq_true rfl) (rc0 rfl (MLt hM (by decide)) (MC hM)) (by decide) (by decide) (c_X12_in hG ) ?_
    refine g_ifb_ne (tgt := 25) hX (dk DX12_chance_0 11 rfl) (by decide) (fun hc2 => ?_) (fun hc2 => ?_)
    · obtain ⟨m, hm2, rfl⟩ := in_of (b := 60) (by decide) hc1
      have hp := hc2
      refine g_lconst (v := 1) hX (dk DX12_chance_0 14 rfl) (by decide) ?_
      refine g_lstore_3 hX (dk DX12_chance_0 15 rfl) (by decide) rfl ?_
      refine g_lconst (v := 1) hX (dk DX12_chance_0 16 rfl) (by decide) ?_
      refine g_lstore_5 hX (dk DX12_chance_0 17 rfl) (by decide) rfl ?_
      refine g_iconst (v := 0) hX (dk DX12_chance_0 18 rfl) (by decide) ?_
      refine g_istore_7 hX (dk DX12_chance_0 19 rfl) (by decide) rfl ?_
      exact loop33 m hm2 rfl hp (cnt E) 0 1 1 (Nat.zero_add _) (by decide) (by decide) rfl
    · refine g_ldc2_w (v := -9223372036854775808) hX (dk DX12_chance_0 12 rfl) (tg_7 4 rfl rfl) ?_
      refine g_lreturn hX (dk DX12_chance_0 13 rfl) rfl (by decide) (by decide) ?_
      exact qSL_of hM hl (by unfold chanceF; (try first | rw [if_pos hc1] | rw [if_neg hc1] | rw [if_neg (not_not_intro hc1)]); (try first | rw [if_pos hc2] | rw [if_neg hc2] | rw [if_neg (not_not_intro hc2)]); first | done | rfl) hR

theorem rd_L {h : Ht} {L : Nat → Int64} (hl : hL h 38 = L) (j : Nat) (x : Int64) : hL (wL h 38 j x) 38 = vp_updL L j x := by
  rw [← hl]; exact upL_row _ _ _ _
set_option maxRecDepth 8000 in
set_option maxHeartbeats 4000000 in
theorem c_X12_item {G : Gt} (hG : Gok G) {I : It} {h : Ht} (hM : HM h) {E : It} (hE : Inv E) (hR : RM E I) {L : Nat → Int64} (hl : hL h 38 = L) {a e : Int32} {z : Int64} : Con G (3) 0 0 mX12_item [.ref 0, .int a, .int e, .long z] I h (qS ((itemS E L a e z).1, E) (itemS E L a e z).2) := by
  refine con_intro (own := RX12) (lo0 := [some (.ref 0), some (.int a), some (.int e), some (.long z), none]) hG rfl pl_X12 (Nat.le_of_ble_eq_true rfl) rfl (fun X hX => ?_)
  refine g_aload_0 hX (dk DX12_item 0 rfl) ?_
  refine g_iload_1 hX (dk DX12_item 1 rfl) ?_
  refine g_c2I hX sX12_item_2 (by decide) (Nat.le_of_ble_eq_true rfl) (rc0 rfl (MLt hM (by decide)) (MC hM)) (by decide) (by decide) (c_X12_isTape hG hM) ?_
  refine g_ifb_ne (tgt := 10) hX (dk DX12_item 3 rfl) (by decide) (fun hc1 => ?_) (fun hc1 => ?_)
  · obtain ⟨t, ht, rfl⟩ := in_of (b := 5) (by decide) hc1
    refine g_aload_0 hX (dk DX12_item 6 rfl) ?_
    refine g_getRs (r := 36) hX (dk DX12_item 7 rfl) KX12 fX12_220 (by decide) rfl (MLt hM (by decide)) (MC hM) (MR hM 69 (by decide) rfl) ?_
    refine g_iload_1 hX (dk DX12_item 8 rfl) ?_
    refine v_iaload hX (dk DX12_item 9 rfl) (MLt hM (q := 36) (by decide)) (MS hM 36 (by decide) rfl) (⟨rfl, by omega, by decide⟩) (RM.c1 hR 36 _ (by decide) (by decide)) ?_
    refine g_if_ge (tgt := 22) hX (dk DX12_item 10 rfl) (by decide) (fun hc2 => ?_) (fun hc2 => ?_)
    · refine g_aload_0 hX (dk DX12_item 13 rfl) ?_
      refine g_iload_2 hX (dk DX12_item 14 rfl) ?_
      refine g_iconst (v := 0) hX (dk DX12_item 15 rfl) (by decide) ?_
      refine g_aload_0 hX (dk DX12_item 16 rfl) ?_
      refine g_getRs (r := 37) hX (dk DX12_item 17 rfl) KX12 fX12_223 (by decide) rfl (MLt hM (by decide)) (MC hM) (MR hM 70 (by decide) rfl) ?_
      refine g_iload_1 hX (dk DX12_item 18 rfl) ?_
      refine v_iaload hX (dk DX12_item 19 rfl) (MLt hM (q := 37) (by decide)) (MS hM 37 (by decide) rfl) (⟨rfl, by omega, by decide⟩) (RM.c1 hR 37 _ (by decide) (by decide)) ?_
      refine g_iconst (v := 1) hX (dk DX12_item 20 rfl) (by decide) ?_
      refine g_isub hX (dk DX12_item 21 rfl) ?_
      refine g_c4I hX sX12_item_33 (by decide) (Nat.le_of_ble_eq_true rfl) (rc0 rfl (MLt hM (by decide)) (MC hM)) (by decide) (by decide) (c_X12_in hG ) ?_
      refine g_ifb_ne (tgt := 42) hX (dk DX12_item 23 rfl) (by decide) (fun hc3 => ?_) (fun hc3 => ?_)
      · obtain ⟨l, hl60, el⟩ := inv_tp hE (by omega) (Int32.not_lt.mpr hc2)
        rw [el] at hc3
        obtain ⟨j, hj, rfl⟩ := pl_of hl60 hc3
        have hrx := it_ix (t := t) (k := j) ht (by omega) rfl
        refine g_aload_0 hX (dk DX12_item 26 rfl) ?_
        refine g_getRs (r := 38) hX (dk DX12_item 27 rfl) KX12 fX12_226 (by decide) rfl (MLt hM (by decide)) (MC hM) (MR hM 71 (by decide) rfl) ?_
        refine g_bipush (v := 60) hX (dk DX12_item 28 rfl) (by decide) ?_
        refine g_iload_1 hX (dk DX12_item 29 rfl) ?_
        refine g_imul hX (dk DX12_item 30 rfl) ?_
        refine g_iload_2 hX (dk DX12_item 31 rfl) ?_
        refine g_iadd hX (dk DX12_item 32 rfl) ?_
        refine g_aload_0 hX (dk DX12_item 33 rfl) ?_
        refine g_aload_0 hX (dk DX12_item 34 rfl) ?_
        refine g_getRs (r := 36) hX (dk DX12_item 35 rfl) KX12 fX12_220 (by decide) rfl (MLt hM (by decide)) (MC hM) (MR hM 69 (by decide) rfl) ?_
        refine g_iload_1 hX (dk DX12_item 36 rfl) ?_
        refine v_iaload hX (dk DX12_item 37 rfl) (MLt hM (q := 36) (by decide)) (MS hM 36 (by decide) rfl) (⟨rfl, by omega, by decide⟩) (RM.c1 hR 36 _ (by decide) (by decide)) ?_
        refine g_lload_3 hX (dk DX12_item 38 rfl) ?_
        refine g_c3L hX sX12_item_60 (by decide) (Nat.le_of_ble_eq_true rfl) (rc0 rfl (MLt hM (by decide)) (MC hM)) (by decide) (by decide) (c_X12_narrow hG) ?_
        refine i_lastore hX (dk DX12_item 40 rfl) (MLt hM (q := 38) (by decide)) (MS hM 38 (by decide) rfl) (hrx) ?_
        refine g_iconst (v := 1) hX (dk DX12_item 41 rfl) (by decide) ?_
        refine g_ireturn hX (dk DX12_item 42 rfl) rfl (rfl) (by decide) (by decide) ?_
        have hst : itemS E L (nI t) (nI j) z = (1, vp_updL L (60 * t + j) (narF (E 36 t) z)) := by unfold itemS; rw [if_neg (not_not_intro hc1), tN_nI (by omega), if_neg (not_not_intro hc2), el, if_neg (not_not_intro hc3), tN_nI (by omega)]
        exact qS_of (HMw hM) (by rw [hst]; exact rd_L hl _ _) (by rw [hst]) hR
      · refine g_bipush (v := -13) hX (dk DX12_item 24 rfl) (by decide) ?_
        refine g_ireturn hX (dk DX12_item 25 rfl) rfl (rfl) (by decide) (by decide) ?_
        have hst : itemS E L (nI t) e z = (-13, L) := by unfold itemS; rw [tN_nI (by omega)]; (try first | rw [if_pos hc1] | rw [if_neg hc1] | rw [if_neg (not_not_intro hc1)]); (try first | rw [if_pos hc2] | rw [if_neg hc2] | rw [if_neg (not_not_intro hc2)]); (try first | rw [if_pos hc3] | rw [if_neg hc3] | rw [if_neg (not_not_intro hc3)]); first | done | rfl
        exact qS_of hM (by rw [hst]; exact hl) (by rw [hst]) hR
    · refine g_bipush (v := -11) hX (dk DX12_item 11 rfl) (by decide) ?_
      refine g_ireturn hX (dk DX12_item 12 rfl) rfl (rfl) (by decide) (by decide) ?_
      have hst : itemS E L (nI t) e z = (-11, L) := by unfold itemS; rw [tN_nI (by omega)]; (try first | rw [if_pos hc1] | rw [if_neg hc1] | rw [if_neg (not_not_intro hc1)]); (try first | rw [if_pos hc2] | rw [if_neg hc2] | rw [if_neg (not_not_intro hc2)]); first | done | rfl
      exact qS_of hM (by rw [hst]; exact hl) (by rw [hst]) hR
  · refine g_iconst (v := -1) hX (dk DX12_item 4 rfl) (by decide) ?_
    refine g_ireturn hX (dk DX12_item 5 rfl) rfl (rfl) (by decide) (by decide) ?_
    have hst : itemS E L a e z = (-1, L) := by unfold itemS; exact if_pos hc1
    exact qS_of hM (by rw [hst]; exact hl) (by rw [hst]) hR

