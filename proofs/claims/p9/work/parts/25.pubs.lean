section
set_option maxRecDepth 8000 in
set_option maxHeartbeats 4000000 in
theorem c_X12_chance {G : Gt} (hG : Gok G) {I : It} {h : Ht} (hM : HM h) {E : It} (hE : Inv E) (hR : RM E I) {L : Nat → Int64} (hl : hL h 38 = L) {n p : Int32} : Con G (3) 0 0 mX12_chance [.ref 0, .int n, .int p] I h (qSL (chanceF E n p) E L) := by
  refine con_intro (own := RX12) (lo0 := [some (.ref 0), some (.int n), some (.int p), none, none, none, none, none, none]) hG rfl pl_X12 (Nat.le_of_ble_eq_true rfl) rfl (fun X hX => ?_)
  have loop33 : ∀ m, m ≤ 60 → n = nI m → (0 ≤ p ∧ p ≤ 1) → ∀ (k i a b : Nat), i + k = cnt E → a ≤ 10 ^ i → (1 ≤ b ∧ b ≤ 10 ^ i) → chR E m k i a b = chR E m (cnt E) 0 1 1 → GG G (3) 0 0 X (qSL (chanceF E n p) E L) 33 [some (.ref 0), some (.int (nI m)), some (.int p), some (.long (lN a)), none, some (.long (lN b)), none, some (.int (nI i)), none] [] (I) (h) 0 0 := by
    intro m hm60 hn hp k
    subst hn
    have hin : 0 ≤ nI m ∧ nI m ≤ 60 := ⟨nI_pos' (by omega), (nI_leI (b := 60) (by omega) (by decide)).mpr hm60⟩
    have hc10 := inv_cnt hE
    induction k using Nat.strongRecOn with | _ k ih => ?_
    intro i a b hk ha hb hv
    refine g_iload_7 hX (dk DX12_chance_0 20 rfl) ?_
    refine g_aload_0 hX (dk DX12_chance_0 21 rfl) ?_
    refine g_getIv hX (dk DX12_chance_0 22 rfl) KX12 fX12_7 (by decide) rfl (MLt hM (by decide)) (MC hM) ((RM.f hR 0 (by decide) (by decide)).trans hc10.1) ?_
    refine g_icmp_ge (tgt := 93) hX (dk DX12_chance_0 23 rfl) (by decide) (fun hc1 => ?_) (fun hc1 => ?_)
    · have hg : 0 < Nat.gcd a b := Nat.gcd_pos_of_pos_right _ hb.1
      have hg2 : Nat.gcd a b < 2 ^ 63 := Nat.lt_of_le_of_lt (Nat.gcd_le_right _ hb.1) (ch_63 hb.2 (by omega))
      have hk0 := cl_end hk (by omega) hc1
      subst hk0
      refine g_aload_0 hX (dk DX12_chance_0 50 rfl) ?_
      refine g_lload_3 hX (dk DX12_chance_0 51 rfl) ?_
      refine g_lload_5 hX (dk DX12_chance_0 52 rfl) ?_
      refine g_c3L hX sX12_chance_97 (by decide) (Nat.le_of_ble_eq_true rfl) (rc0 rfl (MLt hM (by decide)) (MC hM)) (by decide) (by decide) (c_X12_divisor hG (ch_63 ha (by omega)) (ch_63 hb.2 (by omega))) ?_
      refine g_lstore_7 hX (dk DX12_chance_0 54 rfl) (by decide) rfl ?_
      refine g_iload_2 hX (dk DX12_chance_0 55 rfl) ?_
      refine g_if_ne (tgt := 113) hX (dk DX12_chance_0 56 rfl) (by decide) (fun hc2 => ?_) (fun hc2 => ?_)
      · refine g_lload_5 hX (dk DX12_chance_1 1 rfl) ?_
        refine g_lload_7 hX (dk DX12_chance_1 2 rfl) ?_
        refine g_ldiv hX (dk DX12_chance_1 3 rfl) (lN_ne0 hg hg2) ?_
        refine g_lreturn hX (dk DX12_chance_1 4 rfl) rfl (by decide) (by decide) ?_
        exact qSL_of hM hl (by unfold chanceF; rw [if_neg (not_not_intro hin), if_neg (not_not_intro hp), tN_nI (by omega), ← hv]; (try first | rw [if_pos hc1] | rw [if_neg hc1] | rw [if_neg (not_not_intro hc1)]); (try first | rw [if_pos hc2] | rw [if_neg hc2] | rw [if_neg (not_not_intro hc2)]); first | exact pk_lDiv (ch_63 ha (by omega)) hg hg2 | exact pk_lDiv (ch_63 hb.2 (by omega)) hg hg2) hR
      · refine g_lload_3 hX (dk DX12_chance_0 57 rfl) ?_
        refine g_lload_7 hX (dk DX12_chance_0 58 rfl) ?_
        refine g_ldiv hX (dk DX12_chance_0 59 rfl) (lN_ne0 hg hg2) ?_
        refine g_goto (tgt := 118) hX (dk DX12_chance_1 0 rfl) (by decide) ?_
        refine g_lreturn hX (dk DX12_chance_1 4 rfl) rfl (by decide) (by decide) ?_
        exact qSL_of hM hl (by unfold chanceF; rw [if_neg (not_not_intro hin), if_neg (not_not_intro hp), tN_nI (by omega), ← hv]; (try first | rw [if_pos hc1] | rw [if_neg hc1] | rw [if_neg (not_not_intro hc1)]); (try first | rw [if_pos hc2] | rw [if_neg hc2] | rw [if_neg (not_not_intro hc2)]); first | exact pk_lDiv (ch_63 ha (by omega)) hg hg2 | exact pk_lDiv (ch_63 hb.2 (by omega)) hg hg2) hR
    · obtain ⟨k, rfl⟩ := cl_go hk (by omega) hc1
      have hi : i < cnt E := by omega
      have hi10 : i < 10 := by omega
      refine g_aload_0 hX (dk DX12_chance_0 24 rfl) ?_
      refine g_aload_0 hX (dk DX12_chance_0 25 rfl) ?_
      refine g_getIv hX (dk DX12_chance_0 26 rfl) KX12 fX12_28 (by decide) rfl (MLt hM (by decide)) (MC hM) (RM.f hR 6 (by decide) (by decide)) ?_
      refine g_iload_7 hX (dk DX12_chance_0 27 rfl) ?_
      refine g_c3I hX sX12_chance_49 (by decide) (Nat.le_of_ble_eq_true rfl) (rc0 rfl (MLt hM (by decide)) (MC hM)) (by decide) (by decide) (c_X12_has hG ) ?_
      refine g_ifb_ne (tgt := 87) hX (dk DX12_chance_0 29 rfl) (by decide) (fun hc3 => ?_) (fun hc3 => ?_)
      · refine g_iinc_7 hX (dk DX12_chance_0 48 rfl) (nI_1 i) (by decide) rfl ?_
        refine g_goto (tgt := 33) hX (dk DX12_chance_0 49 rfl) (by decide) ?_
        first
        | exact ih k (by omega) (i + 1) _ _ (by omega) hbd.1 hbd.2 (by rw [← hv, hst])
        | exact ih k (by omega) (i + 1) _ _ (by omega) (ch_up ha) ⟨hb.1, ch_up hb.2⟩ (by rw [← hv]; first | rw [hst] | (rw [chR_s]; (try first | rw [if_pos hc1] | rw [if_neg hc1] | rw [if_neg (not_not_intro hc1)]); (try first | rw [if_pos hc3] | rw [if_neg hc3] | rw [if_neg (not_not_intro hc3)]); done))
      · have hst0 := hc3
        refine g_aload_0 hX (dk DX12_chance_0 30 rfl) ?_
        refine g_iload_7 hX (dk DX12_chance_0 31 rfl) ?_
        refine g_iload_1 hX (dk DX12_chance_0 32 rfl) ?_
        refine g_c3I hX sX12_chance_59 (by decide) (Nat.le_of_ble_eq_true rfl) (rc0 rfl (MLt hM (by decide)) (MC hM)) (by decide) (by decide) (c_X12_comesIn hG hM hE (Ag.of hR (by decide) (by decide)) hi (by omega)) ?_
        refine g_ifb_ne (tgt := 68) hX (dk DX12_chance_0 34 rfl) (by decide) (fun hc4 => ?_) (fun hc4 => ?_)
        · have hst : chR E m (k + 1) i a b = chR E m k (i + 1) (a * tN (E 7 i)) (b * 10) := by rw [chR_s, if_neg hst0, if_pos hc4]
          obtain ⟨-, -, -, -, -, o, ho, eo⟩ := inv_d hE hi
          have ht : tN (E 7 i) = o := by rw [eo, tN_nI (by omega)]
          rw [ht] at hst
          have hbd := ch_bd ha hb ho
          refine g_lload_3 hX (dk DX12_chance_0 36 rfl) ?_
          refine g_aload_0 hX (dk DX12_chance_0 37 rfl) ?_
          refine g_getRs (r := 7) hX (dk DX12_chance_0 38 rfl) KX12 fX12_50 (by decide) rfl (MLt hM (by decide)) (MC hM) (MR hM 13 (by decide) rfl) ?_
          refine g_iload_7 hX (dk DX12_chance_0 39 rfl) ?_
          refine v_iaload hX (dk DX12_chance_0 40 rfl) (MLt hM (q := 7) (by decide)) (MS hM 7 (by decide) rfl) (⟨rfl, hi10, by decide⟩) (RM.c1 hR 7 _ (by decide) (by decide)) ?_
          refine g_i2l hX (dk DX12_chance_0 41 rfl) ?_
          refine g_lmul hX (dk DX12_chance_0 42 rfl) ?_
          rw [eo, nI_l (by omega), lN_mul]
          refine g_lstore_3 hX (dk DX12_chance_0 43 rfl) (by decide) rfl ?_
          refine g_lload_5 hX (dk DX12_chance_0 44 rfl) ?_
          refine g_ldc2_w (v := 10) hX (dk DX12_chance_0 45 rfl) (tg_7 9 rfl rfl) ?_
          refine g_lmul hX (dk DX12_chance_0 46 rfl) ?_
          rw [show (10 : Int64) = lN 10 from rfl, lN_mul]
          refine g_lstore_5 hX (dk DX12_chance_0 47 rfl) (by decide) rfl ?_
          refine g_iinc_7 hX (dk DX12_chance_0 48 rfl) (nI_1 i) (by decide) rfl ?_
          refine g_goto (tgt := 33) hX (dk DX12_chance_0 49 rfl) (by decide) ?_
          first
          | exact ih k (by omega) (i + 1) _ _ (by omega) hbd.1 hbd.2 (by rw [← hv, hst])
          | exact ih k (by omega) (i + 1) _ _ (by omega) (ch_up ha) ⟨hb.1, ch_up hb.2⟩ (by rw [← hv]; first | rw [hst] | (rw [chR_s]; (try first | rw [if_pos hc1] | rw [if_neg hc1] | rw [if_neg (not_not_intro hc1)]); (try first | rw [if_pos hc3] | rw [if_neg hc3] | rw [if_neg (not_not_intro hc3)]); (try first | rw [if_pos hc4] | rw [if_neg hc4] | rw [if_neg (not_not_intro hc4)]); done))
        · have hst : chR E m (k + 1) i a b = chR E m k (i + 1) a b := by rw [chR_s, if_neg hst0, if_neg hc4]
          refine g_goto (tgt := 87) hX (dk DX12_chance_0 35 rfl) (by decide) ?_
          refine g_iinc_7 hX (dk DX12_chance_0 48 rfl) (nI_1 i) (by decide) rfl ?_
          refine g_goto (tgt := 33) hX (dk DX12_chance_0 49 rfl) (by decide) ?_
          first
          | exact ih k (by omega) (i + 1) _ _ (by omega) hbd.1 hbd.2 (by rw [← hv, hst])
          | exact ih k (by omega) (i + 1) _ _ (by omega) (ch_up ha) ⟨hb.1, ch_up hb.2⟩ (by rw [← hv]; first | rw [hst] | (rw [chR_s]; (try first | rw [if_pos hc1] | rw [if_neg hc1] | rw [if_neg (not_not_intro hc1)]); (try first | rw [if_pos hc3] | rw [if_neg hc3] | rw [if_neg (not_not_intro hc3)]); (try first | rw [if_pos hc4] | rw [if_neg hc4] | rw [if_neg (not_not_intro hc4)]); done))
  refine g_aload_0 hX (dk DX12_chance_0 0 rfl) ?_
  refine g_iload_1 hX (dk DX12_chance_0 1 rfl) ?_
  refine g_iconst (v := 0) hX (dk DX12_chance_0 2 rfl) (by decide) ?_
  refine g_bipush (v := 60) hX (dk DX12_chance_0 3 rfl) (by decide) ?_
  refine g_c4I hX sX12_chance_5 (by decide) (Nat.le_of_ble_eq_true rfl) (rc0 rfl (MLt hM (by decide)) (MC hM)) (by decide) (by decide) (c_X12_in hG ) ?_
  refine g_ifb_eq (tgt := 21) hX (dk DX12_chance_0 5 rfl) (by decide) (fun hc1 => ?_) (fun hc1 => ?_)
  · refine g_ldc2_w (v := -9223372036854775808) hX (dk DX12_chance_0 12 rfl) (tg_7 4 rfl rfl) ?_
    refine g_lreturn hX (dk DX12_chance_0 13 rfl) rfl (by decide) (by decide) ?_
    exact qSL_of hM hl (by unfold chanceF; (try first | rw [if_pos hc1] | rw [if_neg hc1] | rw [if_neg (not_not_intro hc1)]); first | done | rfl) hR
  · refine g_aload_0 hX (dk DX12_chance_0 6 rfl) ?_
    refine g_iload_2 hX (dk DX12_chance_0 7 rfl) ?_
    refine g_iconst (v := 0) hX (dk DX12_chance_0 8 rfl) (by decide) ?_
    refine g_iconst (v := 1) hX (dk DX12_chance_0 9 rfl) (by decide) ?_
    refine g_c4I hX sX12_chance_15 (by decide) (Nat.le_of_ble_eq_true rfl) (rc0 rfl (MLt hM (by decide)) (MC hM)) (by decide) (by decide) (c_X12_in hG ) ?_
    refine g_ifb_ne (tgt := 25) hX (dk DX12_chance_0 11 rfl) (by decide) (fun hc2 => ?_) (fun hc2 => ?_)
    · obtain ⟨m, hm2, rfl⟩ := in_of (b := 60) (by decide) hc1
      have hp := hc2
      refine g_lconst (v := 1) hX (dk DX12_chance_0 14 rfl) (by decide) ?_
      refine g_lstore_3 hX (dk DX12_chance_0 15 rfl) (by decide) rfl ?_
      refine g_lconst (v := 1) hX (dk DX12_chance_0 16 rfl) (by decide) ?_
      refine g_lstore_5 hX (dk DX12_chance_0 17 rfl) (by decide) rfl ?_
      refine g_iconst (v := 0) hX (dk DX12_chance_0 18 rfl) (by decide) ?_
      refine g_istore_7 hX (dk DX12_chance_0 19 rfl) (by decide) rfl ?_
      exact loop33 m hm2 rfl hp (cnt E) 0 1 1 (Nat.zero_add _) (by decide) (by decide) rfl
    · refine g_ldc2_w (v := -9223372036854775808) hX (dk DX12_chance_0 12 rfl) (tg_7 4 rfl rfl) ?_
      refine g_lreturn hX (dk DX12_chance_0 13 rfl) rfl (by decide) (by decide) ?_
      exact qSL_of hM hl (by unfold chanceF; (try first | rw [if_pos hc1] | rw [if_neg hc1] | rw [if_neg (not_not_intro hc1)]); (try first | rw [if_pos hc2] | rw [if_neg hc2] | rw [if_neg (not_not_intro hc2)]); first | done | rfl) hR

theorem rd_L {h : Ht} {L : Nat → Int64} (hl : hL h 38 = L) (j : Nat) (x : Int64) : hL (wL h 38 j x) 38 = vp_updL L j x := by
  rw [← hl]; exact upL_row _ _ _ _
set_option maxRecDepth 8000 in
set_option maxHeartbeats 4000000 in
theorem c_X12_item {G : Gt} (hG : Gok G) {I : It} {h : Ht} (hM : HM h) {E : It} (hE : Inv E) (hR : RM E I) {L : Nat → Int64} (hl : hL h 38 = L) {a e : Int32} {z : Int64} : Con G (3) 0 0 mX12_item [.ref 0, .int a, .int e, .long z] I h (qS ((itemS E L a e z).1, E) (itemS E L a e z).2) := by
  refine con_intro (own := RX12) (lo0 := [some (.ref 0), some (.int a), some (.int e), some (.long z), none]) hG rfl pl_X12 (Nat.le_of_ble_eq_true rfl) rfl (fun X hX => ?_)
  refine g_aload_0 hX (dk DX12_item 0 rfl) ?_
  refine g_iload_1 hX (dk DX12_item 1 rfl) ?_
  refine g_c2I hX sX12_item_2 (by decide) (Nat.le_of_ble_eq_true rfl) (rc0 rfl (MLt hM (by decide)) (MC hM)) (by decide) (by decide) (c_X12_isTape hG hM) ?_
  refine g_ifb_ne (tgt := 10) hX (dk DX12_item 3 rfl) (by decide) (fun hc1 => ?_) (fun hc1 => ?_)
  · obtain ⟨t, ht, rfl⟩ := in_of (b := 5) (by decide) hc1
    refine g_aload_0 hX (dk DX12_item 6 rfl) ?_
    refine g_getRs (r := 36) hX (dk DX12_item 7 rfl) KX12 fX12_220 (by decide) rfl (MLt hM (by decide)) (MC hM) (MR hM 69 (by decide) rfl) ?_
    refine g_iload_1 hX (dk DX12_item 8 rfl) ?_
    refine v_iaload hX (dk DX12_item 9 rfl) (MLt hM (q := 36) (by decide)) (MS hM 36 (by decide) rfl) (⟨rfl, by omega, by decide⟩) (RM.c1 hR 36 _ (by decide) (by decide)) ?_
    refine g_if_ge (tgt := 22) hX (dk DX12_item 10 rfl) (by decide) (fun hc2 => ?_) (fun hc2 => ?_)
    · refine g_aload_0 hX (dk DX12_item 13 rfl) ?_
      refine g_iload_2 hX (dk DX12_item 14 rfl) ?_
      refine g_iconst (v := 0) hX (dk DX12_item 15 rfl) (by decide) ?_
      refine g_aload_0 hX (dk DX12_item 16 rfl) ?_
      refine g_getRs (r := 37) hX (dk DX12_item 17 rfl) KX12 fX12_223 (by decide) rfl (MLt hM (by decide)) (MC hM) (MR hM 70 (by decide) rfl) ?_
      refine g_iload_1 hX (dk DX12_item 18 rfl) ?_
      refine v_iaload hX (dk DX12_item 19 rfl) (MLt hM (q := 37) (by decide)) (MS hM 37 (by decide) rfl) (⟨rfl, by omega, by decide⟩) (RM.c1 hR 37 _ (by decide) (by decide)) ?_
      refine g_iconst (v := 1) hX (dk DX12_item 20 rfl) (by decide) ?_
      refine g_isub hX (dk DX12_item 21 rfl) ?_
      refine g_c4I hX sX12_item_33 (by decide) (Nat.le_of_ble_eq_true rfl) (rc0 rfl (MLt hM (by decide)) (MC hM)) (by decide) (by decide) (c_X12_in hG ) ?_
      refine g_ifb_ne (tgt := 42) hX (dk DX12_item 23 rfl) (by decide) (fun hc3 => ?_) (fun hc3 => ?_)
      · obtain ⟨l, hl60, el⟩ := inv_tp hE (by omega) (Int32.not_lt.mpr hc2)
        rw [el] at hc3
        obtain ⟨j, hj, rfl⟩ := pl_of hl60 hc3
        have hrx := it_ix (t := t) (k := j) ht (by omega) rfl
        refine g_aload_0 hX (dk DX12_item 26 rfl) ?_
        refine g_getRs (r := 38) hX (dk DX12_item 27 rfl) KX12 fX12_226 (by decide) rfl (MLt hM (by decide)) (MC hM) (MR hM 71 (by decide) rfl) ?_
        refine g_bipush (v := 60) hX (dk DX12_item 28 rfl) (by decide) ?_
        refine g_iload_1 hX (dk DX12_item 29 rfl) ?_
        refine g_imul hX (dk DX12_item 30 rfl) ?_
        refine g_iload_2 hX (dk DX12_item 31 rfl) ?_
        refine g_iadd hX (dk DX12_item 32 rfl) ?_
        refine g_aload_0 hX (dk DX12_item 33 rfl) ?_
        refine g_aload_0 hX (dk DX12_item 34 rfl) ?_
        refine g_getRs (r := 36) hX (dk DX12_item 35 rfl) KX12 fX12_220 (by decide) rfl (MLt hM (by decide)) (MC hM) (MR hM 69 (by decide) rfl) ?_
        refine g_iload_1 hX (dk DX12_item 36 rfl) ?_
        refine v_iaload hX (dk DX12_item 37 rfl) (MLt hM (q := 36) (by decide)) (MS hM 36 (by decide) rfl) (⟨rfl, by omega, by decide⟩) (RM.c1 hR 36 _ (by decide) (by decide)) ?_
        refine g_lload_3 hX (dk DX12_item 38 rfl) ?_
        refine g_c3L hX sX12_item_60 (by decide) (Nat.le_of_ble_eq_true rfl) (rc0 rfl (MLt hM (by decide)) (MC hM)) (by decide) (by decide) (c_X12_narrow hG) ?_
        refine i_lastore hX (dk DX12_item 40 rfl) (MLt hM (q := 38) (by decide)) (MS hM 38 (by decide) rfl) (hrx) ?_
        refine g_iconst (v := 1) hX (dk DX12_item 41 rfl) (by decide) ?_
        refine g_ireturn hX (dk DX12_item 42 rfl) rfl (rfl) (by decide) (by decide) ?_
        have hst : itemS E L (nI t) (nI j) z = (1, vp_updL L (60 * t + j) (narF (E 36 t) z)) := by unfold itemS; rw [if_neg (not_not_intro hc1), tN_nI (by omega), if_neg (not_not_intro hc2), el, if_neg (not_not_intro hc3), tN_nI (by omega)]
        exact qS_of (HMw hM) (by rw [hst]; exact rd_L hl _ _) (by rw [hst]) hR
      · refine g_bipush (v := -13) hX (dk DX12_item 24 rfl) (by decide) ?_
        refine g_ireturn hX (dk DX12_item 25 rfl) rfl (rfl) (by decide) (by decide) ?_
        have hst : itemS E L (nI t) e z = (-13, L) := by unfold itemS; rw [tN_nI (by omega)]; (try first | rw [if_pos hc1] | rw [if_neg hc1] | rw [if_neg (not_not_intro hc1)]); (try first | rw [if_pos hc2] | rw [if_neg hc2] | rw [if_neg (not_not_intro hc2)]); (try first | rw [if_pos hc3] | rw [if_neg hc3] | rw [if_neg (not_not_intro hc3)]); first | done | rfl
        exact qS_of hM (by rw [hst]; exact hl) (by rw [hst]) hR
    · refine g_bipush (v := -11) hX (dk DX12_item 11 rfl) (by decide) ?_
      refine g_ireturn hX (dk DX12_item 12 rfl) rfl (rfl) (by decide) (by decide) ?_
      have hst : itemS E L (nI t) e z = (-11, L) := by unfold itemS; rw [tN_nI (by omega)]; (try first | rw [if_pos hc1] | rw [if_neg hc1] | rw [if_neg (not_not_intro hc1)]); (try first | rw [if_pos hc2] | rw [if_neg hc2] | rw [if_neg (not_not_intro hc2)]); first | done | rfl
      exact qS_of hM (by rw [hst]; exact hl) (by rw [hst]) hR
  · refine g_iconst (v := -1) hX (dk DX12_item 4 rfl) (by decide) ?_
    refine g_ireturn hX (dk DX12_item 5 rfl) rfl (rfl) (by decide) (by decide) ?_
    have hst : itemS E L a e z = (-1, L) := by unfold itemS; exact if_pos hc1
    exact qS_of hM (by rw [hst]; exact hl) (by rw [hst]) hR
end
section
set_option maxRecDepth 8000 in
set_option maxHeartbeats 4000000 in
theorem c_X12_tape {G : Gt} (hG : Gok G) {I : It} {h : Ht} (hM : HM h) {E : It} (hE : Inv E) (hR : RM E I) {L : Nat → Int64} (hl : hL h 38 = L) {a s n : Int32} : Con G (3) 0 0 mX12_tape [.ref 0, .int a, .int s, .int n] I h (qS (tapeS E a s n) (tapeL L a s n)) := by
  refine con_intro (own := RX12) (lo0 := [some (.ref 0), some (.int a), some (.int s), some (.int n), none]) hG rfl pl_X12 (Nat.le_of_ble_eq_true rfl) rfl (fun X hX => ?_)
  have loop69 : ∀ t, t ≤ 5 → a = nI t → ∀ (E2 J : It) (k i : Nat) (h2 : Ht), i + k = 60 → tapeS E a s n = (1, E2) ∧ tapeL L a s n = (fun j => if 60 * t ≤ j ∧ j < 60 * t + 60 then 0 else L j) → RM E2 J → HM h2 → (∀ j, hL h2 38 j = if 60 * t ≤ j ∧ j < 60 * t + i then 0 else L j) → GG G (3) 0 0 X (qS (tapeS E a s n) (tapeL L a s n)) 69 [some (.ref 0), some (.int (nI t)), some (.int s), some (.int n), some (.int (nI i))] [] (J) (h2) 0 0 := by
    intro t ht ha E2 J k
    subst ha
    induction k using Nat.strongRecOn with | _ k ih => ?_
    intro i h2 hk hs hR hM hj
    refine g_iload_4 hX (dk DX12_tape 41 rfl) ?_
    refine g_bipush (v := 60) hX (dk DX12_tape 42 rfl) (by decide) ?_
    refine g_icmp_ge (tgt := 95) hX (dk DX12_tape 43 rfl) (by decide) (fun hc1 => ?_) (fun hc1 => ?_)
    · refine g_iconst (v := 1) hX (dk DX12_tape 55 rfl) (by decide) ?_
      refine g_ireturn hX (dk DX12_tape 56 rfl) rfl (rfl) (by decide) (by decide) ?_
      have hk0 := cl_end (e := 60) hk (by decide) hc1
      subst hk0
      exact qS_of hM (by rw [hs.2]; funext j; rw [hj j]; rw [show i = 60 by omega]) hs.1 hR
    · obtain ⟨k, rfl⟩ := cl_go (e := 60) hk (by decide) hc1
      have hrx := it_ix (t := t) (k := i) ht (by omega) rfl
      refine g_aload_0 hX (dk DX12_tape 44 rfl) ?_
      refine g_getRs (r := 38) hX (dk DX12_tape 45 rfl) KX12 fX12_226 (by decide) rfl (MLt hM (by decide)) (MC hM) (MR hM 71 (by decide) rfl) ?_
      refine g_bipush (v := 60) hX (dk DX12_tape 46 rfl) (by decide) ?_
      refine g_iload_1 hX (dk DX12_tape 47 rfl) ?_
      refine g_imul hX (dk DX12_tape 48 rfl) ?_
      refine g_iload_4 hX (dk DX12_tape 49 rfl) ?_
      refine g_iadd hX (dk DX12_tape 50 rfl) ?_
      refine g_lconst (v := 0) hX (dk DX12_tape 51 rfl) (by decide) ?_
      refine i_lastore hX (dk DX12_tape 52 rfl) (MLt hM (q := 38) (by decide)) (MS hM 38 (by decide) rfl) (hrx) ?_
      refine g_iinc_4 hX (dk DX12_tape 53 rfl) (nI_1 i) (by decide) rfl ?_
      refine g_goto (tgt := 69) hX (dk DX12_tape 54 rfl) (by decide) ?_
      exact ih k (by omega) (i + 1) _ (by omega) hs hR (HMw hM) (fun j => by
        rw [show hL (wL h2 38 (60 * t + i) 0) 38 = vp_updL (hL h2 38) (60 * t + i) 0 from upL_row _ _ _ _]
        by_cases e : j = 60 * t + i
        · subst e; rw [pk_uLs, if_pos (by omega)]
        · rw [pk_uLn e, hj j]
          by_cases e2 : 60 * t ≤ j ∧ j < 60 * t + i
          · rw [if_pos e2, if_pos (by omega)]
          · rw [if_neg e2, if_neg (by omega)])
  refine g_aload_0 hX (dk DX12_tape 0 rfl) ?_
  refine g_iload_1 hX (dk DX12_tape 1 rfl) ?_
  refine g_c2I hX sX12_tape_2 (by decide) (Nat.le_of_ble_eq_true rfl) (rc0 rfl (MLt hM (by decide)) (MC hM)) (by decide) (by decide) (c_X12_isTape hG hM) ?_
  refine g_ifb_ne (tgt := 10) hX (dk DX12_tape 3 rfl) (by decide) (fun hc1 => ?_) (fun hc1 => ?_)
  · obtain ⟨t, ht, rfl⟩ := in_of (b := 5) (by decide) hc1
    refine g_aload_0 hX (dk DX12_tape 6 rfl) ?_
    refine g_iload_2 hX (dk DX12_tape 7 rfl) ?_
    refine g_iconst (v := -1) hX (dk DX12_tape 8 rfl) (by decide) ?_
    refine g_iconst (v := 4) hX (dk DX12_tape 9 rfl) (by decide) ?_
    refine g_c4I hX sX12_tape_14 (by decide) (Nat.le_of_ble_eq_true rfl) (rc0 rfl (MLt hM (by decide)) (MC hM)) (by decide) (by decide) (c_X12_in hG ) ?_
    refine g_ifb_eq (tgt := 30) hX (dk DX12_tape 11 rfl) (by decide) (fun hc2 => ?_) (fun hc2 => ?_)
    · refine g_bipush (v := -2) hX (dk DX12_tape 17 rfl) (by decide) ?_
      refine g_ireturn hX (dk DX12_tape 18 rfl) rfl (rfl) (by decide) (by decide) ?_
      exact qS_of hM (by unfold tapeL; (try first | rw [if_pos hc1] | rw [if_neg hc1] | rw [if_neg (not_not_intro hc1)]); (try first | rw [if_pos hc2] | rw [if_neg hc2] | rw [if_neg (not_not_intro hc2)]); exact hl) (by unfold tapeS; (try first | rw [if_pos hc1] | rw [if_neg hc1] | rw [if_neg (not_not_intro hc1)]); (try first | rw [if_pos hc2] | rw [if_neg hc2] | rw [if_neg (not_not_intro hc2)]); first | done | rfl) hR
    · refine g_iload_2 hX (dk DX12_tape 12 rfl) ?_
      refine g_if_lt (tgt := 33) hX (dk DX12_tape 13 rfl) (by decide) (fun hc3 => ?_) (fun hc3 => ?_)
      · refine g_iload_2 hX (dk DX12_tape 19 rfl) ?_
        refine g_if_lt (tgt := 44) hX (dk DX12_tape 20 rfl) (by decide) (fun hc4 => ?_) (fun hc4 => ?_)
        · refine g_aload_0 hX (dk DX12_tape 25 rfl) ?_
          refine g_getRs (r := 36) hX (dk DX12_tape 26 rfl) KX12 fX12_220 (by decide) rfl (MLt hM (by decide)) (MC hM) (MR hM 69 (by decide) rfl) ?_
          refine g_iload_1 hX (dk DX12_tape 27 rfl) ?_
          refine g_iload_2 hX (dk DX12_tape 28 rfl) ?_
          refine i_iastore hX (dk DX12_tape 29 rfl) (MLt hM (q := 36) (by decide)) (MS hM 36 (by decide) rfl) (⟨rfl, by omega, by decide⟩) ?_
          refine g_aload_0 hX (dk DX12_tape 30 rfl) ?_
          refine g_getRs (r := 37) hX (dk DX12_tape 31 rfl) KX12 fX12_223 (by decide) rfl (MLt hM (by decide)) (MC hM) (MR hM 70 (by decide) rfl) ?_
          refine g_iload_1 hX (dk DX12_tape 32 rfl) ?_
          refine g_iload_2 hX (dk DX12_tape 33 rfl) ?_
          refine g_if_ge (tgt := 64) hX (dk DX12_tape 34 rfl) (by decide) (fun hc5 => ?_) (fun hc5 => ?_)
          · refine g_iload_3 hX (dk DX12_tape 37 rfl) ?_
            refine i_iastore hX (dk DX12_tape 38 rfl) (MLt hM (q := 37) (by decide)) (MS hM 37 (by decide) rfl) (⟨rfl, by omega, by decide⟩) ?_
            refine g_iconst (v := 0) hX (dk DX12_tape 39 rfl) (by decide) ?_
            refine g_istore_4 hX (dk DX12_tape 40 rfl) (by decide) rfl ?_
            first
            | (exfalso; first | exact absurd ‹s < 0› ‹¬ s < 0› | exact absurd ‹0 ≤ s› ‹¬ 0 ≤ s› | exact absurd ‹s < 0› (Int32.not_lt.mpr ‹0 ≤ s›) | exact absurd (Int32.not_lt.mp ‹¬ s < 0›) ‹¬ 0 ≤ s›)
            | exact loop69 t ht rfl _ _ 60 0 h (Nat.zero_add _) ⟨by unfold tapeS; rw [tN_nI (by omega)]; (try first | rw [if_pos hc1] | rw [if_neg hc1] | rw [if_neg (not_not_intro hc1)]); (try first | rw [if_pos hc2] | rw [if_neg hc2] | rw [if_neg (not_not_intro hc2)]); (try first | rw [if_pos hc3] | rw [if_neg hc3] | rw [if_neg (not_not_intro hc3)]); (try first | rw [if_pos hc4] | rw [if_neg hc4] | rw [if_neg (not_not_intro hc4)]); (try first | rw [if_pos hc5] | rw [if_neg hc5] | rw [if_neg (not_not_intro hc5)]); first | done | rfl, by unfold tapeL; rw [tN_nI (by omega)]; (try first | rw [if_pos hc1] | rw [if_neg hc1] | rw [if_neg (not_not_intro hc1)]); (try first | rw [if_pos hc2] | rw [if_neg hc2] | rw [if_neg (not_not_intro hc2)]); (try first | rw [if_pos hc3] | rw [if_neg hc3] | rw [if_neg (not_not_intro hc3)]); (try first | rw [if_pos hc4] | rw [if_neg hc4] | rw [if_neg (not_not_intro hc4)]); (try first | rw [if_pos hc5] | rw [if_neg hc5] | rw [if_neg (not_not_intro hc5)]); first | done | rfl⟩ (RM.upc (RM.upc hR (by decide)) (by decide)) hM (fun j => by rw [if_neg (by omega), hl])
          · refine g_iconst (v := 0) hX (dk DX12_tape 35 rfl) (by decide) ?_
            refine g_goto (tgt := 65) hX (dk DX12_tape 36 rfl) (by decide) ?_
            refine i_iastore hX (dk DX12_tape 38 rfl) (MLt hM (q := 37) (by decide)) (MS hM 37 (by decide) rfl) (⟨rfl, by omega, by decide⟩) ?_
            refine g_iconst (v := 0) hX (dk DX12_tape 39 rfl) (by decide) ?_
            refine g_istore_4 hX (dk DX12_tape 40 rfl) (by decide) rfl ?_
            first
            | (exfalso; first | exact absurd ‹s < 0› ‹¬ s < 0› | exact absurd ‹0 ≤ s› ‹¬ 0 ≤ s› | exact absurd ‹s < 0› (Int32.not_lt.mpr ‹0 ≤ s›) | exact absurd (Int32.not_lt.mp ‹¬ s < 0›) ‹¬ 0 ≤ s›)
            | exact loop69 t ht rfl _ _ 60 0 h (Nat.zero_add _) ⟨by unfold tapeS; rw [tN_nI (by omega)]; (try first | rw [if_pos hc1] | rw [if_neg hc1] | rw [if_neg (not_not_intro hc1)]); (try first | rw [if_pos hc2] | rw [if_neg hc2] | rw [if_neg (not_not_intro hc2)]); (try first | rw [if_pos hc3] | rw [if_neg hc3] | rw [if_neg (not_not_intro hc3)]); (try first | rw [if_pos hc4] | rw [if_neg hc4] | rw [if_neg (not_not_intro hc4)]); (try first | rw [if_pos hc5] | rw [if_neg hc5] | rw [if_neg (not_not_intro hc5)]); first | done | rfl, by unfold tapeL; rw [tN_nI (by omega)]; (try first | rw [if_pos hc1] | rw [if_neg hc1] | rw [if_neg (not_not_intro hc1)]); (try first | rw [if_pos hc2] | rw [if_neg hc2] | rw [if_neg (not_not_intro hc2)]); (try first | rw [if_pos hc3] | rw [if_neg hc3] | rw [if_neg (not_not_intro hc3)]); (try first | rw [if_pos hc4] | rw [if_neg hc4] | rw [if_neg (not_not_intro hc4)]); (try first | rw [if_pos hc5] | rw [if_neg hc5] | rw [if_neg (not_not_intro hc5)]); first | done | rfl⟩ (RM.upc (RM.upc hR (by decide)) (by decide)) hM (fun j => by rw [if_neg (by omega), hl])
        · refine g_iload_3 hX (dk DX12_tape 21 rfl) ?_
          refine g_if_ge (tgt := 44) hX (dk DX12_tape 22 rfl) (by decide) (fun hc6 => ?_) (fun hc6 => ?_)
          · refine g_aload_0 hX (dk DX12_tape 25 rfl) ?_
            refine g_getRs (r := 36) hX (dk DX12_tape 26 rfl) KX12 fX12_220 (by decide) rfl (MLt hM (by decide)) (MC hM) (MR hM 69 (by decide) rfl) ?_
            refine g_iload_1 hX (dk DX12_tape 27 rfl) ?_
            refine g_iload_2 hX (dk DX12_tape 28 rfl) ?_
            refine i_iastore hX (dk DX12_tape 29 rfl) (MLt hM (q := 36) (by decide)) (MS hM 36 (by decide) rfl) (⟨rfl, by omega, by decide⟩) ?_
            refine g_aload_0 hX (dk DX12_tape 30 rfl) ?_
            refine g_getRs (r := 37) hX (dk DX12_tape 31 rfl) KX12 fX12_223 (by decide) rfl (MLt hM (by decide)) (MC hM) (MR hM 70 (by decide) rfl) ?_
            refine g_iload_1 hX (dk DX12_tape 32 rfl) ?_
            refine g_iload_2 hX (dk DX12_tape 33 rfl) ?_
            refine g_if_ge (tgt := 64) hX (dk DX12_tape 34 rfl) (by decide) (fun hc7 => ?_) (fun hc7 => ?_)
            · refine g_iload_3 hX (dk DX12_tape 37 rfl) ?_
              refine i_iastore hX (dk DX12_tape 38 rfl) (MLt hM (q := 37) (by decide)) (MS hM 37 (by decide) rfl) (⟨rfl, by omega, by decide⟩) ?_
              refine g_iconst (v := 0) hX (dk DX12_tape 39 rfl) (by decide) ?_
              refine g_istore_4 hX (dk DX12_tape 40 rfl) (by decide) rfl ?_
              first
              | (exfalso; first | exact absurd ‹s < 0› ‹¬ s < 0› | exact absurd ‹0 ≤ s› ‹¬ 0 ≤ s› | exact absurd ‹s < 0› (Int32.not_lt.mpr ‹0 ≤ s›) | exact absurd (Int32.not_lt.mp ‹¬ s < 0›) ‹¬ 0 ≤ s›)
              | exact loop69 t ht rfl _ _ 60 0 h (Nat.zero_add _) ⟨by unfold tapeS; rw [tN_nI (by omega)]; (try first | rw [if_pos hc1] | rw [if_neg hc1] | rw [if_neg (not_not_intro hc1)]); (try first | rw [if_pos hc2] | rw [if_neg hc2] | rw [if_neg (not_not_intro hc2)]); (try first | rw [if_pos hc3] | rw [if_neg hc3] | rw [if_neg (not_not_intro hc3)]); (try first | rw [if_pos hc4] | rw [if_neg hc4] | rw [if_neg (not_not_intro hc4)]); (try first | rw [if_pos hc6] | rw [if_neg hc6] | rw [if_neg (not_not_intro hc6)]); (try first | rw [if_pos hc7] | rw [if_neg hc7] | rw [if_neg (not_not_intro hc7)]); first | done | rfl, by unfold tapeL; rw [tN_nI (by omega)]; (try first | rw [if_pos hc1] | rw [if_neg hc1] | rw [if_neg (not_not_intro hc1)]); (try first | rw [if_pos hc2] | rw [if_neg hc2] | rw [if_neg (not_not_intro hc2)]); (try first | rw [if_pos hc3] | rw [if_neg hc3] | rw [if_neg (not_not_intro hc3)]); (try first | rw [if_pos hc4] | rw [if_neg hc4] | rw [if_neg (not_not_intro hc4)]); (try first | rw [if_pos hc6] | rw [if_neg hc6] | rw [if_neg (not_not_intro hc6)]); (try first | rw [if_pos hc7] | rw [if_neg hc7] | rw [if_neg (not_not_intro hc7)]); first | done | rfl⟩ (RM.upc (RM.upc hR (by decide)) (by decide)) hM (fun j => by rw [if_neg (by omega), hl])
            · refine g_iconst (v := 0) hX (dk DX12_tape 35 rfl) (by decide) ?_
              refine g_goto (tgt := 65) hX (dk DX12_tape 36 rfl) (by decide) ?_
              refine i_iastore hX (dk DX12_tape 38 rfl) (MLt hM (q := 37) (by decide)) (MS hM 37 (by decide) rfl) (⟨rfl, by omega, by decide⟩) ?_
              refine g_iconst (v := 0) hX (dk DX12_tape 39 rfl) (by decide) ?_
              refine g_istore_4 hX (dk DX12_tape 40 rfl) (by decide) rfl ?_
              first
              | (exfalso; first | exact absurd ‹s < 0› ‹¬ s < 0› | exact absurd ‹0 ≤ s› ‹¬ 0 ≤ s› | exact absurd ‹s < 0› (Int32.not_lt.mpr ‹0 ≤ s›) | exact absurd (Int32.not_lt.mp ‹¬ s < 0›) ‹¬ 0 ≤ s›)
              | exact loop69 t ht rfl _ _ 60 0 h (Nat.zero_add _) ⟨by unfold tapeS; rw [tN_nI (by omega)]; (try first | rw [if_pos hc1] | rw [if_neg hc1] | rw [if_neg (not_not_intro hc1)]); (try first | rw [if_pos hc2] | rw [if_neg hc2] | rw [if_neg (not_not_intro hc2)]); (try first | rw [if_pos hc3] | rw [if_neg hc3] | rw [if_neg (not_not_intro hc3)]); (try first | rw [if_pos hc4] | rw [if_neg hc4] | rw [if_neg (not_not_intro hc4)]); (try first | rw [if_pos hc6] | rw [if_neg hc6] | rw [if_neg (not_not_intro hc6)]); (try first | rw [if_pos hc7] | rw [if_neg hc7] | rw [if_neg (not_not_intro hc7)]); first | done | rfl, by unfold tapeL; rw [tN_nI (by omega)]; (try first | rw [if_pos hc1] | rw [if_neg hc1] | rw [if_neg (not_not_intro hc1)]); (try first | rw [if_pos hc2] | rw [if_neg hc2] | rw [if_neg (not_not_intro hc2)]); (try first | rw [if_pos hc3] | rw [if_neg hc3] | rw [if_neg (not_not_intro hc3)]); (try first | rw [if_pos hc4] | rw [if_neg hc4] | rw [if_neg (not_not_intro hc4)]); (try first | rw [if_pos hc6] | rw [if_neg hc6] | rw [if_neg (not_not_intro hc6)]); (try first | rw [if_pos hc7] | rw [if_neg hc7] | rw [if_neg (not_not_intro hc7)]); first | done | rfl⟩ (RM.upc (RM.upc hR (by decide)) (by decide)) hM (fun j => by rw [if_neg (by omega), hl])
          · refine g_bipush (v := -14) hX (dk DX12_tape 23 rfl) (by decide) ?_
            refine g_ireturn hX (dk DX12_tape 24 rfl) rfl (rfl) (by decide) (by decide) ?_
            first
            | (exfalso; first | exact absurd ‹s < 0› ‹¬ s < 0› | exact absurd ‹0 ≤ s› ‹¬ 0 ≤ s› | exact absurd ‹s < 0› (Int32.not_lt.mpr ‹0 ≤ s›) | exact absurd (Int32.not_lt.mp ‹¬ s < 0›) ‹¬ 0 ≤ s›)
            | exact qS_of hM (by unfold tapeL; (try first | rw [if_pos hc1] | rw [if_neg hc1] | rw [if_neg (not_not_intro hc1)]); (try first | rw [if_pos hc2] | rw [if_neg hc2] | rw [if_neg (not_not_intro hc2)]); (try first | rw [if_pos hc3] | rw [if_neg hc3] | rw [if_neg (not_not_intro hc3)]); (try first | rw [if_pos hc4] | rw [if_neg hc4] | rw [if_neg (not_not_intro hc4)]); (try first | rw [if_pos hc6] | rw [if_neg hc6] | rw [if_neg (not_not_intro hc6)]); exact hl) (by unfold tapeS; (try first | rw [if_pos hc1] | rw [if_neg hc1] | rw [if_neg (not_not_intro hc1)]); (try first | rw [if_pos hc2] | rw [if_neg hc2] | rw [if_neg (not_not_intro hc2)]); (try first | rw [if_pos hc3] | rw [if_neg hc3] | rw [if_neg (not_not_intro hc3)]); (try first | rw [if_pos hc4] | rw [if_neg hc4] | rw [if_neg (not_not_intro hc4)]); (try first | rw [if_pos hc6] | rw [if_neg hc6] | rw [if_neg (not_not_intro hc6)]); first | done | rfl) hR
      · refine g_iload_3 hX (dk DX12_tape 14 rfl) ?_
        refine g_bipush (v := 60) hX (dk DX12_tape 15 rfl) (by decide) ?_
        refine g_icmp_le (tgt := 33) hX (dk DX12_tape 16 rfl) (by decide) (fun hc8 => ?_) (fun hc8 => ?_)
        · refine g_iload_2 hX (dk DX12_tape 19 rfl) ?_
          refine g_if_lt (tgt := 44) hX (dk DX12_tape 20 rfl) (by decide) (fun hc9 => ?_) (fun hc9 => ?_)
          · refine g_aload_0 hX (dk DX12_tape 25 rfl) ?_
            refine g_getRs (r := 36) hX (dk DX12_tape 26 rfl) KX12 fX12_220 (by decide) rfl (MLt hM (by decide)) (MC hM) (MR hM 69 (by decide) rfl) ?_
            refine g_iload_1 hX (dk DX12_tape 27 rfl) ?_
            refine g_iload_2 hX (dk DX12_tape 28 rfl) ?_
            refine i_iastore hX (dk DX12_tape 29 rfl) (MLt hM (q := 36) (by decide)) (MS hM 36 (by decide) rfl) (⟨rfl, by omega, by decide⟩) ?_
            refine g_aload_0 hX (dk DX12_tape 30 rfl) ?_
            refine g_getRs (r := 37) hX (dk DX12_tape 31 rfl) KX12 fX12_223 (by decide) rfl (MLt hM (by decide)) (MC hM) (MR hM 70 (by decide) rfl) ?_
            refine g_iload_1 hX (dk DX12_tape 32 rfl) ?_
            refine g_iload_2 hX (dk DX12_tape 33 rfl) ?_
            refine g_if_ge (tgt := 64) hX (dk DX12_tape 34 rfl) (by decide) (fun hc10 => ?_) (fun hc10 => ?_)
            · refine g_iload_3 hX (dk DX12_tape 37 rfl) ?_
              refine i_iastore hX (dk DX12_tape 38 rfl) (MLt hM (q := 37) (by decide)) (MS hM 37 (by decide) rfl) (⟨rfl, by omega, by decide⟩) ?_
              refine g_iconst (v := 0) hX (dk DX12_tape 39 rfl) (by decide) ?_
              refine g_istore_4 hX (dk DX12_tape 40 rfl) (by decide) rfl ?_
              first
              | (exfalso; first | exact absurd ‹s < 0› ‹¬ s < 0› | exact absurd ‹0 ≤ s› ‹¬ 0 ≤ s› | exact absurd ‹s < 0› (Int32.not_lt.mpr ‹0 ≤ s›) | exact absurd (Int32.not_lt.mp ‹¬ s < 0›) ‹¬ 0 ≤ s›)
              | exact loop69 t ht rfl _ _ 60 0 h (Nat.zero_add _) ⟨by unfold tapeS; rw [tN_nI (by omega)]; (try first | rw [if_pos hc1] | rw [if_neg hc1] | rw [if_neg (not_not_intro hc1)]); (try first | rw [if_pos hc2] | rw [if_neg hc2] | rw [if_neg (not_not_intro hc2)]); (try first | rw [if_pos hc3] | rw [if_neg hc3] | rw [if_neg (not_not_intro hc3)]); (try first | rw [if_pos hc8] | rw [if_neg hc8] | rw [if_neg (not_not_intro hc8)]); (try first | rw [if_pos hc9] | rw [if_neg hc9] | rw [if_neg (not_not_intro hc9)]); (try first | rw [if_pos hc10] | rw [if_neg hc10] | rw [if_neg (not_not_intro hc10)]); first | done | rfl, by unfold tapeL; rw [tN_nI (by omega)]; (try first | rw [if_pos hc1] | rw [if_neg hc1] | rw [if_neg (not_not_intro hc1)]); (try first | rw [if_pos hc2] | rw [if_neg hc2] | rw [if_neg (not_not_intro hc2)]); (try first | rw [if_pos hc3] | rw [if_neg hc3] | rw [if_neg (not_not_intro hc3)]); (try first | rw [if_pos hc8] | rw [if_neg hc8] | rw [if_neg (not_not_intro hc8)]); (try first | rw [if_pos hc9] | rw [if_neg hc9] | rw [if_neg (not_not_intro hc9)]); (try first | rw [if_pos hc10] | rw [if_neg hc10] | rw [if_neg (not_not_intro hc10)]); first | done | rfl⟩ (RM.upc (RM.upc hR (by decide)) (by decide)) hM (fun j => by rw [if_neg (by omega), hl])
            · refine g_iconst (v := 0) hX (dk DX12_tape 35 rfl) (by decide) ?_
              refine g_goto (tgt := 65) hX (dk DX12_tape 36 rfl) (by decide) ?_
              refine i_iastore hX (dk DX12_tape 38 rfl) (MLt hM (q := 37) (by decide)) (MS hM 37 (by decide) rfl) (⟨rfl, by omega, by decide⟩) ?_
              refine g_iconst (v := 0) hX (dk DX12_tape 39 rfl) (by decide) ?_
              refine g_istore_4 hX (dk DX12_tape 40 rfl) (by decide) rfl ?_
              first
              | (exfalso; first | exact absurd ‹s < 0› ‹¬ s < 0› | exact absurd ‹0 ≤ s› ‹¬ 0 ≤ s› | exact absurd ‹s < 0› (Int32.not_lt.mpr ‹0 ≤ s›) | exact absurd (Int32.not_lt.mp ‹¬ s < 0›) ‹¬ 0 ≤ s›)
              | exact loop69 t ht rfl _ _ 60 0 h (Nat.zero_add _) ⟨by unfold tapeS; rw [tN_nI (by omega)]; (try first | rw [if_pos hc1] | rw [if_neg hc1] | rw [if_neg (not_not_intro hc1)]); (try first | rw [if_pos hc2] | rw [if_neg hc2] | rw [if_neg (not_not_intro hc2)]); (try first | rw [if_pos hc3] | rw [if_neg hc3] | rw [if_neg (not_not_intro hc3)]); (try first | rw [if_pos hc8] | rw [if_neg hc8] | rw [if_neg (not_not_intro hc8)]); (try first | rw [if_pos hc9] | rw [if_neg hc9] | rw [if_neg (not_not_intro hc9)]); (try first | rw [if_pos hc10] | rw [if_neg hc10] | rw [if_neg (not_not_intro hc10)]); first | done | rfl, by unfold tapeL; rw [tN_nI (by omega)]; (try first | rw [if_pos hc1] | rw [if_neg hc1] | rw [if_neg (not_not_intro hc1)]); (try first | rw [if_pos hc2] | rw [if_neg hc2] | rw [if_neg (not_not_intro hc2)]); (try first | rw [if_pos hc3] | rw [if_neg hc3] | rw [if_neg (not_not_intro hc3)]); (try first | rw [if_pos hc8] | rw [if_neg hc8] | rw [if_neg (not_not_intro hc8)]); (try first | rw [if_pos hc9] | rw [if_neg hc9] | rw [if_neg (not_not_intro hc9)]); (try first | rw [if_pos hc10] | rw [if_neg hc10] | rw [if_neg (not_not_intro hc10)]); first | done | rfl⟩ (RM.upc (RM.upc hR (by decide)) (by decide)) hM (fun j => by rw [if_neg (by omega), hl])
          · refine g_iload_3 hX (dk DX12_tape 21 rfl) ?_
            refine g_if_ge (tgt := 44) hX (dk DX12_tape 22 rfl) (by decide) (fun hc11 => ?_) (fun hc11 => ?_)
            · refine g_aload_0 hX (dk DX12_tape 25 rfl) ?_
              refine g_getRs (r := 36) hX (dk DX12_tape 26 rfl) KX12 fX12_220 (by decide) rfl (MLt hM (by decide)) (MC hM) (MR hM 69 (by decide) rfl) ?_
              refine g_iload_1 hX (dk DX12_tape 27 rfl) ?_
              refine g_iload_2 hX (dk DX12_tape 28 rfl) ?_
              refine i_iastore hX (dk DX12_tape 29 rfl) (MLt hM (q := 36) (by decide)) (MS hM 36 (by decide) rfl) (⟨rfl, by omega, by decide⟩) ?_
              refine g_aload_0 hX (dk DX12_tape 30 rfl) ?_
              refine g_getRs (r := 37) hX (dk DX12_tape 31 rfl) KX12 fX12_223 (by decide) rfl (MLt hM (by decide)) (MC hM) (MR hM 70 (by decide) rfl) ?_
              refine g_iload_1 hX (dk DX12_tape 32 rfl) ?_
              refine g_iload_2 hX (dk DX12_tape 33 rfl) ?_
              refine g_if_ge (tgt := 64) hX (dk DX12_tape 34 rfl) (by decide) (fun hc12 => ?_) (fun hc12 => ?_)
              · refine g_iload_3 hX (dk DX12_tape 37 rfl) ?_
                refine i_iastore hX (dk DX12_tape 38 rfl) (MLt hM (q := 37) (by decide)) (MS hM 37 (by decide) rfl) (⟨rfl, by omega, by decide⟩) ?_
                refine g_iconst (v := 0) hX (dk DX12_tape 39 rfl) (by decide) ?_
                refine g_istore_4 hX (dk DX12_tape 40 rfl) (by decide) rfl ?_
                first
                | (exfalso; first | exact absurd ‹s < 0› ‹¬ s < 0› | exact absurd ‹0 ≤ s› ‹¬ 0 ≤ s› | exact absurd ‹s < 0› (Int32.not_lt.mpr ‹0 ≤ s›) | exact absurd (Int32.not_lt.mp ‹¬ s < 0›) ‹¬ 0 ≤ s›)
                | exact loop69 t ht rfl _ _ 60 0 h (Nat.zero_add _) ⟨by unfold tapeS; rw [tN_nI (by omega)]; (try first | rw [if_pos hc1] | rw [if_neg hc1] | rw [if_neg (not_not_intro hc1)]); (try first | rw [if_pos hc2] | rw [if_neg hc2] | rw [if_neg (not_not_intro hc2)]); (try first | rw [if_pos hc3] | rw [if_neg hc3] | rw [if_neg (not_not_intro hc3)]); (try first | rw [if_pos hc8] | rw [if_neg hc8] | rw [if_neg (not_not_intro hc8)]); (try first | rw [if_pos hc9] | rw [if_neg hc9] | rw [if_neg (not_not_intro hc9)]); (try first | rw [if_pos hc11] | rw [if_neg hc11] | rw [if_neg (not_not_intro hc11)]); (try first | rw [if_pos hc12] | rw [if_neg hc12] | rw [if_neg (not_not_intro hc12)]); first | done | rfl, by unfold tapeL; rw [tN_nI (by omega)]; (try first | rw [if_pos hc1] | rw [if_neg hc1] | rw [if_neg (not_not_intro hc1)]); (try first | rw [if_pos hc2] | rw [if_neg hc2] | rw [if_neg (not_not_intro hc2)]); (try first | rw [if_pos hc3] | rw [if_neg hc3] | rw [if_neg (not_not_intro hc3)]); (try first | rw [if_pos hc8] | rw [if_neg hc8] | rw [if_neg (not_not_intro hc8)]); (try first | rw [if_pos hc9] | rw [if_neg hc9] | rw [if_neg (not_not_intro hc9)]); (try first | rw [if_pos hc11] | rw [if_neg hc11] | rw [if_neg (not_not_intro hc11)]); (try first | rw [if_pos hc12] | rw [if_neg hc12] | rw [if_neg (not_not_intro hc12)]); first | done | rfl⟩ (RM.upc (RM.upc hR (by decide)) (by decide)) hM (fun j => by rw [if_neg (by omega), hl])
              · refine g_iconst (v := 0) hX (dk DX12_tape 35 rfl) (by decide) ?_
                refine g_goto (tgt := 65) hX (dk DX12_tape 36 rfl) (by decide) ?_
                refine i_iastore hX (dk DX12_tape 38 rfl) (MLt hM (q := 37) (by decide)) (MS hM 37 (by decide) rfl) (⟨rfl, by omega, by decide⟩) ?_
                refine g_iconst (v := 0) hX (dk DX12_tape 39 rfl) (by decide) ?_
                refine g_istore_4 hX (dk DX12_tape 40 rfl) (by decide) rfl ?_
                first
                | (exfalso; first | exact absurd ‹s < 0› ‹¬ s < 0› | exact absurd ‹0 ≤ s› ‹¬ 0 ≤ s› | exact absurd ‹s < 0› (Int32.not_lt.mpr ‹0 ≤ s›) | exact absurd (Int32.not_lt.mp ‹¬ s < 0›) ‹¬ 0 ≤ s›)
                | exact loop69 t ht rfl _ _ 60 0 h (Nat.zero_add _) ⟨by unfold tapeS; rw [tN_nI (by omega)]; (try first | rw [if_pos hc1] | rw [if_neg hc1] | rw [if_neg (not_not_intro hc1)]); (try first | rw [if_pos hc2] | rw [if_neg hc2] | rw [if_neg (not_not_intro hc2)]); (try first | rw [if_pos hc3] | rw [if_neg hc3] | rw [if_neg (not_not_intro hc3)]); (try first | rw [if_pos hc8] | rw [if_neg hc8] | rw [if_neg (not_not_intro hc8)]); (try first | rw [if_pos hc9] | rw [if_neg hc9] | rw [if_neg (not_not_intro hc9)]); (try first | rw [if_pos hc11] | rw [if_neg hc11] | rw [if_neg (not_not_intro hc11)]); (try first | rw [if_pos hc12] | rw [if_neg hc12] | rw [if_neg (not_not_intro hc12)]); first | done | rfl, by unfold tapeL; rw [tN_nI (by omega)]; (try first | rw [if_pos hc1] | rw [if_neg hc1] | rw [if_neg (not_not_intro hc1)]); (try first | rw [if_pos hc2] | rw [if_neg hc2] | rw [if_neg (not_not_intro hc2)]); (try first | rw [if_pos hc3] | rw [if_neg hc3] | rw [if_neg (not_not_intro hc3)]); (try first | rw [if_pos hc8] | rw [if_neg hc8] | rw [if_neg (not_not_intro hc8)]); (try first | rw [if_pos hc9] | rw [if_neg hc9] | rw [if_neg (not_not_intro hc9)]); (try first | rw [if_pos hc11] | rw [if_neg hc11] | rw [if_neg (not_not_intro hc11)]); (try first | rw [if_pos hc12] | rw [if_neg hc12] | rw [if_neg (not_not_intro hc12)]); first | done | rfl⟩ (RM.upc (RM.upc hR (by decide)) (by decide)) hM (fun j => by rw [if_neg (by omega), hl])
            · refine g_bipush (v := -14) hX (dk DX12_tape 23 rfl) (by decide) ?_
              refine g_ireturn hX (dk DX12_tape 24 rfl) rfl (rfl) (by decide) (by decide) ?_
              first
              | (exfalso; first | exact absurd ‹s < 0› ‹¬ s < 0› | exact absurd ‹0 ≤ s› ‹¬ 0 ≤ s› | exact absurd ‹s < 0› (Int32.not_lt.mpr ‹0 ≤ s›) | exact absurd (Int32.not_lt.mp ‹¬ s < 0›) ‹¬ 0 ≤ s›)
              | exact qS_of hM (by unfold tapeL; (try first | rw [if_pos hc1] | rw [if_neg hc1] | rw [if_neg (not_not_intro hc1)]); (try first | rw [if_pos hc2] | rw [if_neg hc2] | rw [if_neg (not_not_intro hc2)]); (try first | rw [if_pos hc3] | rw [if_neg hc3] | rw [if_neg (not_not_intro hc3)]); (try first | rw [if_pos hc8] | rw [if_neg hc8] | rw [if_neg (not_not_intro hc8)]); (try first | rw [if_pos hc9] | rw [if_neg hc9] | rw [if_neg (not_not_intro hc9)]); (try first | rw [if_pos hc11] | rw [if_neg hc11] | rw [if_neg (not_not_intro hc11)]); exact hl) (by unfold tapeS; (try first | rw [if_pos hc1] | rw [if_neg hc1] | rw [if_neg (not_not_intro hc1)]); (try first | rw [if_pos hc2] | rw [if_neg hc2] | rw [if_neg (not_not_intro hc2)]); (try first | rw [if_pos hc3] | rw [if_neg hc3] | rw [if_neg (not_not_intro hc3)]); (try first | rw [if_pos hc8] | rw [if_neg hc8] | rw [if_neg (not_not_intro hc8)]); (try first | rw [if_pos hc9] | rw [if_neg hc9] | rw [if_neg (not_not_intro hc9)]); (try first | rw [if_pos hc11] | rw [if_neg hc11] | rw [if_neg (not_not_intro hc11)]); first | done | rfl) hR
        · refine g_bipush (v := -2) hX (dk DX12_tape 17 rfl) (by decide) ?_
          refine g_ireturn hX (dk DX12_tape 18 rfl) rfl (rfl) (by decide) (by decide) ?_
          exact qS_of hM (by unfold tapeL; (try first | rw [if_pos hc1] | rw [if_neg hc1] | rw [if_neg (not_not_intro hc1)]); (try first | rw [if_pos hc2] | rw [if_neg hc2] | rw [if_neg (not_not_intro hc2)]); (try first | rw [if_pos hc3] | rw [if_neg hc3] | rw [if_neg (not_not_intro hc3)]); (try first | rw [if_pos hc8] | rw [if_neg hc8] | rw [if_neg (not_not_intro hc8)]); exact hl) (by unfold tapeS; (try first | rw [if_pos hc1] | rw [if_neg hc1] | rw [if_neg (not_not_intro hc1)]); (try first | rw [if_pos hc2] | rw [if_neg hc2] | rw [if_neg (not_not_intro hc2)]); (try first | rw [if_pos hc3] | rw [if_neg hc3] | rw [if_neg (not_not_intro hc3)]); (try first | rw [if_pos hc8] | rw [if_neg hc8] | rw [if_neg (not_not_intro hc8)]); first | done | rfl) hR
  · refine g_iconst (v := -1) hX (dk DX12_tape 4 rfl) (by decide) ?_
    refine g_ireturn hX (dk DX12_tape 5 rfl) rfl (rfl) (by decide) (by decide) ?_
    exact qS_of hM (by unfold tapeL; (try first | rw [if_pos hc1] | rw [if_neg hc1] | rw [if_neg (not_not_intro hc1)]); exact hl) (by unfold tapeS; (try first | rw [if_pos hc1] | rw [if_neg hc1] | rw [if_neg (not_not_intro hc1)]); first | done | rfl) hR
end
section
set_option maxRecDepth 8000 in
set_option maxHeartbeats 4000000 in
theorem c_X12_judge {G : Gt} (hG : Gok G) {I : It} {h : Ht} (hM : HM h) {E : It} (hE : Inv E) (hR : RM E I) {L : Nat → Int64} (hl : hL h 38 = L) {a e : Int32} : Con G (3) 0 0 mX12_judge [.ref 0, .int a, .int e] I h (qS (judgeS E L a e) L) := by
  refine con_intro (own := RX12) (lo0 := [some (.ref 0), some (.int a), some (.int e), none]) hG rfl pl_X12 (Nat.le_of_ble_eq_true rfl) rfl (fun X hX => ?_)
  have loop34 : ∀ t, t ≤ 5 → a = nI t → judgeS E L a e = (jdR E L t e (cnt E) 0, E) → ∀ (k i : Nat), i + k = cnt E → jdR E L t e k i = jdR E L t e (cnt E) 0 → GG G (3) 0 0 X (qS (judgeS E L a e) L) 34 [some (.ref 0), some (.int (nI t)), some (.int e), some (.int (nI i))] [] (I) (h) 0 0 := by
    intro t ht ha hst k
    subst ha
    have hc10 := inv_cnt hE
    induction k using Nat.strongRecOn with | _ k ih => ?_
    intro i hk hv
    refine g_iload_3 hX (dk DX12_judge_0 21 rfl) ?_
    refine g_aload_0 hX (dk DX12_judge_0 22 rfl) ?_
    refine g_getIv hX (dk DX12_judge_0 23 rfl) KX12 fX12_7 (by decide) rfl (MLt hM (by decide)) (MC hM) ((RM.f hR 0 (by decide) (by decide)).trans hc10.1) ?_
    refine g_icmp_ge (tgt := 116) hX (dk DX12_judge_0 24 rfl) (by decide) (fun hc1 => ?_) (fun hc1 => ?_)
    · refine g_bipush (v := -5) hX (dk DX12_judge_1 11 rfl) (by decide) ?_
      refine g_ireturn hX (dk DX12_judge_1 12 rfl) rfl (rfl) (by decide) (by decide) ?_
      have hk0 := cl_end hk (by omega) hc1
      subst hk0
      exact qS_of hM hl (by rw [hst, ← hv]; rfl) hR
    · obtain ⟨k, rfl⟩ := cl_go hk (by omega) hc1
      have hi : i < cnt E := by omega
      refine g_aload_0 hX (dk DX12_judge_0 25 rfl) ?_
      refine g_getRs (r := 36) hX (dk DX12_judge_0 26 rfl) KX12 fX12_220 (by decide) rfl (MLt hM (by decide)) (MC hM) (MR hM 69 (by decide) rfl) ?_
      refine g_iload_1 hX (dk DX12_judge_0 27 rfl) ?_
      refine v_iaload hX (dk DX12_judge_0 28 rfl) (MLt hM (q := 36) (by decide)) (MS hM 36 (by decide) rfl) (⟨rfl, by omega, by decide⟩) (RM.c1 hR 36 _ (by decide) (by decide)) ?_
      refine g_if_lt (tgt := 69) hX (dk DX12_judge_0 29 rfl) (by decide) (fun hc2 => ?_) (fun hc2 => ?_)
      · refine g_bipush (v := 100) hX (dk DX12_judge_0 42 rfl) (by decide) ?_
        refine g_iload_3 hX (dk DX12_judge_0 43 rfl) ?_
        refine g_iadd hX (dk DX12_judge_0 44 rfl) ?_
        refine g_ireturn hX (dk DX12_judge_0 45 rfl) rfl (rfl) (by decide) (by decide) ?_
        exact qS_of hM hl (by rw [hst, ← hv, jdR_s]; (try first | rw [if_pos hc1] | rw [if_neg hc1] | rw [if_neg (not_not_intro hc1)]); (try first | rw [if_pos hc2] | rw [if_neg hc2] | rw [if_neg (not_not_intro hc2)]); first | done | rfl) hR
      · have hs0 := hc2
        refine g_iload_2 hX (dk DX12_judge_0 30 rfl) ?_
        refine g_if_lt (tgt := 69) hX (dk DX12_judge_0 31 rfl) (by decide) (fun hc3 => ?_) (fun hc3 => ?_)
        · refine g_bipush (v := 100) hX (dk DX12_judge_0 42 rfl) (by decide) ?_
          refine g_iload_3 hX (dk DX12_judge_0 43 rfl) ?_
          refine g_iadd hX (dk DX12_judge_0 44 rfl) ?_
          refine g_ireturn hX (dk DX12_judge_0 45 rfl) rfl (rfl) (by decide) (by decide) ?_
          exact qS_of hM hl (by rw [hst, ← hv, jdR_s]; (try first | rw [if_pos hc1] | rw [if_neg hc1] | rw [if_neg (not_not_intro hc1)]); (try first | rw [if_pos hc2] | rw [if_neg hc2] | rw [if_neg (not_not_intro hc2)]); (try first | rw [if_pos hc3] | rw [if_neg hc3] | rw [if_neg (not_not_intro hc3)]); first | done | rfl) hR
        · have he0 := hc3
          refine g_iload_2 hX (dk DX12_judge_0 32 rfl) ?_
          refine g_aload_0 hX (dk DX12_judge_0 33 rfl) ?_
          refine g_getRs (r := 37) hX (dk DX12_judge_0 34 rfl) KX12 fX12_223 (by decide) rfl (MLt hM (by decide)) (MC hM) (MR hM 70 (by decide) rfl) ?_
          refine g_iload_1 hX (dk DX12_judge_0 35 rfl) ?_
          refine v_iaload hX (dk DX12_judge_0 36 rfl) (MLt hM (q := 37) (by decide)) (MS hM 37 (by decide) rfl) (⟨rfl, by omega, by decide⟩) (RM.c1 hR 37 _ (by decide) (by decide)) ?_
          refine g_iload_3 hX (dk DX12_judge_0 37 rfl) ?_
          refine g_isub hX (dk DX12_judge_0 38 rfl) ?_
          refine g_iconst (v := 1) hX (dk DX12_judge_0 39 rfl) (by decide) ?_
          refine g_isub hX (dk DX12_judge_0 40 rfl) ?_
          refine g_icmp_le (tgt := 74) hX (dk DX12_judge_0 41 rfl) (by decide) (fun hc4 => ?_) (fun hc4 => ?_)
          · have hle := hc4
            obtain ⟨l, hl60, el⟩ := inv_tp hE (by omega) hs0
            obtain ⟨q, hq, rfl⟩ := nI_of he0
            have hql := jd_le (i := i) (q := q) hl60 (by omega) hq (by rw [el] at hle; exact hle)
            have hrx : idx ((60 : Int32) * nI t + nI q + nI i) (60 * t + q + i) 360 := ⟨by rw [show (60 : Int32) = nI 60 from rfl, pk_mul, nI_add, nI_add], by omega, by decide⟩
            refine g_aload_0 hX (dk DX12_judge_0 46 rfl) ?_
            refine g_getRs (r := 38) hX (dk DX12_judge_0 47 rfl) KX12 fX12_226 (by decide) rfl (MLt hM (by decide)) (MC hM) (MR hM 71 (by decide) rfl) ?_
            refine g_bipush (v := 60) hX (dk DX12_judge_0 48 rfl) (by decide) ?_
            refine g_iload_1 hX (dk DX12_judge_0 49 rfl) ?_
            refine g_imul hX (dk DX12_judge_0 50 rfl) ?_
            refine g_iload_2 hX (dk DX12_judge_0 51 rfl) ?_
            refine g_iadd hX (dk DX12_judge_0 52 rfl) ?_
            refine g_iload_3 hX (dk DX12_judge_0 53 rfl) ?_
            refine g_iadd hX (dk DX12_judge_0 54 rfl) ?_
            refine v_laload hX (dk DX12_judge_0 55 rfl) (MLt hM (q := 38) (by decide)) (MS hM 38 (by decide) rfl) (hrx) (congrFun hl _) ?_
            refine g_aload_0 hX (dk DX12_judge_0 56 rfl) ?_
            refine g_aload_0 hX (dk DX12_judge_0 57 rfl) ?_
            refine g_getIv hX (dk DX12_judge_0 58 rfl) KX12 fX12_25 (by decide) rfl (MLt hM (by decide)) (MC hM) (RM.f hR 5 (by decide) (by decide)) ?_
            refine g_iload_3 hX (dk DX12_judge_0 59 rfl) ?_
            refine g_c3I hX sX12_judge_93 (by decide) (Nat.le_of_ble_eq_true rfl) (rc0 rfl (MLt hM (by decide)) (MC hM)) (by decide) (by decide) (c_X12_has hG ) ?_
            refine g_ifb_eq (tgt := 103) hX (dk DX12_judge_1 1 rfl) (by decide) (fun hc5 => ?_) (fun hc5 => ?_)
            · have hbit : (if hasI (E 0 5) (nI i) = 1 then (1 : Int64) else 0) = 0 := if_neg hc5
              refine g_lconst (v := 0) hX (dk DX12_judge_1 4 rfl) (by decide) ?_
              refine g_lcmp hX (dk DX12_judge_1 5 rfl) ?_
              refine g_if_eq (tgt := 110) hX (dk DX12_judge_1 6 rfl) (by decide) (fun hc6 => ?_) (fun hc6 => ?_)
              · have hs2 : jdR E L t (nI q) (k + 1) i = jdR E L t (nI q) k (i + 1) := by rw [jdR_s, if_neg hs0, if_neg he0, if_neg (not_not_intro hle), tN_nI hq, hbit, if_pos ((lg_eq _ _).mp hc6)]
                refine g_iinc_3 hX (dk DX12_judge_1 9 rfl) (nI_1 i) (by decide) rfl ?_
                refine g_goto (tgt := 34) hX (dk DX12_judge_1 10 rfl) (by decide) ?_
                exact ih k (by omega) (i + 1) (by omega) (by rw [← hv, hs2])
              · have hs2 : jdR E L t (nI q) (k + 1) i = nI i := by rw [jdR_s, if_neg hs0, if_neg he0, if_neg (not_not_intro hle), tN_nI hq, hbit, if_neg (fun z => hc6 ((lg_eq _ _).mpr z))]
                refine g_iload_3 hX (dk DX12_judge_1 7 rfl) ?_
                refine g_ireturn hX (dk DX12_judge_1 8 rfl) rfl (rfl) (by decide) (by decide) ?_
                exact qS_of hM hl (by rw [hst, ← hv, hs2]) hR
            · have hbit : (if hasI (E 0 5) (nI i) = 1 then (1 : Int64) else 0) = 1 := if_pos hc5
              refine g_lconst (v := 1) hX (dk DX12_judge_1 2 rfl) (by decide) ?_
              refine g_goto (tgt := 104) hX (dk DX12_judge_1 3 rfl) (by decide) ?_
              refine g_lcmp hX (dk DX12_judge_1 5 rfl) ?_
              refine g_if_eq (tgt := 110) hX (dk DX12_judge_1 6 rfl) (by decide) (fun hc7 => ?_) (fun hc7 => ?_)
              · have hs2 : jdR E L t (nI q) (k + 1) i = jdR E L t (nI q) k (i + 1) := by rw [jdR_s, if_neg hs0, if_neg he0, if_neg (not_not_intro hle), tN_nI hq, hbit, if_pos ((lg_eq _ _).mp hc7)]
                refine g_iinc_3 hX (dk DX12_judge_1 9 rfl) (nI_1 i) (by decide) rfl ?_
                refine g_goto (tgt := 34) hX (dk DX12_judge_1 10 rfl) (by decide) ?_
                exact ih k (by omega) (i + 1) (by omega) (by rw [← hv, hs2])
              · have hs2 : jdR E L t (nI q) (k + 1) i = nI i := by rw [jdR_s, if_neg hs0, if_neg he0, if_neg (not_not_intro hle), tN_nI hq, hbit, if_neg (fun z => hc7 ((lg_eq _ _).mpr z))]
                refine g_iload_3 hX (dk DX12_judge_1 7 rfl) ?_
                refine g_ireturn hX (dk DX12_judge_1 8 rfl) rfl (rfl) (by decide) (by decide) ?_
                exact qS_of hM hl (by rw [hst, ← hv, hs2]) hR
          · refine g_bipush (v := 100) hX (dk DX12_judge_0 42 rfl) (by decide) ?_
            refine g_iload_3 hX (dk DX12_judge_0 43 rfl) ?_
            refine g_iadd hX (dk DX12_judge_0 44 rfl) ?_
            refine g_ireturn hX (dk DX12_judge_0 45 rfl) rfl (rfl) (by decide) (by decide) ?_
            exact qS_of hM hl (by rw [hst, ← hv, jdR_s]; (try first | rw [if_pos hc1] | rw [if_neg hc1] | rw [if_neg (not_not_intro hc1)]); (try first | rw [if_pos hc2] | rw [if_neg hc2] | rw [if_neg (not_not_intro hc2)]); (try first | rw [if_pos hc3] | rw [if_neg hc3] | rw [if_neg (not_not_intro hc3)]); (try first | rw [if_pos hc4] | rw [if_neg hc4] | rw [if_neg (not_not_intro hc4)]); first | done | rfl) hR
  refine g_aload_0 hX (dk DX12_judge_0 0 rfl) ?_
  refine g_iload_1 hX (dk DX12_judge_0 1 rfl) ?_
  refine g_c2I hX sX12_judge_2 (by decide) (Nat.le_of_ble_eq_true rfl) (rc0 rfl (MLt hM (by decide)) (MC hM)) (by decide) (by decide) (c_X12_isTape hG hM) ?_
  refine g_ifb_ne (tgt := 10) hX (dk DX12_judge_0 3 rfl) (by decide) (fun hc1 => ?_) (fun hc1 => ?_)
  · obtain ⟨t, ht, rfl⟩ := in_of (b := 5) (by decide) hc1
    refine g_aload_0 hX (dk DX12_judge_0 6 rfl) ?_
    refine g_getRs (r := 36) hX (dk DX12_judge_0 7 rfl) KX12 fX12_220 (by decide) rfl (MLt hM (by decide)) (MC hM) (MR hM 69 (by decide) rfl) ?_
    refine g_iload_1 hX (dk DX12_judge_0 8 rfl) ?_
    refine v_iaload hX (dk DX12_judge_0 9 rfl) (MLt hM (q := 36) (by decide)) (MS hM 36 (by decide) rfl) (⟨rfl, by omega, by decide⟩) (RM.c1 hR 36 _ (by decide) (by decide)) ?_
    refine g_if_lt (tgt := 32) hX (dk DX12_judge_0 10 rfl) (by decide) (fun hc2 => ?_) (fun hc2 => ?_)
    · have hst : judgeS E L (nI t) e = (jdR E L t e (cnt E) 0, E) := by unfold judgeS; rw [tN_nI (by omega)]; (try first | rw [if_pos hc1] | rw [if_neg hc1] | rw [if_neg (not_not_intro hc1)]); (try first | rw [if_pos hc2] | rw [if_neg hc2] | rw [if_neg (not_not_intro hc2)]); first | done | rfl
      refine g_iconst (v := 0) hX (dk DX12_judge_0 19 rfl) (by decide) ?_
      refine g_istore_3 hX (dk DX12_judge_0 20 rfl) (by decide) rfl ?_
      exact loop34 t ht rfl hst (cnt E) 0 (Nat.zero_add _) rfl
    · refine g_aload_0 hX (dk DX12_judge_0 11 rfl) ?_
      refine g_getRs (r := 36) hX (dk DX12_judge_0 12 rfl) KX12 fX12_220 (by decide) rfl (MLt hM (by decide)) (MC hM) (MR hM 69 (by decide) rfl) ?_
      refine g_iload_1 hX (dk DX12_judge_0 13 rfl) ?_
      refine v_iaload hX (dk DX12_judge_0 14 rfl) (MLt hM (q := 36) (by decide)) (MS hM 36 (by decide) rfl) (⟨rfl, by omega, by decide⟩) (RM.c1 hR 36 _ (by decide) (by decide)) ?_
      refine g_iconst (v := 4) hX (dk DX12_judge_0 15 rfl) (by decide) ?_
      refine g_icmp_eq (tgt := 32) hX (dk DX12_judge_0 16 rfl) (by decide) (fun hc3 => ?_) (fun hc3 => ?_)
      · have hst : judgeS E L (nI t) e = (jdR E L t e (cnt E) 0, E) := by unfold judgeS; rw [tN_nI (by omega)]; (try first | rw [if_pos hc1] | rw [if_neg hc1] | rw [if_neg (not_not_intro hc1)]); (try first | rw [if_pos hc2] | rw [if_neg hc2] | rw [if_neg (not_not_intro hc2)]); (try first | rw [if_pos hc3] | rw [if_neg hc3] | rw [if_neg (not_not_intro hc3)]); first | done | rfl
        refine g_iconst (v := 0) hX (dk DX12_judge_0 19 rfl) (by decide) ?_
        refine g_istore_3 hX (dk DX12_judge_0 20 rfl) (by decide) rfl ?_
        exact loop34 t ht rfl hst (cnt E) 0 (Nat.zero_add _) rfl
      · refine g_bipush (v := -12) hX (dk DX12_judge_0 17 rfl) (by decide) ?_
        refine g_ireturn hX (dk DX12_judge_0 18 rfl) rfl (rfl) (by decide) (by decide) ?_
        exact qS_of hM hl (by unfold judgeS; (try rw [tN_nI (by omega)]); (try first | rw [if_pos hc1] | rw [if_neg hc1] | rw [if_neg (not_not_intro hc1)]); (try first | rw [if_pos hc2] | rw [if_neg hc2] | rw [if_neg (not_not_intro hc2)]); (try first | rw [if_pos hc3] | rw [if_neg hc3] | rw [if_neg (not_not_intro hc3)]); first | done | rfl) hR
  · refine g_iconst (v := -1) hX (dk DX12_judge_0 4 rfl) (by decide) ?_
    refine g_ireturn hX (dk DX12_judge_0 5 rfl) rfl (rfl) (by decide) (by decide) ?_
    exact qS_of hM hl (by unfold judgeS; (try rw [tN_nI (by omega)]); (try first | rw [if_pos hc1] | rw [if_neg hc1] | rw [if_neg (not_not_intro hc1)]); first | done | rfl) hR

set_option maxRecDepth 8000 in
set_option maxHeartbeats 4000000 in
theorem c_X12_shift {G : Gt} (hG : Gok G) {I : It} {h : Ht} (hM : HM h) {E : It} (hE : Inv E) (hR : RM E I) {L : Nat → Int64} (hl : hL h 38 = L) {a b o j n : Int32} : Con G (3) 0 0 mX12_shift [.ref 0, .int a, .int b, .int o, .int j, .int n] I h (qS (shiftS E a b o j n, E) (shiftL E L a b o j n)) := by
  refine con_intro (own := RX12) (lo0 := [some (.ref 0), some (.int a), some (.int b), some (.int o), some (.int j), some (.int n), none]) hG rfl pl_X12 (Nat.le_of_ble_eq_true rfl) rfl (fun X hX => ?_)
  have loop141 : ∀ t u m p q, t ≤ 5 → u ≤ 5 → p + m ≤ 60 → q + m ≤ 60 → a = nI t → b = nI p → o = nI u → j = nI q → n = nI m → (shiftS E a b o j n = nI m ∧ shiftL E L a b o j n = fun z => if 60 * u + q ≤ z ∧ z < 60 * u + q + m then L (60 * t + p + (z - (60 * u + q))) else L z) → ∀ (k i : Nat) (h2 : Ht), i + k = m → HM h2 → (∀ z, hL h2 38 z = if 60 * u + q ≤ z ∧ z < 60 * u + q + i then L (60 * t + p + (z - (60 * u + q))) else L z) → (∀ z, z < m → hL h2 39 z = L (60 * t + p + z)) → GG G (3) 0 0 X (qS (shiftS E a b o j n, E) (shiftL E L a b o j n)) 141 [some (.ref 0), some (.int (nI t)), some (.int (nI p)), some (.int (nI u)), some (.int (nI q)), some (.int (nI m)), some (.int (nI i))] [] (I) (h2) 0 0 := by
    intro t u m p q ht hu g1 g2 e1 e2 e3 e4 e5 hst k
    subst e1 e2 e3 e4 e5
    induction k using Nat.strongRecOn with | _ k ih => ?_
    intro i h2 hk hM hz ha
    refine g_iload_6 hX (dk DX12_shift_1 20 rfl) ?_
    refine g_iload_5 hX (dk DX12_shift_1 21 rfl) ?_
    refine g_icmp_ge (tgt := 176) hX (dk DX12_shift_1 22 rfl) (by decide) (fun hc1 => ?_) (fun hc1 => ?_)
    · refine g_iload_5 hX (dk DX12_shift_1 39 rfl) ?_
      refine g_ireturn hX (dk DX12_shift_1 40 rfl) rfl (rfl) (by decide) (by decide) ?_
      have hk0 := cl_end hk (by omega) hc1
      subst hk0
      exact qS_of hM (by rw [hst.2]; funext z; rw [hz z, show i = m by omega]) (by rw [hst.1]) hR
    · obtain ⟨k, rfl⟩ := cl_go hk (by omega) hc1
      have hrx : idx ((60 : Int32) * nI u + nI q + nI i) (60 * u + q + i) 360 := ⟨by rw [show (60 : Int32) = nI 60 from rfl, pk_mul, nI_add, nI_add], by omega, by decide⟩
      refine g_aload_0 hX (dk DX12_shift_1 23 rfl) ?_
      refine g_getRs (r := 38) hX (dk DX12_shift_1 24 rfl) KX12 fX12_226 (by decide) rfl (MLt hM (by decide)) (MC hM) (MR hM 71 (by decide) rfl) ?_
      refine g_bipush (v := 60) hX (dk DX12_shift_1 25 rfl) (by decide) ?_
      refine g_iload_3 hX (dk DX12_shift_1 26 rfl) ?_
      refine g_imul hX (dk DX12_shift_1 27 rfl) ?_
      refine g_iload_4 hX (dk DX12_shift_1 28 rfl) ?_
      refine g_iadd hX (dk DX12_shift_1 29 rfl) ?_
      refine g_iload_6 hX (dk DX12_shift_1 30 rfl) ?_
      refine g_iadd hX (dk DX12_shift_1 31 rfl) ?_
      refine g_aload_0 hX (dk DX12_shift_1 32 rfl) ?_
      refine g_getRs (r := 39) hX (dk DX12_shift_1 33 rfl) KX12 fX12_230 (by decide) rfl (MLt hM (by decide)) (MC hM) (MR hM 72 (by decide) rfl) ?_
      refine g_iload_6 hX (dk DX12_shift_1 34 rfl) ?_
      refine v_laload hX (dk DX12_shift_1 35 rfl) (MLt hM (q := 39) (by decide)) (MS hM 39 (by decide) rfl) (⟨rfl, by omega, by decide⟩) (ha i (by omega)) ?_
      refine i_lastore hX (dk DX12_shift_1 36 rfl) (MLt hM (q := 38) (by decide)) (MS hM 38 (by decide) rfl) (hrx) ?_
      refine g_iinc_6 hX (dk DX12_shift_1 37 rfl) (nI_1 i) (by decide) rfl ?_
      refine g_goto (tgt := 141) hX (dk DX12_shift_1 38 rfl) (by decide) ?_
      exact ih k (by omega) (i + 1) _ (by omega) (HMw hM) (fun z => by
        rw [show hL (wL h2 38 (60 * u + q + i) (L (60 * t + p + i))) 38 = vp_updL (hL h2 38) (60 * u + q + i) (L (60 * t + p + i)) from upL_row _ _ _ _]
        by_cases e : z = 60 * u + q + i
        · subst e; rw [pk_uLs, if_pos (by omega)]; congr 1; omega
        · rw [pk_uLn e, hz z]
          by_cases e2 : 60 * u + q ≤ z ∧ z < 60 * u + q + i
          · rw [if_pos e2, if_pos (by omega)]
          · rw [if_neg e2, if_neg (by omega)]) (fun z hz2 => by
        rw [show hL (wL h2 38 (60 * u + q + i) (L (60 * t + p + i))) 39 = hL h2 39 from wL_off (by decide)]
        exact ha z hz2)
  have loop104 : ∀ t u m p q, t ≤ 5 → u ≤ 5 → p + m ≤ 60 → q + m ≤ 60 → a = nI t → b = nI p → o = nI u → j = nI q → n = nI m → (shiftS E a b o j n = nI m ∧ shiftL E L a b o j n = fun z => if 60 * u + q ≤ z ∧ z < 60 * u + q + m then L (60 * t + p + (z - (60 * u + q))) else L z) → ∀ (k i : Nat) (h2 : Ht), i + k = m → HM h2 → hL h2 38 = L → (∀ z, z < i → hL h2 39 z = L (60 * t + p + z)) → GG G (3) 0 0 X (qS (shiftS E a b o j n, E) (shiftL E L a b o j n)) 104 [some (.ref 0), some (.int (nI t)), some (.int (nI p)), some (.int (nI u)), some (.int (nI q)), some (.int (nI m)), some (.int (nI i))] [] (I) (h2) 0 0 := by
    intro t u m p q ht hu g1 g2 e1 e2 e3 e4 e5 hst k
    subst e1 e2 e3 e4 e5
    induction k using Nat.strongRecOn with | _ k ih => ?_
    intro i h2 hk hM hz ha
    refine g_iload_6 hX (dk DX12_shift_0 59 rfl) ?_
    refine g_iload_5 hX (dk DX12_shift_1 0 rfl) ?_
    refine g_icmp_ge (tgt := 138) hX (dk DX12_shift_1 1 rfl) (by decide) (fun hc1 => ?_) (fun hc1 => ?_)
    · refine g_iconst (v := 0) hX (dk DX12_shift_1 18 rfl) (by decide) ?_
      refine g_istore_6 hX (dk DX12_shift_1 19 rfl) (by decide) rfl ?_
      have hk0 := cl_end hk (by omega) hc1
      subst hk0
      exact loop141 t u m p q ht hu g1 g2 rfl rfl rfl rfl rfl hst m 0 h2 (Nat.zero_add _) hM (fun z => by rw [if_neg (by omega), hz]) (fun z hz2 => ha z (by omega))
    · obtain ⟨k, rfl⟩ := cl_go hk (by omega) hc1
      have hrx : idx ((60 : Int32) * nI t + nI p + nI i) (60 * t + p + i) 360 := ⟨by rw [show (60 : Int32) = nI 60 from rfl, pk_mul, nI_add, nI_add], by omega, by decide⟩
      refine g_aload_0 hX (dk DX12_shift_1 2 rfl) ?_
      refine g_getRs (r := 39) hX (dk DX12_shift_1 3 rfl) KX12 fX12_230 (by decide) rfl (MLt hM (by decide)) (MC hM) (MR hM 72 (by decide) rfl) ?_
      refine g_iload_6 hX (dk DX12_shift_1 4 rfl) ?_
      refine g_aload_0 hX (dk DX12_shift_1 5 rfl) ?_
      refine g_getRs (r := 38) hX (dk DX12_shift_1 6 rfl) KX12 fX12_226 (by decide) rfl (MLt hM (by decide)) (MC hM) (MR hM 71 (by decide) rfl) ?_
      refine g_bipush (v := 60) hX (dk DX12_shift_1 7 rfl) (by decide) ?_
      refine g_iload_1 hX (dk DX12_shift_1 8 rfl) ?_
      refine g_imul hX (dk DX12_shift_1 9 rfl) ?_
      refine g_iload_2 hX (dk DX12_shift_1 10 rfl) ?_
      refine g_iadd hX (dk DX12_shift_1 11 rfl) ?_
      refine g_iload_6 hX (dk DX12_shift_1 12 rfl) ?_
      refine g_iadd hX (dk DX12_shift_1 13 rfl) ?_
      refine v_laload hX (dk DX12_shift_1 14 rfl) (MLt hM (q := 38) (by decide)) (MS hM 38 (by decide) rfl) (hrx) (congrFun hz _) ?_
      refine i_lastore hX (dk DX12_shift_1 15 rfl) (MLt hM (q := 39) (by decide)) (MS hM 39 (by decide) rfl) (⟨rfl, by omega, by decide⟩) ?_
      refine g_iinc_6 hX (dk DX12_shift_1 16 rfl) (nI_1 i) (by decide) rfl ?_
      refine g_goto (tgt := 104) hX (dk DX12_shift_1 17 rfl) (by decide) ?_
      exact ih k (by omega) (i + 1) _ (by omega) (HMw hM) ((wL_off (by decide)).trans hz) (fun z hz2 => by
        rw [show hL (wL h2 39 i (L (60 * t + p + i))) 39 = vp_updL (hL h2 39) i (L (60 * t + p + i)) from upL_row _ _ _ _]
        by_cases e : z = i
        · subst e; rw [pk_uLs]
        · rw [pk_uLn e]; exact ha z (by omega))
  refine g_aload_0 hX (dk DX12_shift_0 0 rfl) ?_
  refine g_iload_1 hX (dk DX12_shift_0 1 rfl) ?_
  refine g_c2I hX sX12_shift_2 (by decide) (Nat.le_of_ble_eq_true rfl) (rc0 rfl (MLt hM (by decide)) (MC hM)) (by decide) (by decide) (c_X12_isTape hG hM) ?_
  refine g_ifb_eq (tgt := 16) hX (dk DX12_shift_0 3 rfl) (by decide) (fun hc1 => ?_) (fun hc1 => ?_)
  · refine g_iconst (v := -1) hX (dk DX12_shift_0 8 rfl) (by decide) ?_
    refine g_ireturn hX (dk DX12_shift_0 9 rfl) rfl (rfl) (by decide) (by decide) ?_
    exact qS_of hM (by unfold shiftL; (try first | rw [if_pos hc1] | rw [if_neg hc1] | rw [if_neg (not_not_intro hc1)]); exact hl) (by unfold shiftS; (try first | rw [if_pos hc1] | rw [if_neg hc1] | rw [if_neg (not_not_intro hc1)]); first | done | rfl) hR
  · obtain ⟨t, ht, rfl⟩ := in_of (b := 5) (by decide) hc1
    refine g_aload_0 hX (dk DX12_shift_0 4 rfl) ?_
    refine g_iload_3 hX (dk DX12_shift_0 5 rfl) ?_
    refine g_c2I hX sX12_shift_10 (by decide) (Nat.le_of_ble_eq_true rfl) (rc0 rfl (MLt hM (by decide)) (MC hM)) (by decide) (by decide) (c_X12_isTape hG hM) ?_
    refine g_ifb_ne (tgt := 18) hX (dk DX12_shift_0 7 rfl) (by decide) (fun hc2 => ?_) (fun hc2 => ?_)
    · obtain ⟨u, hu, rfl⟩ := in_of (b := 5) (by decide) hc2
      refine g_aload_0 hX (dk DX12_shift_0 10 rfl) ?_
      refine g_getRs (r := 36) hX (dk DX12_shift_0 11 rfl) KX12 fX12_220 (by decide) rfl (MLt hM (by decide)) (MC hM) (MR hM 69 (by decide) rfl) ?_
      refine g_iload_1 hX (dk DX12_shift_0 12 rfl) ?_
      refine v_iaload hX (dk DX12_shift_0 13 rfl) (MLt hM (q := 36) (by decide)) (MS hM 36 (by decide) rfl) (⟨rfl, by omega, by decide⟩) (RM.c1 hR 36 _ (by decide) (by decide)) ?_
      refine g_if_lt (tgt := 36) hX (dk DX12_shift_0 14 rfl) (by decide) (fun hc3 => ?_) (fun hc3 => ?_)
      · refine g_bipush (v := -11) hX (dk DX12_shift_0 20 rfl) (by decide) ?_
        refine g_ireturn hX (dk DX12_shift_0 21 rfl) rfl (rfl) (by decide) (by decide) ?_
        exact qS_of hM (by unfold shiftL; (try rw [tN_nI (by omega)]); (try rw [tN_nI (by omega)]); (try first | rw [if_pos hc1] | rw [if_neg hc1] | rw [if_neg (not_not_intro hc1)]); (try first | rw [if_pos hc2] | rw [if_neg hc2] | rw [if_neg (not_not_intro hc2)]); (try first | rw [if_pos hc3] | rw [if_neg hc3] | rw [if_neg (not_not_intro hc3)]); exact hl) (by unfold shiftS; (try rw [tN_nI (by omega)]); (try rw [tN_nI (by omega)]); (try first | rw [if_pos hc1] | rw [if_neg hc1] | rw [if_neg (not_not_intro hc1)]); (try first | rw [if_pos hc2] | rw [if_neg hc2] | rw [if_neg (not_not_intro hc2)]); (try first | rw [if_pos hc3] | rw [if_neg hc3] | rw [if_neg (not_not_intro hc3)]); first | done | rfl) hR
      · refine g_aload_0 hX (dk DX12_shift_0 15 rfl) ?_
        refine g_getRs (r := 36) hX (dk DX12_shift_0 16 rfl) KX12 fX12_220 (by decide) rfl (MLt hM (by decide)) (MC hM) (MR hM 69 (by decide) rfl) ?_
        refine g_iload_3 hX (dk DX12_shift_0 17 rfl) ?_
        refine v_iaload hX (dk DX12_shift_0 18 rfl) (MLt hM (q := 36) (by decide)) (MS hM 36 (by decide) rfl) (⟨rfl, by omega, by decide⟩) (RM.c1 hR 36 _ (by decide) (by decide)) ?_
        refine g_if_ge (tgt := 39) hX (dk DX12_shift_0 19 rfl) (by decide) (fun hc4 => ?_) (fun hc4 => ?_)
        · refine g_aload_0 hX (dk DX12_shift_0 22 rfl) ?_
          refine g_getRs (r := 36) hX (dk DX12_shift_0 23 rfl) KX12 fX12_220 (by decide) rfl (MLt hM (by decide)) (MC hM) (MR hM 69 (by decide) rfl) ?_
          refine g_iload_1 hX (dk DX12_shift_0 24 rfl) ?_
          refine v_iaload hX (dk DX12_shift_0 25 rfl) (MLt hM (q := 36) (by decide)) (MS hM 36 (by decide) rfl) (⟨rfl, by omega, by decide⟩) (RM.c1 hR 36 _ (by decide) (by decide)) ?_
          refine g_aload_0 hX (dk DX12_shift_0 26 rfl) ?_
          refine g_getRs (r := 36) hX (dk DX12_shift_0 27 rfl) KX12 fX12_220 (by decide) rfl (MLt hM (by decide)) (MC hM) (MR hM 69 (by decide) rfl) ?_
          refine g_iload_3 hX (dk DX12_shift_0 28 rfl) ?_
          refine v_iaload hX (dk DX12_shift_0 29 rfl) (MLt hM (q := 36) (by decide)) (MS hM 36 (by decide) rfl) (⟨rfl, by omega, by decide⟩) (RM.c1 hR 36 _ (by decide) (by decide)) ?_
          refine g_icmp_eq (tgt := 57) hX (dk DX12_shift_0 30 rfl) (by decide) (fun hc5 => ?_) (fun hc5 => ?_)
          · refine g_iload_5 hX (dk DX12_shift_0 33 rfl) ?_
            refine g_if_lt (tgt := 98) hX (dk DX12_shift_0 34 rfl) (by decide) (fun hc6 => ?_) (fun hc6 => ?_)
            · refine g_bipush (v := -13) hX (dk DX12_shift_0 55 rfl) (by decide) ?_
              refine g_ireturn hX (dk DX12_shift_0 56 rfl) rfl (rfl) (by decide) (by decide) ?_
              exact qS_of hM (by unfold shiftL; (try rw [tN_nI (by omega)]); (try rw [tN_nI (by omega)]); (try first | rw [if_pos hc1] | rw [if_neg hc1] | rw [if_neg (not_not_intro hc1)]); (try first | rw [if_pos hc2] | rw [if_neg hc2] | rw [if_neg (not_not_intro hc2)]); (try first | rw [if_pos hc3] | rw [if_neg hc3] | rw [if_neg (not_not_intro hc3)]); (try first | rw [if_pos hc4] | rw [if_neg hc4] | rw [if_neg (not_not_intro hc4)]); (try first | rw [if_pos hc5] | rw [if_neg hc5] | rw [if_neg (not_not_intro hc5)]); (try first | rw [if_pos hc6] | rw [if_neg hc6] | rw [if_neg (not_not_intro hc6)]); exact hl) (by unfold shiftS; (try rw [tN_nI (by omega)]); (try rw [tN_nI (by omega)]); (try first | rw [if_pos hc1] | rw [if_neg hc1] | rw [if_neg (not_not_intro hc1)]); (try first | rw [if_pos hc2] | rw [if_neg hc2] | rw [if_neg (not_not_intro hc2)]); (try first | rw [if_pos hc3] | rw [if_neg hc3] | rw [if_neg (not_not_intro hc3)]); (try first | rw [if_pos hc4] | rw [if_neg hc4] | rw [if_neg (not_not_intro hc4)]); (try first | rw [if_pos hc5] | rw [if_neg hc5] | rw [if_neg (not_not_intro hc5)]); (try first | rw [if_pos hc6] | rw [if_neg hc6] | rw [if_neg (not_not_intro hc6)]); first | done | rfl) hR
            · refine g_iload_2 hX (dk DX12_shift_0 35 rfl) ?_
              refine g_if_lt (tgt := 98) hX (dk DX12_shift_0 36 rfl) (by decide) (fun hc7 => ?_) (fun hc7 => ?_)
              · refine g_bipush (v := -13) hX (dk DX12_shift_0 55 rfl) (by decide) ?_
                refine g_ireturn hX (dk DX12_shift_0 56 rfl) rfl (rfl) (by decide) (by decide) ?_
                exact qS_of hM (by unfold shiftL; (try rw [tN_nI (by omega)]); (try rw [tN_nI (by omega)]); (try first | rw [if_pos hc1] | rw [if_neg hc1] | rw [if_neg (not_not_intro hc1)]); (try first | rw [if_pos hc2] | rw [if_neg hc2] | rw [if_neg (not_not_intro hc2)]); (try first | rw [if_pos hc3] | rw [if_neg hc3] | rw [if_neg (not_not_intro hc3)]); (try first | rw [if_pos hc4] | rw [if_neg hc4] | rw [if_neg (not_not_intro hc4)]); (try first | rw [if_pos hc5] | rw [if_neg hc5] | rw [if_neg (not_not_intro hc5)]); (try first | rw [if_pos hc6] | rw [if_neg hc6] | rw [if_neg (not_not_intro hc6)]); (try first | rw [if_pos hc7] | rw [if_neg hc7] | rw [if_neg (not_not_intro hc7)]); exact hl) (by unfold shiftS; (try rw [tN_nI (by omega)]); (try rw [tN_nI (by omega)]); (try first | rw [if_pos hc1] | rw [if_neg hc1] | rw [if_neg (not_not_intro hc1)]); (try first | rw [if_pos hc2] | rw [if_neg hc2] | rw [if_neg (not_not_intro hc2)]); (try first | rw [if_pos hc3] | rw [if_neg hc3] | rw [if_neg (not_not_intro hc3)]); (try first | rw [if_pos hc4] | rw [if_neg hc4] | rw [if_neg (not_not_intro hc4)]); (try first | rw [if_pos hc5] | rw [if_neg hc5] | rw [if_neg (not_not_intro hc5)]); (try first | rw [if_pos hc6] | rw [if_neg hc6] | rw [if_neg (not_not_intro hc6)]); (try first | rw [if_pos hc7] | rw [if_neg hc7] | rw [if_neg (not_not_intro hc7)]); first | done | rfl) hR
              · refine g_iload_4 hX (dk DX12_shift_0 37 rfl) ?_
                refine g_if_lt (tgt := 98) hX (dk DX12_shift_0 38 rfl) (by decide) (fun hc8 => ?_) (fun hc8 => ?_)
                · refine g_bipush (v := -13) hX (dk DX12_shift_0 55 rfl) (by decide) ?_
                  refine g_ireturn hX (dk DX12_shift_0 56 rfl) rfl (rfl) (by decide) (by decide) ?_
                  exact qS_of hM (by unfold shiftL; (try rw [tN_nI (by omega)]); (try rw [tN_nI (by omega)]); (try first | rw [if_pos hc1] | rw [if_neg hc1] | rw [if_neg (not_not_intro hc1)]); (try first | rw [if_pos hc2] | rw [if_neg hc2] | rw [if_neg (not_not_intro hc2)]); (try first | rw [if_pos hc3] | rw [if_neg hc3] | rw [if_neg (not_not_intro hc3)]); (try first | rw [if_pos hc4] | rw [if_neg hc4] | rw [if_neg (not_not_intro hc4)]); (try first | rw [if_pos hc5] | rw [if_neg hc5] | rw [if_neg (not_not_intro hc5)]); (try first | rw [if_pos hc6] | rw [if_neg hc6] | rw [if_neg (not_not_intro hc6)]); (try first | rw [if_pos hc7] | rw [if_neg hc7] | rw [if_neg (not_not_intro hc7)]); (try first | rw [if_pos hc8] | rw [if_neg hc8] | rw [if_neg (not_not_intro hc8)]); exact hl) (by unfold shiftS; (try rw [tN_nI (by omega)]); (try rw [tN_nI (by omega)]); (try first | rw [if_pos hc1] | rw [if_neg hc1] | rw [if_neg (not_not_intro hc1)]); (try first | rw [if_pos hc2] | rw [if_neg hc2] | rw [if_neg (not_not_intro hc2)]); (try first | rw [if_pos hc3] | rw [if_neg hc3] | rw [if_neg (not_not_intro hc3)]); (try first | rw [if_pos hc4] | rw [if_neg hc4] | rw [if_neg (not_not_intro hc4)]); (try first | rw [if_pos hc5] | rw [if_neg hc5] | rw [if_neg (not_not_intro hc5)]); (try first | rw [if_pos hc6] | rw [if_neg hc6] | rw [if_neg (not_not_intro hc6)]); (try first | rw [if_pos hc7] | rw [if_neg hc7] | rw [if_neg (not_not_intro hc7)]); (try first | rw [if_pos hc8] | rw [if_neg hc8] | rw [if_neg (not_not_intro hc8)]); first | done | rfl) hR
                · refine g_iload_2 hX (dk DX12_shift_0 39 rfl) ?_
                  refine g_aload_0 hX (dk DX12_shift_0 40 rfl) ?_
                  refine g_getRs (r := 37) hX (dk DX12_shift_0 41 rfl) KX12 fX12_223 (by decide) rfl (MLt hM (by decide)) (MC hM) (MR hM 70 (by decide) rfl) ?_
                  refine g_iload_1 hX (dk DX12_shift_0 42 rfl) ?_
                  refine v_iaload hX (dk DX12_shift_0 43 rfl) (MLt hM (q := 37) (by decide)) (MS hM 37 (by decide) rfl) (⟨rfl, by omega, by decide⟩) (RM.c1 hR 37 _ (by decide) (by decide)) ?_
                  refine g_iload_5 hX (dk DX12_shift_0 44 rfl) ?_
                  refine g_isub hX (dk DX12_shift_0 45 rfl) ?_
                  refine g_icmp_gt (tgt := 98) hX (dk DX12_shift_0 46 rfl) (by decide) (fun hc9 => ?_) (fun hc9 => ?_)
                  · refine g_bipush (v := -13) hX (dk DX12_shift_0 55 rfl) (by decide) ?_
                    refine g_ireturn hX (dk DX12_shift_0 56 rfl) rfl (rfl) (by decide) (by decide) ?_
                    exact qS_of hM (by unfold shiftL; (try rw [tN_nI (by omega)]); (try rw [tN_nI (by omega)]); (try first | rw [if_pos hc1] | rw [if_neg hc1] | rw [if_neg (not_not_intro hc1)]); (try first | rw [if_pos hc2] | rw [if_neg hc2] | rw [if_neg (not_not_intro hc2)]); (try first | rw [if_pos hc3] | rw [if_neg hc3] | rw [if_neg (not_not_intro hc3)]); (try first | rw [if_pos hc4] | rw [if_neg hc4] | rw [if_neg (not_not_intro hc4)]); (try first | rw [if_pos hc5] | rw [if_neg hc5] | rw [if_neg (not_not_intro hc5)]); (try first | rw [if_pos hc6] | rw [if_neg hc6] | rw [if_neg (not_not_intro hc6)]); (try first | rw [if_pos hc7] | rw [if_neg hc7] | rw [if_neg (not_not_intro hc7)]); (try first | rw [if_pos hc8] | rw [if_neg hc8] | rw [if_neg (not_not_intro hc8)]); (try first | rw [if_pos hc9] | rw [if_neg hc9] | rw [if_neg (not_not_intro hc9)]); exact hl) (by unfold shiftS; (try rw [tN_nI (by omega)]); (try rw [tN_nI (by omega)]); (try first | rw [if_pos hc1] | rw [if_neg hc1] | rw [if_neg (not_not_intro hc1)]); (try first | rw [if_pos hc2] | rw [if_neg hc2] | rw [if_neg (not_not_intro hc2)]); (try first | rw [if_pos hc3] | rw [if_neg hc3] | rw [if_neg (not_not_intro hc3)]); (try first | rw [if_pos hc4] | rw [if_neg hc4] | rw [if_neg (not_not_intro hc4)]); (try first | rw [if_pos hc5] | rw [if_neg hc5] | rw [if_neg (not_not_intro hc5)]); (try first | rw [if_pos hc6] | rw [if_neg hc6] | rw [if_neg (not_not_intro hc6)]); (try first | rw [if_pos hc7] | rw [if_neg hc7] | rw [if_neg (not_not_intro hc7)]); (try first | rw [if_pos hc8] | rw [if_neg hc8] | rw [if_neg (not_not_intro hc8)]); (try first | rw [if_pos hc9] | rw [if_neg hc9] | rw [if_neg (not_not_intro hc9)]); first | done | rfl) hR
                  · refine g_iload_4 hX (dk DX12_shift_0 47 rfl) ?_
                    refine g_aload_0 hX (dk DX12_shift_0 48 rfl) ?_
                    refine g_getRs (r := 37) hX (dk DX12_shift_0 49 rfl) KX12 fX12_223 (by decide) rfl (MLt hM (by decide)) (MC hM) (MR hM 70 (by decide) rfl) ?_
                    refine g_iload_3 hX (dk DX12_shift_0 50 rfl) ?_
                    refine v_iaload hX (dk DX12_shift_0 51 rfl) (MLt hM (q := 37) (by decide)) (MS hM 37 (by decide) rfl) (⟨rfl, by omega, by decide⟩) (RM.c1 hR 37 _ (by decide) (by decide)) ?_
                    refine g_iload_5 hX (dk DX12_shift_0 52 rfl) ?_
                    refine g_isub hX (dk DX12_shift_0 53 rfl) ?_
                    refine g_icmp_le (tgt := 101) hX (dk DX12_shift_0 54 rfl) (by decide) (fun hc10 => ?_) (fun hc10 => ?_)
                    · obtain ⟨l1, hl1, e1⟩ := inv_tp hE (t := t) (by omega) hc3
                      obtain ⟨l2, hl2, e2⟩ := inv_tp hE (t := u) (by omega) (Int32.not_lt.mpr hc4)
                      obtain ⟨m, hm, rfl⟩ := nI_of hc6
                      obtain ⟨p, hp, rfl⟩ := nI_of hc7
                      obtain ⟨q, hq, rfl⟩ := nI_of hc8
                      have g1 := sh_le (n := m) (i := p) hl1 hm hp (by rw [← e1]; exact Int32.not_lt.mp hc9)
                      have g2 := sh_le (n := m) (i := q) hl2 hm hq (by rw [← e2]; exact hc10)
                      have hst : shiftS E (nI t) (nI p) (nI u) (nI q) (nI m) = nI m ∧ shiftL E L (nI t) (nI p) (nI u) (nI q) (nI m) = fun z => if 60 * u + q ≤ z ∧ z < 60 * u + q + m then L (60 * t + p + (z - (60 * u + q))) else L z := by
                        refine ⟨?_, ?_⟩
                        · unfold shiftS; simp only [tN_nI (show t < 2 ^ 31 by omega), tN_nI (show u < 2 ^ 31 by omega)]; (try first | rw [if_pos hc1] | rw [if_neg hc1] | rw [if_neg (not_not_intro hc1)]); (try first | rw [if_pos hc2] | rw [if_neg hc2] | rw [if_neg (not_not_intro hc2)]); (try first | rw [if_pos hc3] | rw [if_neg hc3] | rw [if_neg (not_not_intro hc3)]); (try first | rw [if_pos hc4] | rw [if_neg hc4] | rw [if_neg (not_not_intro hc4)]); (try first | rw [if_pos hc5] | rw [if_neg hc5] | rw [if_neg (not_not_intro hc5)]); (try first | rw [if_pos hc6] | rw [if_neg hc6] | rw [if_neg (not_not_intro hc6)]); (try first | rw [if_pos hc7] | rw [if_neg hc7] | rw [if_neg (not_not_intro hc7)]); (try first | rw [if_pos hc8] | rw [if_neg hc8] | rw [if_neg (not_not_intro hc8)]); (try first | rw [if_pos hc9] | rw [if_neg hc9] | rw [if_neg (not_not_intro hc9)]); (try first | rw [if_pos hc10] | rw [if_neg hc10] | rw [if_neg (not_not_intro hc10)]); first | done | rfl
                        · unfold shiftL; simp only [tN_nI (show t < 2 ^ 31 by omega), tN_nI (show u < 2 ^ 31 by omega), tN_nI hm, tN_nI hp, tN_nI hq]; (try first | rw [if_pos hc1] | rw [if_neg hc1] | rw [if_neg (not_not_intro hc1)]); (try first | rw [if_pos hc2] | rw [if_neg hc2] | rw [if_neg (not_not_intro hc2)]); (try first | rw [if_pos hc3] | rw [if_neg hc3] | rw [if_neg (not_not_intro hc3)]); (try first | rw [if_pos hc4] | rw [if_neg hc4] | rw [if_neg (not_not_intro hc4)]); (try first | rw [if_pos hc5] | rw [if_neg hc5] | rw [if_neg (not_not_intro hc5)]); (try first | rw [if_pos hc6] | rw [if_neg hc6] | rw [if_neg (not_not_intro hc6)]); (try first | rw [if_pos hc7] | rw [if_neg hc7] | rw [if_neg (not_not_intro hc7)]); (try first | rw [if_pos hc8] | rw [if_neg hc8] | rw [if_neg (not_not_intro hc8)]); (try first | rw [if_pos hc9] | rw [if_neg hc9] | rw [if_neg (not_not_intro hc9)]); (try first | rw [if_pos hc10] | rw [if_neg hc10] | rw [if_neg (not_not_intro hc10)]); first | done | rfl
                      refine g_iconst (v := 0) hX (dk DX12_shift_0 57 rfl) (by decide) ?_
                      refine g_istore_6 hX (dk DX12_shift_0 58 rfl) (by decide) rfl ?_
                      exact loop104 t u m p q ht hu (by omega) (by omega) rfl rfl rfl rfl rfl hst m 0 h (Nat.zero_add _) hM hl (fun z hz => absurd hz (Nat.not_lt_zero z))
                    · refine g_bipush (v := -13) hX (dk DX12_shift_0 55 rfl) (by decide) ?_
                      refine g_ireturn hX (dk DX12_shift_0 56 rfl) rfl (rfl) (by decide) (by decide) ?_
                      exact qS_of hM (by unfold shiftL; (try rw [tN_nI (by omega)]); (try rw [tN_nI (by omega)]); (try first | rw [if_pos hc1] | rw [if_neg hc1] | rw [if_neg (not_not_intro hc1)]); (try first | rw [if_pos hc2] | rw [if_neg hc2] | rw [if_neg (not_not_intro hc2)]); (try first | rw [if_pos hc3] | rw [if_neg hc3] | rw [if_neg (not_not_intro hc3)]); (try first | rw [if_pos hc4] | rw [if_neg hc4] | rw [if_neg (not_not_intro hc4)]); (try first | rw [if_pos hc5] | rw [if_neg hc5] | rw [if_neg (not_not_intro hc5)]); (try first | rw [if_pos hc6] | rw [if_neg hc6] | rw [if_neg (not_not_intro hc6)]); (try first | rw [if_pos hc7] | rw [if_neg hc7] | rw [if_neg (not_not_intro hc7)]); (try first | rw [if_pos hc8] | rw [if_neg hc8] | rw [if_neg (not_not_intro hc8)]); (try first | rw [if_pos hc9] | rw [if_neg hc9] | rw [if_neg (not_not_intro hc9)]); (try first | rw [if_pos hc10] | rw [if_neg hc10] | rw [if_neg (not_not_intro hc10)]); exact hl) (by unfold shiftS; (try rw [tN_nI (by omega)]); (try rw [tN_nI (by omega)]); (try first | rw [if_pos hc1] | rw [if_neg hc1] | rw [if_neg (not_not_intro hc1)]); (try first | rw [if_pos hc2] | rw [if_neg hc2] | rw [if_neg (not_not_intro hc2)]); (try first | rw [if_pos hc3] | rw [if_neg hc3] | rw [if_neg (not_not_intro hc3)]); (try first | rw [if_pos hc4] | rw [if_neg hc4] | rw [if_neg (not_not_intro hc4)]); (try first | rw [if_pos hc5] | rw [if_neg hc5] | rw [if_neg (not_not_intro hc5)]); (try first | rw [if_pos hc6] | rw [if_neg hc6] | rw [if_neg (not_not_intro hc6)]); (try first | rw [if_pos hc7] | rw [if_neg hc7] | rw [if_neg (not_not_intro hc7)]); (try first | rw [if_pos hc8] | rw [if_neg hc8] | rw [if_neg (not_not_intro hc8)]); (try first | rw [if_pos hc9] | rw [if_neg hc9] | rw [if_neg (not_not_intro hc9)]); (try first | rw [if_pos hc10] | rw [if_neg hc10] | rw [if_neg (not_not_intro hc10)]); first | done | rfl) hR
          · refine g_bipush (v := -12) hX (dk DX12_shift_0 31 rfl) (by decide) ?_
            refine g_ireturn hX (dk DX12_shift_0 32 rfl) rfl (rfl) (by decide) (by decide) ?_
            exact qS_of hM (by unfold shiftL; (try rw [tN_nI (by omega)]); (try rw [tN_nI (by omega)]); (try first | rw [if_pos hc1] | rw [if_neg hc1] | rw [if_neg (not_not_intro hc1)]); (try first | rw [if_pos hc2] | rw [if_neg hc2] | rw [if_neg (not_not_intro hc2)]); (try first | rw [if_pos hc3] | rw [if_neg hc3] | rw [if_neg (not_not_intro hc3)]); (try first | rw [if_pos hc4] | rw [if_neg hc4] | rw [if_neg (not_not_intro hc4)]); (try first | rw [if_pos hc5] | rw [if_neg hc5] | rw [if_neg (not_not_intro hc5)]); exact hl) (by unfold shiftS; (try rw [tN_nI (by omega)]); (try rw [tN_nI (by omega)]); (try first | rw [if_pos hc1] | rw [if_neg hc1] | rw [if_neg (not_not_intro hc1)]); (try first | rw [if_pos hc2] | rw [if_neg hc2] | rw [if_neg (not_not_intro hc2)]); (try first | rw [if_pos hc3] | rw [if_neg hc3] | rw [if_neg (not_not_intro hc3)]); (try first | rw [if_pos hc4] | rw [if_neg hc4] | rw [if_neg (not_not_intro hc4)]); (try first | rw [if_pos hc5] | rw [if_neg hc5] | rw [if_neg (not_not_intro hc5)]); first | done | rfl) hR
        · refine g_bipush (v := -11) hX (dk DX12_shift_0 20 rfl) (by decide) ?_
          refine g_ireturn hX (dk DX12_shift_0 21 rfl) rfl (rfl) (by decide) (by decide) ?_
          exact qS_of hM (by unfold shiftL; (try rw [tN_nI (by omega)]); (try rw [tN_nI (by omega)]); (try first | rw [if_pos hc1] | rw [if_neg hc1] | rw [if_neg (not_not_intro hc1)]); (try first | rw [if_pos hc2] | rw [if_neg hc2] | rw [if_neg (not_not_intro hc2)]); (try first | rw [if_pos hc3] | rw [if_neg hc3] | rw [if_neg (not_not_intro hc3)]); (try first | rw [if_pos hc4] | rw [if_neg hc4] | rw [if_neg (not_not_intro hc4)]); exact hl) (by unfold shiftS; (try rw [tN_nI (by omega)]); (try rw [tN_nI (by omega)]); (try first | rw [if_pos hc1] | rw [if_neg hc1] | rw [if_neg (not_not_intro hc1)]); (try first | rw [if_pos hc2] | rw [if_neg hc2] | rw [if_neg (not_not_intro hc2)]); (try first | rw [if_pos hc3] | rw [if_neg hc3] | rw [if_neg (not_not_intro hc3)]); (try first | rw [if_pos hc4] | rw [if_neg hc4] | rw [if_neg (not_not_intro hc4)]); first | done | rfl) hR
    · refine g_iconst (v := -1) hX (dk DX12_shift_0 8 rfl) (by decide) ?_
      refine g_ireturn hX (dk DX12_shift_0 9 rfl) rfl (rfl) (by decide) (by decide) ?_
      exact qS_of hM (by unfold shiftL; (try first | rw [if_pos hc1] | rw [if_neg hc1] | rw [if_neg (not_not_intro hc1)]); (try first | rw [if_pos hc2] | rw [if_neg hc2] | rw [if_neg (not_not_intro hc2)]); exact hl) (by unfold shiftS; (try first | rw [if_pos hc1] | rw [if_neg hc1] | rw [if_neg (not_not_intro hc1)]); (try first | rw [if_pos hc2] | rw [if_neg hc2] | rw [if_neg (not_not_intro hc2)]); first | done | rfl) hR
end
section
set_option maxRecDepth 8000 in
set_option maxHeartbeats 4000000 in
theorem c_X12_firstOff {G : Gt} (hG : Gok G) {I : It} {h : Ht} (hM : HM h) {E : It} (hE : Inv E) (hR : RM E I) {L : Nat → Int64} (hl : hL h 38 = L) {s : Int32} : Con G (7) 0 0 mX12_firstOff [.ref 0, .int s] I h (qN E L) := by
  refine con_intro (own := RX12) (lo0 := [some (.ref 0), some (.int s), none]) hG rfl pl_X12 (Nat.le_of_ble_eq_true rfl) rfl (fun X hX => ?_)
  have loop39 : ∀ (r : Nat), r ≤ 12 → E 0 44 = nI r → ∀ (J : It), RM E J → ∀ (k i : Nat), i + k = r → GG G (7) 0 0 X (qN E L) 39 [some (.ref 0), some (.int s), some (.int (nI i))] [] (J) (h) 0 0 := by
    intro r hr er J hR k
    induction k using Nat.strongRecOn with | _ k ih => ?_
    intro i hk
    refine g_iload_2 hX (dk DX12_firstOff 22 rfl) ?_
    refine g_aload_0 hX (dk DX12_firstOff 23 rfl) ?_
    refine g_getIv hX (dk DX12_firstOff 24 rfl) KX12 fX12_144 (by decide) rfl (MLt hM (by decide)) (MC hM) ((RM.f hR 44 (by decide) (by decide)).trans er) ?_
    refine g_icmp_ge (tgt := 79) hX (dk DX12_firstOff 25 rfl) (by decide) (fun hc1 => ?_) (fun hc1 => ?_)
    · refine g_bipush (v := -5) hX (dk DX12_firstOff 45 rfl) (by decide) ?_
      refine g_ireturn hX (dk DX12_firstOff 46 rfl) rfl (rfl) (by decide) (by decide) ?_
      exact qN_of hM hl hR
    · obtain ⟨k, rfl⟩ := cl_go hk (by omega) hc1
      obtain ⟨x, z, hx, hz, ex, ez⟩ := row_of hE (k := i) (by omega)
      refine g_aload_0 hX (dk DX12_firstOff 26 rfl) ?_
      refine g_getRs (r := 20) hX (dk DX12_firstOff 27 rfl) KX12 fX12_135 (by decide) rfl (MLt hM (by decide)) (MC hM) (MR hM 41 (by decide) rfl) ?_
      refine g_bipush (v := 10) hX (dk DX12_firstOff 28 rfl) (by decide) ?_
      refine g_aload_0 hX (dk DX12_firstOff 29 rfl) ?_
      refine g_getRs (r := 23) hX (dk DX12_firstOff 30 rfl) KX12 fX12_147 (by decide) rfl (MLt hM (by decide)) (MC hM) (MR hM 45 (by decide) rfl) ?_
      refine g_iload_2 hX (dk DX12_firstOff 31 rfl) ?_
      refine v_iaload hX (dk DX12_firstOff 32 rfl) (MLt hM (q := 23) (by decide)) (MS hM 23 (by decide) rfl) (⟨rfl, by omega, by decide⟩) (RM.c1 hR 23 _ (by decide) (by decide)) ?_
      refine g_imul hX (dk DX12_firstOff 33 rfl) ?_
      refine g_aload_0 hX (dk DX12_firstOff 34 rfl) ?_
      refine g_getRs (r := 24) hX (dk DX12_firstOff 35 rfl) KX12 fX12_150 (by decide) rfl (MLt hM (by decide)) (MC hM) (MR hM 46 (by decide) rfl) ?_
      refine g_iload_2 hX (dk DX12_firstOff 36 rfl) ?_
      refine v_iaload hX (dk DX12_firstOff 37 rfl) (MLt hM (q := 24) (by decide)) (MS hM 24 (by decide) rfl) (⟨rfl, by omega, by decide⟩) (RM.c1 hR 24 _ (by decide) (by decide)) ?_
      refine g_iadd hX (dk DX12_firstOff 38 rfl) ?_
      rw [ex, ez, show (10 : Int32) = nI 10 from rfl, pk_mul, nI_add]
      refine i_zaload hX (dk DX12_firstOff 39 rfl) (MLt hM (q := 20) (by decide)) (MS hM 20 (by decide) rfl) (⟨rfl, by omega, by decide⟩) ?_
      refine g_if_ne (tgt := 73) hX (dk DX12_firstOff 40 rfl) (by decide) (fun hc2 => ?_) (fun hc2 => ?_)
      · refine g_iinc_2 hX (dk DX12_firstOff 43 rfl) (nI_1 i) (by decide) rfl ?_
        refine g_goto (tgt := 39) hX (dk DX12_firstOff 44 rfl) (by decide) ?_
        exact ih k (by omega) (i + 1) (by omega)
      · refine g_iload_2 hX (dk DX12_firstOff 41 rfl) ?_
        refine g_ireturn hX (dk DX12_firstOff 42 rfl) rfl (rfl) (by decide) (by decide) ?_
        exact qN_of hM hl hR
  have loop2 : ∀ (k i : Nat) (J : It), RM E J → i + k = 1000 → GG G (7) 0 0 X (qN E L) 2 [some (.ref 0), some (.int s), some (.int (nI i))] [] (J) (h) 0 0 := by
    intro k
    induction k using Nat.strongRecOn with | _ k ih => ?_
    intro i J hR hk
    refine g_iload_2 hX (dk DX12_firstOff 2 rfl) ?_
    refine g_sipush (v := 1000) hX (dk DX12_firstOff 3 rfl) (by decide) ?_
    refine g_icmp_ge (tgt := 22) hX (dk DX12_firstOff 4 rfl) (by decide) (fun hc1 => ?_) (fun hc1 => ?_)
    · refine g_aload_0 hX (dk DX12_firstOff 12 rfl) ?_
      refine g_iload_1 hX (dk DX12_firstOff 13 rfl) ?_
      refine g_aload_0 hX (dk DX12_firstOff 14 rfl) ?_
      refine g_getIv hX (dk DX12_firstOff 15 rfl) KX12 fX12_28 (by decide) rfl (MLt hM (by decide)) (MC hM) (RM.f hR 6 (by decide) (by decide)) ?_
      refine g_c3v hX sX12_firstOff_28 (by decide) (Nat.le_of_ble_eq_true rfl) (rc0 rfl (MLt hM (by decide)) (MC hM)) (by decide) (by decide) (c_X12_begins hG hM) ?_
      rintro J1 _ ⟨hT, hfr, rfl⟩
      have hR := RM.keep hR hfr (by decide) (by decide) (by decide)
      refine g_aload_0 hX (dk DX12_firstOff 17 rfl) ?_
      refine g_bipush (v := 100) hX (dk DX12_firstOff 18 rfl) (by decide) ?_
      refine g_c2v hX sX12_firstOff_34 (by decide) (Nat.le_of_ble_eq_true rfl) (rc0 rfl (MLt hM (by decide)) (MC hM)) (by decide) (by decide) (c_X12_goWeeks hG hM hE (Ag.of hR (by decide) (by decide)) (m := 100) (by decide) hT) ?_
      rintro J2 _ ⟨hT, hfr, rfl⟩
      have hT := TS.all hT
      have hR := RM.keep hR hfr (by decide) (by decide) (by decide)
      refine g_iconst (v := 0) hX (dk DX12_firstOff 20 rfl) (by decide) ?_
      refine g_istore_2 hX (dk DX12_firstOff 21 rfl) (by decide) rfl ?_
      obtain ⟨r, hr, er⟩ := inv_rows hE
      exact loop39 r hr er _ hR r 0 (Nat.zero_add _)
    · obtain ⟨k, rfl⟩ := ct_go (e := 1000) hk (by decide) hc1
      refine g_aload_0 hX (dk DX12_firstOff 5 rfl) ?_
      refine g_getRs (r := 20) hX (dk DX12_firstOff 6 rfl) KX12 fX12_135 (by decide) rfl (MLt hM (by decide)) (MC hM) (MR hM 41 (by decide) rfl) ?_
      refine g_iload_2 hX (dk DX12_firstOff 7 rfl) ?_
      refine g_iconst (v := 0) hX (dk DX12_firstOff 8 rfl) (by decide) ?_
      refine i_zastore hX (dk DX12_firstOff 9 rfl) (MLt hM (q := 20) (by decide)) (MS hM 20 (by decide) rfl) (⟨rfl, by omega, by decide⟩) ?_
      refine g_iinc_2 hX (dk DX12_firstOff 10 rfl) (nI_1 i) (by decide) rfl ?_
      refine g_goto (tgt := 2) hX (dk DX12_firstOff 11 rfl) (by decide) ?_
      exact ih k (by omega) (i + 1) _ (RM.keep hR (Fr.rf (F := []) (C := [20])).pcw (by decide) (by decide) (by decide)) (by omega)
  refine g_iconst (v := 0) hX (dk DX12_firstOff 0 rfl) (by decide) ?_
  refine g_istore_2 hX (dk DX12_firstOff 1 rfl) (by decide) rfl ?_
  exact loop2 1000 0 I hR (Nat.zero_add _)

set_option maxRecDepth 8000 in
set_option maxHeartbeats 4000000 in
theorem c_X12_looked {G : Gt} (hG : Gok G) {I : It} {h : Ht} (hM : HM h) {E : It} (hE : Inv E) (hR : RM E I) {L : Nat → Int64} (hl : hL h 38 = L)  : Con G (8) 0 0 mX12_looked [.ref 0] I h (qN E L) := by
  refine con_intro (own := RX12) (lo0 := [some (.ref 0)]) hG rfl pl_X12 (Nat.le_of_ble_eq_true rfl) rfl (fun X hX => ?_)
  refine g_aload_0 hX (dk DX12_looked 0 rfl) ?_
  refine g_aload_0 hX (dk DX12_looked 1 rfl) ?_
  refine g_getIv hX (dk DX12_looked 2 rfl) KX12 fX12_25 (by decide) rfl (MLt hM (by decide)) (MC hM) (RM.f hR 5 (by decide) (by decide)) ?_
  refine g_c2q hX sX12_looked_5 (by decide) (Nat.le_of_ble_eq_true rfl) (rc0 rfl (MLt hM (by decide)) (MC hM)) (by decide) (by decide) (c_X12_firstOff hG hM hE hR hl) ?_
  rintro _ J2 h2 ⟨hR, hM, hl⟩
  refine g_ireturn hX (dk DX12_looked 4 rfl) rfl (rfl) (by decide) (by decide) ?_
  exact qN_of hM hl hR

set_option maxRecDepth 8000 in
set_option maxHeartbeats 4000000 in
theorem c_X12_fits {G : Gt} (hG : Gok G) {I : It} {h : Ht} (hM : HM h) {E : It} (hE : Inv E) (hR : RM E I) {L : Nat → Int64} (hl : hL h 38 = L)  : Con G (8) 0 0 mX12_fits [.ref 0] I h (qN E L) := by
  refine con_intro (own := RX12) (lo0 := [some (.ref 0), none, none]) hG rfl pl_X12 (Nat.le_of_ble_eq_true rfl) rfl (fun X hX => ?_)
  have loop16 : 2 ^ cnt E ≤ 256 → bitI (E 0 0) = nI (2 ^ cnt E) → ∀ (k i : Nat) (z : Int32) (J : It) (h2 : Ht), RM E J → HM h2 → hL h2 38 = L → i + k = 2 ^ cnt E → GG G (8) 0 0 X (qN E L) 16 [some (.ref 0), some (.int z), some (.int (nI i))] [] (J) (h2) 0 0 := by
    intro hbl hbit k
    induction k using Nat.strongRecOn with | _ k ih => ?_
    intro i z J h2 hR hM hl hk
    refine g_iload_2 hX (dk DX12_fits 10 rfl) ?_
    refine g_iconst (v := 1) hX (dk DX12_fits 11 rfl) (by decide) ?_
    refine g_aload_0 hX (dk DX12_fits 12 rfl) ?_
    refine g_getIv hX (dk DX12_fits 13 rfl) KX12 fX12_7 (by decide) rfl (MLt hM (by decide)) (MC hM) (RM.f hR 0 (by decide) (by decide)) ?_
    refine g_ishl hX (dk DX12_fits 14 rfl) ?_
    refine g_nmI (nI (2 ^ cnt E)) hbit ?_
    refine g_icmp_ge (tgt := 48) hX (dk DX12_fits 15 rfl) (by decide) (fun hc1 => ?_) (fun hc1 => ?_)
    · refine g_iload_1 hX (dk DX12_fits 28 rfl) ?_
      refine g_ireturn hX (dk DX12_fits 29 rfl) rfl (rfl) (by decide) (by decide) ?_
      exact qN_of hM hl hR
    · obtain ⟨k, rfl⟩ := ct_go hk (by omega) hc1
      refine g_iload_1 hX (dk DX12_fits 16 rfl) ?_
      refine g_aload_0 hX (dk DX12_fits 17 rfl) ?_
      refine g_iload_2 hX (dk DX12_fits 18 rfl) ?_
      refine g_c2q hX sX12_fits_29 (by decide) (Nat.le_of_ble_eq_true rfl) (rc0 rfl (MLt hM (by decide)) (MC hM)) (by decide) (by decide) (c_X12_firstOff hG hM hE hR hl) ?_
      rintro _ J2 h2 ⟨hR, hM, hl⟩
      refine g_if_ge (tgt := 39) hX (dk DX12_fits 20 rfl) (by decide) (fun hc2 => ?_) (fun hc2 => ?_)
      · refine g_iconst (v := 0) hX (dk DX12_fits 23 rfl) (by decide) ?_
        refine g_iadd hX (dk DX12_fits 24 rfl) ?_
        refine g_istore_1 hX (dk DX12_fits 25 rfl) (by decide) rfl ?_
        refine g_iinc_2 hX (dk DX12_fits 26 rfl) (nI_1 i) (by decide) rfl ?_
        refine g_goto (tgt := 16) hX (dk DX12_fits 27 rfl) (by decide) ?_
        exact ih k (by omega) (i + 1) _ _ _ hR hM hl (by omega)
      · refine g_iconst (v := 1) hX (dk DX12_fits 21 rfl) (by decide) ?_
        refine g_goto (tgt := 40) hX (dk DX12_fits 22 rfl) (by decide) ?_
        refine g_iadd hX (dk DX12_fits 24 rfl) ?_
        refine g_istore_1 hX (dk DX12_fits 25 rfl) (by decide) rfl ?_
        refine g_iinc_2 hX (dk DX12_fits 26 rfl) (nI_1 i) (by decide) rfl ?_
        refine g_goto (tgt := 16) hX (dk DX12_fits 27 rfl) (by decide) ?_
        exact ih k (by omega) (i + 1) _ _ _ hR hM hl (by omega)
  refine g_aload_0 hX (dk DX12_fits 0 rfl) ?_
  refine g_getIv hX (dk DX12_fits 1 rfl) KX12 fX12_7 (by decide) rfl (MLt hM (by decide)) (MC hM) (RM.f hR 0 (by decide) (by decide)) ?_
  refine g_bipush (v := 8) hX (dk DX12_fits 2 rfl) (by decide) ?_
  refine g_icmp_le (tgt := 12) hX (dk DX12_fits 3 rfl) (by decide) (fun hc1 => ?_) (fun hc1 => ?_)
  · have hc10 := inv_cnt hE
    have hc8 : cnt E ≤ 8 := (nI_leI (b := 8) (by omega) (by decide)).mp (by rw [← hc10.1]; exact hc1)
    have hbl : 2 ^ cnt E ≤ 256 := Nat.pow_le_pow_right (n := 2) (by decide) hc8
    have hbit : bitI (E 0 0) = nI (2 ^ cnt E) := by rw [hc10.1]; exact bit_nI _ (by omega)
    refine g_iconst (v := 0) hX (dk DX12_fits 6 rfl) (by decide) ?_
    refine g_istore_1 hX (dk DX12_fits 7 rfl) (by decide) rfl ?_
    refine g_iconst (v := 0) hX (dk DX12_fits 8 rfl) (by decide) ?_
    refine g_istore_2 hX (dk DX12_fits 9 rfl) (by decide) rfl ?_
    exact loop16 hbl hbit (2 ^ cnt E) 0 0 I h hR hM hl (Nat.zero_add _)
  · refine g_bipush (v := -9) hX (dk DX12_fits 4 rfl) (by decide) ?_
    refine g_ireturn hX (dk DX12_fits 5 rfl) rfl (rfl) (by decide) (by decide) ?_
    exact qN_of hM hl hR
end
section
theorem imgC_off {E : It} {a : Nat} (ha : a ∉ ([25, 26, 27, 28, 29, 30, 31, 32, 33, 34] : List Nat)) (j : Nat) : imgC E a j = E a j := by
  unfold imgC
  simp only [List.mem_cons, List.not_mem_nil, or_false, not_or] at ha
  grind
theorem imgC_on {E J : It} (hq : (∀ j, J 25 j = if j < 10 then E 1 j else E 25 j) ∧ (∀ j, J 26 j = if j < 10 then E 2 j else E 26 j) ∧ (∀ j, J 27 j = if j < 10 then E 3 j else E 27 j) ∧ (∀ j, J 28 j = if j < 10 then E 4 j else E 28 j) ∧ (∀ j, J 29 j = if j < 10 then E 5 j else E 29 j) ∧ (∀ j, J 30 j = if j < 10 then E 6 j else E 30 j) ∧ (∀ j, J 31 j = if j < 10 then E 7 j else E 31 j) ∧ (∀ j, J 32 j = if j < 4 then E 8 j else E 32 j) ∧ (∀ j, J 33 j = if j < 12 then E 23 j else E 33 j) ∧ (∀ j, J 34 j = if j < 12 then E 24 j else E 34 j)) : ∀ a, a ∈ ([25, 26, 27, 28, 29, 30, 31, 32, 33, 34] : List Nat) → ∀ j, J a j = imgC E a j := by
  obtain ⟨q25, q26, q27, q28, q29, q30, q31, q32, q33, q34⟩ := hq
  intro a ha j
  simp only [List.mem_cons, List.not_mem_nil, or_false] at ha
  rcases ha with rfl | rfl | rfl | rfl | rfl | rfl | rfl | rfl | rfl | rfl
  · rw [q25 j]; rfl
  · rw [q26 j]; rfl
  · rw [q27 j]; rfl
  · rw [q28 j]; rfl
  · rw [q29 j]; rfl
  · rw [q30 j]; rfl
  · rw [q31 j]; rfl
  · rw [q32 j]; rfl
  · rw [q33 j]; rfl
  · rw [q34 j]; rfl
set_option maxRecDepth 8000 in
set_option maxHeartbeats 4000000 in
theorem c_X12_image {G : Gt} (hG : Gok G) {I : It} {h : Ht} (hM : HM h) {E : It} (hE : Inv E) (hR : RM E I) {L : Nat → Int64} (hl : hL h 38 = L)  : Con G (1) 0 0 mX12_image [.ref 0] I h (qS (imageS E) L) := by
  refine con_intro (own := RX12) (lo0 := [some (.ref 0), none]) hG rfl pl_X12 (Nat.le_of_ble_eq_true rfl) rfl (fun X hX => ?_)
  have loop202 : ∀ (k i : Nat) (J : It), RMx [] [25, 26, 27, 28, 29, 30, 31, 32, 33, 34] (imgF E) J → i + k = 12 → ((∀ j, J 25 j = if j < 10 then imgF E 1 j else imgF E 25 j) ∧ (∀ j, J 26 j = if j < 10 then imgF E 2 j else imgF E 26 j) ∧ (∀ j, J 27 j = if j < 10 then imgF E 3 j else imgF E 27 j) ∧ (∀ j, J 28 j = if j < 10 then imgF E 4 j else imgF E 28 j) ∧ (∀ j, J 29 j = if j < 10 then imgF E 5 j else imgF E 29 j) ∧ (∀ j, J 30 j = if j < 10 then imgF E 6 j else imgF E 30 j) ∧ (∀ j, J 31 j = if j < 10 then imgF E 7 j else imgF E 31 j) ∧ (∀ j, J 32 j = if j < 4 then imgF E 8 j else imgF E 32 j) ∧ (∀ j, J 33 j = if j < i then imgF E 23 j else imgF E 33 j) ∧ (∀ j, J 34 j = if j < i then imgF E 24 j else imgF E 34 j)) → GG G (1) 0 0 X (qS (imageS E) L) 202 [some (.ref 0), some (.int (nI i))] [] (J) (h) 0 0 := by
    intro k
    induction k using Nat.strongRecOn with | _ k ih => ?_
    intro i J hR hk hq
    obtain ⟨q25, q26, q27, q28, q29, q30, q31, q32, q33, q34⟩ := hq
    refine g_iload_1 hX (dk DX12_image_1 59 rfl) ?_
    refine g_bipush (v := 12) hX (dk DX12_image_2 0 rfl) (by decide) ?_
    refine g_icmp_ge (tgt := 238) hX (dk DX12_image_2 1 rfl) (by decide) (fun hc1 => ?_) (fun hc1 => ?_)
    · refine g_aload_0 hX (dk DX12_image_2 20 rfl) ?_
      refine g_getIv hX (dk DX12_image_2 21 rfl) KX12 fX12_7 (by decide) rfl (MLt hM (by decide)) (MC hM) (RM.f hR 0 (by decide) (by decide)) ?_
      refine g_ireturn hX (dk DX12_image_2 22 rfl) rfl (rfl) (by decide) (by decide) ?_
      have hk0 := cl_end (e := 12) hk (by decide) hc1
      subst hk0
      obtain rfl : i = 12 := by omega
      exact qS_of hM hl (by unfold imageS; rfl) (RM_cells hR (C := [25, 26, 27, 28, 29, 30, 31, 32, 33, 34]) (fun a ha => by funext j; exact imgC_off ha j) (fun a ha => by funext j; exact imgC_on ⟨q25, q26, q27, q28, q29, q30, q31, q32, q33, q34⟩ a ha j) (by decide))
    · obtain ⟨k, rfl⟩ := cl_go (e := 12) hk (by decide) hc1
      refine g_aload_0 hX (dk DX12_image_2 2 rfl) ?_
      refine g_getRs (r := 33) hX (dk DX12_image_2 3 rfl) KX12 fX12_208 (by decide) rfl (MLt hM (by decide)) (MC hM) (MR hM 65 (by decide) rfl) ?_
      refine g_iload_1 hX (dk DX12_image_2 4 rfl) ?_
      refine g_aload_0 hX (dk DX12_image_2 5 rfl) ?_
      refine g_getRs (r := 23) hX (dk DX12_image_2 6 rfl) KX12 fX12_147 (by decide) rfl (MLt hM (by decide)) (MC hM) (MR hM 45 (by decide) rfl) ?_
      refine g_iload_1 hX (dk DX12_image_2 7 rfl) ?_
      refine v_iaload hX (dk DX12_image_2 8 rfl) (MLt hM (q := 23) (by decide)) (MS hM 23 (by decide) rfl) (⟨rfl, by omega, by decide⟩) (RM.c1 hR 23 _ (by decide) (by decide)) ?_
      refine i_iastore hX (dk DX12_image_2 9 rfl) (MLt hM (q := 33) (by decide)) (MS hM 33 (by decide) rfl) (⟨rfl, by omega, by decide⟩) ?_
      refine g_aload_0 hX (dk DX12_image_2 10 rfl) ?_
      refine g_getRs (r := 34) hX (dk DX12_image_2 11 rfl) KX12 fX12_211 (by decide) rfl (MLt hM (by decide)) (MC hM) (MR hM 66 (by decide) rfl) ?_
      refine g_iload_1 hX (dk DX12_image_2 12 rfl) ?_
      refine g_aload_0 hX (dk DX12_image_2 13 rfl) ?_
      refine g_getRs (r := 24) hX (dk DX12_image_2 14 rfl) KX12 fX12_150 (by decide) rfl (MLt hM (by decide)) (MC hM) (MR hM 46 (by decide) rfl) ?_
      refine g_iload_1 hX (dk DX12_image_2 15 rfl) ?_
      refine v_iaload hX (dk DX12_image_2 16 rfl) (MLt hM (q := 24) (by decide)) (MS hM 24 (by decide) rfl) (⟨rfl, by omega, by decide⟩) (RM.c1 hR 24 _ (by decide) (by decide)) ?_
      refine i_iastore hX (dk DX12_image_2 17 rfl) (MLt hM (q := 34) (by decide)) (MS hM 34 (by decide) rfl) (⟨rfl, by omega, by decide⟩) ?_
      refine g_iinc_1 hX (dk DX12_image_2 18 rfl) (nI_1 i) (by decide) rfl ?_
      refine g_goto (tgt := 202) hX (dk DX12_image_2 19 rfl) (by decide) ?_
      exact ih k (by omega) (i + 1) _ (RM.upx (RM.upx hR (by decide) (by decide)) (by decide) (by decide)) (by omega) ⟨q25, q26, q27, q28, q29, q30, q31, q32, cp_step q33 rfl, cp_step q34 rfl⟩
  have loop177 : ∀ (k i : Nat) (J : It), RMx [] [25, 26, 27, 28, 29, 30, 31, 32, 33, 34] (imgF E) J → i + k = 4 → ((∀ j, J 25 j = if j < 10 then imgF E 1 j else imgF E 25 j) ∧ (∀ j, J 26 j = if j < 10 then imgF E 2 j else imgF E 26 j) ∧ (∀ j, J 27 j = if j < 10 then imgF E 3 j else imgF E 27 j) ∧ (∀ j, J 28 j = if j < 10 then imgF E 4 j else imgF E 28 j) ∧ (∀ j, J 29 j = if j < 10 then imgF E 5 j else imgF E 29 j) ∧ (∀ j, J 30 j = if j < 10 then imgF E 6 j else imgF E 30 j) ∧ (∀ j, J 31 j = if j < 10 then imgF E 7 j else imgF E 31 j) ∧ (∀ j, J 32 j = if j < i then imgF E 8 j else imgF E 32 j) ∧ (∀ j, J 33 j = if j < 0 then imgF E 23 j else imgF E 33 j) ∧ (∀ j, J 34 j = if j < 0 then imgF E 24 j else imgF E 34 j)) → GG G (1) 0 0 X (qS (imageS E) L) 177 [some (.ref 0), some (.int (nI i))] [] (J) (h) 0 0 := by
    intro k
    induction k using Nat.strongRecOn with | _ k ih => ?_
    intro i J hR hk hq
    obtain ⟨q25, q26, q27, q28, q29, q30, q31, q32, q33, q34⟩ := hq
    refine g_iload_1 hX (dk DX12_image_1 44 rfl) ?_
    refine g_iconst (v := 4) hX (dk DX12_image_1 45 rfl) (by decide) ?_
    refine g_icmp_ge (tgt := 200) hX (dk DX12_image_1 46 rfl) (by decide) (fun hc1 => ?_) (fun hc1 => ?_)
    · refine g_iconst (v := 0) hX (dk DX12_image_1 57 rfl) (by decide) ?_
      refine g_istore_1 hX (dk DX12_image_1 58 rfl) (by decide) rfl ?_
      have hk0 := cl_end (e := 4) hk (by decide) hc1
      subst hk0
      obtain rfl : i = 4 := by omega
      exact loop202 12 0 J hR (Nat.zero_add _) ⟨q25, q26, q27, q28, q29, q30, q31, q32, q33, q34⟩
    · obtain ⟨k, rfl⟩ := cl_go (e := 4) hk (by decide) hc1
      refine g_aload_0 hX (dk DX12_image_1 47 rfl) ?_
      refine g_getRs (r := 32) hX (dk DX12_image_1 48 rfl) KX12 fX12_205 (by decide) rfl (MLt hM (by decide)) (MC hM) (MR hM 64 (by decide) rfl) ?_
      refine g_iload_1 hX (dk DX12_image_1 49 rfl) ?_
      refine g_aload_0 hX (dk DX12_image_1 50 rfl) ?_
      refine g_getRs (r := 8) hX (dk DX12_image_1 51 rfl) KX12 fX12_53 (by decide) rfl (MLt hM (by decide)) (MC hM) (MR hM 14 (by decide) rfl) ?_
      refine g_iload_1 hX (dk DX12_image_1 52 rfl) ?_
      refine v_iaload hX (dk DX12_image_1 53 rfl) (MLt hM (q := 8) (by decide)) (MS hM 8 (by decide) rfl) (⟨rfl, by omega, by decide⟩) (RM.c1 hR 8 _ (by decide) (by decide)) ?_
      refine i_iastore hX (dk DX12_image_1 54 rfl) (MLt hM (q := 32) (by decide)) (MS hM 32 (by decide) rfl) (⟨rfl, by omega, by decide⟩) ?_
      refine g_iinc_1 hX (dk DX12_image_1 55 rfl) (nI_1 i) (by decide) rfl ?_
      refine g_goto (tgt := 177) hX (dk DX12_image_1 56 rfl) (by decide) ?_
      exact ih k (by omega) (i + 1) _ (RM.upx hR (by decide) (by decide)) (by omega) ⟨q25, q26, q27, q28, q29, q30, q31, cp_step q32 rfl, q33, q34⟩
  have loop79 : ∀ (k i : Nat) (J : It), RMx [] [25, 26, 27, 28, 29, 30, 31, 32, 33, 34] (imgF E) J → i + k = 10 → ((∀ j, J 25 j = if j < i then imgF E 1 j else imgF E 25 j) ∧ (∀ j, J 26 j = if j < i then imgF E 2 j else imgF E 26 j) ∧ (∀ j, J 27 j = if j < i then imgF E 3 j else imgF E 27 j) ∧ (∀ j, J 28 j = if j < i then imgF E 4 j else imgF E 28 j) ∧ (∀ j, J 29 j = if j < i then imgF E 5 j else imgF E 29 j) ∧ (∀ j, J 30 j = if j < i then imgF E 6 j else imgF E 30 j) ∧ (∀ j, J 31 j = if j < i then imgF E 7 j else imgF E 31 j) ∧ (∀ j, J 32 j = if j < 0 then imgF E 8 j else imgF E 32 j) ∧ (∀ j, J 33 j = if j < 0 then imgF E 23 j else imgF E 33 j) ∧ (∀ j, J 34 j = if j < 0 then imgF E 24 j else imgF E 34 j)) → GG G (1) 0 0 X (qS (imageS E) L) 79 [some (.ref 0), some (.int (nI i))] [] (J) (h) 0 0 := by
    intro k
    induction k using Nat.strongRecOn with | _ k ih => ?_
    intro i J hR hk hq
    obtain ⟨q25, q26, q27, q28, q29, q30, q31, q32, q33, q34⟩ := hq
    refine g_iload_1 hX (dk DX12_image_0 41 rfl) ?_
    refine g_bipush (v := 10) hX (dk DX12_image_0 42 rfl) (by decide) ?_
    refine g_icmp_ge (tgt := 175) hX (dk DX12_image_0 43 rfl) (by decide) (fun hc1 => ?_) (fun hc1 => ?_)
    · refine g_iconst (v := 0) hX (dk DX12_image_1 42 rfl) (by decide) ?_
      refine g_istore_1 hX (dk DX12_image_1 43 rfl) (by decide) rfl ?_
      have hk0 := cl_end (e := 10) hk (by decide) hc1
      subst hk0
      obtain rfl : i = 10 := by omega
      exact loop177 4 0 J hR (Nat.zero_add _) ⟨q25, q26, q27, q28, q29, q30, q31, q32, q33, q34⟩
    · obtain ⟨k, rfl⟩ := cl_go (e := 10) hk (by decide) hc1
      refine g_aload_0 hX (dk DX12_image_0 44 rfl) ?_
      refine g_getRs (r := 25) hX (dk DX12_image_0 45 rfl) KX12 fX12_184 (by decide) rfl (MLt hM (by decide)) (MC hM) (MR hM 57 (by decide) rfl) ?_
      refine g_iload_1 hX (dk DX12_image_0 46 rfl) ?_
      refine g_aload_0 hX (dk DX12_image_0 47 rfl) ?_
      refine g_getRs (r := 1) hX (dk DX12_image_0 48 rfl) KX12 fX12_31 (by decide) rfl (MLt hM (by decide)) (MC hM) (MR hM 7 (by decide) rfl) ?_
      refine g_iload_1 hX (dk DX12_image_0 49 rfl) ?_
      refine v_iaload hX (dk DX12_image_0 50 rfl) (MLt hM (q := 1) (by decide)) (MS hM 1 (by decide) rfl) (⟨rfl, by omega, by decide⟩) (RM.c1 hR 1 _ (by decide) (by decide)) ?_
      refine i_iastore hX (dk DX12_image_0 51 rfl) (MLt hM (q := 25) (by decide)) (MS hM 25 (by decide) rfl) (⟨rfl, by omega, by decide⟩) ?_
      refine g_aload_0 hX (dk DX12_image_0 52 rfl) ?_
      refine g_getRs (r := 26) hX (dk DX12_image_0 53 rfl) KX12 fX12_187 (by decide) rfl (MLt hM (by decide)) (MC hM) (MR hM 58 (by decide) rfl) ?_
      refine g_iload_1 hX (dk DX12_image_0 54 rfl) ?_
      refine g_aload_0 hX (dk DX12_image_0 55 rfl) ?_
      refine g_getRs (r := 2) hX (dk DX12_image_0 56 rfl) KX12 fX12_35 (by decide) rfl (MLt hM (by decide)) (MC hM) (MR hM 8 (by decide) rfl) ?_
      refine g_iload_1 hX (dk DX12_image_0 57 rfl) ?_
      refine v_iaload hX (dk DX12_image_0 58 rfl) (MLt hM (q := 2) (by decide)) (MS hM 2 (by decide) rfl) (⟨rfl, by omega, by decide⟩) (RM.c1 hR 2 _ (by decide) (by decide)) ?_
      refine i_iastore hX (dk DX12_image_0 59 rfl) (MLt hM (q := 26) (by decide)) (MS hM 26 (by decide) rfl) (⟨rfl, by omega, by decide⟩) ?_
      refine g_aload_0 hX (dk DX12_image_1 0 rfl) ?_
      refine g_getRs (r := 27) hX (dk DX12_image_1 1 rfl) KX12 fX12_190 (by decide) rfl (MLt hM (by decide)) (MC hM) (MR hM 59 (by decide) rfl) ?_
      refine g_iload_1 hX (dk DX12_image_1 2 rfl) ?_
      refine g_aload_0 hX (dk DX12_image_1 3 rfl) ?_
      refine g_getRs (r := 3) hX (dk DX12_image_1 4 rfl) KX12 fX12_38 (by decide) rfl (MLt hM (by decide)) (MC hM) (MR hM 9 (by decide) rfl) ?_
      refine g_iload_1 hX (dk DX12_image_1 5 rfl) ?_
      refine v_iaload hX (dk DX12_image_1 6 rfl) (MLt hM (q := 3) (by decide)) (MS hM 3 (by decide) rfl) (⟨rfl, by omega, by decide⟩) (RM.c1 hR 3 _ (by decide) (by decide)) ?_
      refine i_iastore hX (dk DX12_image_1 7 rfl) (MLt hM (q := 27) (by decide)) (MS hM 27 (by decide) rfl) (⟨rfl, by omega, by decide⟩) ?_
      refine g_aload_0 hX (dk DX12_image_1 8 rfl) ?_
      refine g_getRs (r := 28) hX (dk DX12_image_1 9 rfl) KX12 fX12_193 (by decide) rfl (MLt hM (by decide)) (MC hM) (MR hM 60 (by decide) rfl) ?_
      refine g_iload_1 hX (dk DX12_image_1 10 rfl) ?_
      refine g_aload_0 hX (dk DX12_image_1 11 rfl) ?_
      refine g_getRs (r := 4) hX (dk DX12_image_1 12 rfl) KX12 fX12_41 (by decide) rfl (MLt hM (by decide)) (MC hM) (MR hM 10 (by decide) rfl) ?_
      refine g_iload_1 hX (dk DX12_image_1 13 rfl) ?_
      refine v_iaload hX (dk DX12_image_1 14 rfl) (MLt hM (q := 4) (by decide)) (MS hM 4 (by decide) rfl) (⟨rfl, by omega, by decide⟩) (RM.c1 hR 4 _ (by decide) (by decide)) ?_
      refine i_iastore hX (dk DX12_image_1 15 rfl) (MLt hM (q := 28) (by decide)) (MS hM 28 (by decide) rfl) (⟨rfl, by omega, by decide⟩) ?_
      refine g_aload_0 hX (dk DX12_image_1 16 rfl) ?_
      refine g_getRs (r := 29) hX (dk DX12_image_1 17 rfl) KX12 fX12_196 (by decide) rfl (MLt hM (by decide)) (MC hM) (MR hM 61 (by decide) rfl) ?_
      refine g_iload_1 hX (dk DX12_image_1 18 rfl) ?_
      refine g_aload_0 hX (dk DX12_image_1 19 rfl) ?_
      refine g_getRs (r := 5) hX (dk DX12_image_1 20 rfl) KX12 fX12_44 (by decide) rfl (MLt hM (by decide)) (MC hM) (MR hM 11 (by decide) rfl) ?_
      refine g_iload_1 hX (dk DX12_image_1 21 rfl) ?_
      refine v_iaload hX (dk DX12_image_1 22 rfl) (MLt hM (q := 5) (by decide)) (MS hM 5 (by decide) rfl) (⟨rfl, by omega, by decide⟩) (RM.c1 hR 5 _ (by decide) (by decide)) ?_
      refine i_iastore hX (dk DX12_image_1 23 rfl) (MLt hM (q := 29) (by decide)) (MS hM 29 (by decide) rfl) (⟨rfl, by omega, by decide⟩) ?_
      refine g_aload_0 hX (dk DX12_image_1 24 rfl) ?_
      refine g_getRs (r := 30) hX (dk DX12_image_1 25 rfl) KX12 fX12_199 (by decide) rfl (MLt hM (by decide)) (MC hM) (MR hM 62 (by decide) rfl) ?_
      refine g_iload_1 hX (dk DX12_image_1 26 rfl) ?_
      refine g_aload_0 hX (dk DX12_image_1 27 rfl) ?_
      refine g_getRs (r := 6) hX (dk DX12_image_1 28 rfl) KX12 fX12_47 (by decide) rfl (MLt hM (by decide)) (MC hM) (MR hM 12 (by decide) rfl) ?_
      refine g_iload_1 hX (dk DX12_image_1 29 rfl) ?_
      refine v_iaload hX (dk DX12_image_1 30 rfl) (MLt hM (q := 6) (by decide)) (MS hM 6 (by decide) rfl) (⟨rfl, by omega, by decide⟩) (RM.c1 hR 6 _ (by decide) (by decide)) ?_
      refine i_iastore hX (dk DX12_image_1 31 rfl) (MLt hM (q := 30) (by decide)) (MS hM 30 (by decide) rfl) (⟨rfl, by omega, by decide⟩) ?_
      refine g_aload_0 hX (dk DX12_image_1 32 rfl) ?_
      refine g_getRs (r := 31) hX (dk DX12_image_1 33 rfl) KX12 fX12_202 (by decide) rfl (MLt hM (by decide)) (MC hM) (MR hM 63 (by decide) rfl) ?_
      refine g_iload_1 hX (dk DX12_image_1 34 rfl) ?_
      refine g_aload_0 hX (dk DX12_image_1 35 rfl) ?_
      refine g_getRs (r := 7) hX (dk DX12_image_1 36 rfl) KX12 fX12_50 (by decide) rfl (MLt hM (by decide)) (MC hM) (MR hM 13 (by decide) rfl) ?_
      refine g_iload_1 hX (dk DX12_image_1 37 rfl) ?_
      refine v_iaload hX (dk DX12_image_1 38 rfl) (MLt hM (q := 7) (by decide)) (MS hM 7 (by decide) rfl) (⟨rfl, by omega, by decide⟩) (RM.c1 hR 7 _ (by decide) (by decide)) ?_
      refine i_iastore hX (dk DX12_image_1 39 rfl) (MLt hM (q := 31) (by decide)) (MS hM 31 (by decide) rfl) (⟨rfl, by omega, by decide⟩) ?_
      refine g_iinc_1 hX (dk DX12_image_1 40 rfl) (nI_1 i) (by decide) rfl ?_
      refine g_goto (tgt := 79) hX (dk DX12_image_1 41 rfl) (by decide) ?_
      exact ih k (by omega) (i + 1) _ (RM.upx (RM.upx (RM.upx (RM.upx (RM.upx (RM.upx (RM.upx hR (by decide) (by decide)) (by decide) (by decide)) (by decide) (by decide)) (by decide) (by decide)) (by decide) (by decide)) (by decide) (by decide)) (by decide) (by decide)) (by omega) ⟨cp_step q25 rfl, cp_step q26 rfl, cp_step q27 rfl, cp_step q28 rfl, cp_step q29 rfl, cp_step q30 rfl, cp_step q31 rfl, q32, q33, q34⟩
  refine g_aload_0 hX (dk DX12_image_0 0 rfl) ?_
  refine g_iconst (v := 1) hX (dk DX12_image_0 1 rfl) (by decide) ?_
  refine g_putI hX (dk DX12_image_0 2 rfl) KX12 fX12_153 (by decide) rfl (MLt hM (by decide)) (MC hM) (Or.inl rfl) (by decide) (by decide) ?_
  refine g_aload_0 hX (dk DX12_image_0 3 rfl) ?_
  refine g_aload_0 hX (dk DX12_image_0 4 rfl) ?_
  refine g_getIv hX (dk DX12_image_0 5 rfl) KX12 fX12_59 (by decide) rfl (MLt hM (by decide)) (MC hM) (RM.f hR 16 (by decide) (by decide)) ?_
  refine g_putI hX (dk DX12_image_0 6 rfl) KX12 fX12_157 (by decide) rfl (MLt hM (by decide)) (MC hM) (Or.inl rfl) (rfl) (rfl) ?_
  refine g_aload_0 hX (dk DX12_image_0 7 rfl) ?_
  refine g_aload_0 hX (dk DX12_image_0 8 rfl) ?_
  refine g_getIv hX (dk DX12_image_0 9 rfl) KX12 fX12_7 (by decide) rfl (MLt hM (by decide)) (MC hM) (RM.f hR 0 (by decide) (by decide)) ?_
  refine g_putI hX (dk DX12_image_0 10 rfl) KX12 fX12_160 (by decide) rfl (MLt hM (by decide)) (MC hM) (Or.inl rfl) (rfl) (rfl) ?_
  refine g_aload_0 hX (dk DX12_image_0 11 rfl) ?_
  refine g_aload_0 hX (dk DX12_image_0 12 rfl) ?_
  refine g_getIv hX (dk DX12_image_0 13 rfl) KX12 fX12_13 (by decide) rfl (MLt hM (by decide)) (MC hM) (RM.f hR 1 (by decide) (by decide)) ?_
  refine g_putI hX (dk DX12_image_0 14 rfl) KX12 fX12_163 (by decide) rfl (MLt hM (by decide)) (MC hM) (Or.inl rfl) (rfl) (rfl) ?_
  refine g_aload_0 hX (dk DX12_image_0 15 rfl) ?_
  refine g_aload_0 hX (dk DX12_image_0 16 rfl) ?_
  refine g_getIv hX (dk DX12_image_0 17 rfl) KX12 fX12_16 (by decide) rfl (MLt hM (by decide)) (MC hM) (RM.f hR 2 (by decide) (by decide)) ?_
  refine g_putI hX (dk DX12_image_0 18 rfl) KX12 fX12_166 (by decide) rfl (MLt hM (by decide)) (MC hM) (Or.inl rfl) (rfl) (rfl) ?_
  refine g_aload_0 hX (dk DX12_image_0 19 rfl) ?_
  refine g_aload_0 hX (dk DX12_image_0 20 rfl) ?_
  refine g_getIv hX (dk DX12_image_0 21 rfl) KX12 fX12_19 (by decide) rfl (MLt hM (by decide)) (MC hM) (RM.f hR 3 (by decide) (by decide)) ?_
  refine g_putI hX (dk DX12_image_0 22 rfl) KX12 fX12_169 (by decide) rfl (MLt hM (by decide)) (MC hM) (Or.inl rfl) (rfl) (rfl) ?_
  refine g_aload_0 hX (dk DX12_image_0 23 rfl) ?_
  refine g_aload_0 hX (dk DX12_image_0 24 rfl) ?_
  refine g_getIv hX (dk DX12_image_0 25 rfl) KX12 fX12_22 (by decide) rfl (MLt hM (by decide)) (MC hM) (RM.f hR 4 (by decide) (by decide)) ?_
  refine g_putI hX (dk DX12_image_0 26 rfl) KX12 fX12_172 (by decide) rfl (MLt hM (by decide)) (MC hM) (Or.inl rfl) (rfl) (rfl) ?_
  refine g_aload_0 hX (dk DX12_image_0 27 rfl) ?_
  refine g_aload_0 hX (dk DX12_image_0 28 rfl) ?_
  refine g_getIv hX (dk DX12_image_0 29 rfl) KX12 fX12_25 (by decide) rfl (MLt hM (by decide)) (MC hM) (RM.f hR 5 (by decide) (by decide)) ?_
  refine g_putI hX (dk DX12_image_0 30 rfl) KX12 fX12_175 (by decide) rfl (MLt hM (by decide)) (MC hM) (Or.inl rfl) (rfl) (rfl) ?_
  refine g_aload_0 hX (dk DX12_image_0 31 rfl) ?_
  refine g_aload_0 hX (dk DX12_image_0 32 rfl) ?_
  refine g_getIv hX (dk DX12_image_0 33 rfl) KX12 fX12_28 (by decide) rfl (MLt hM (by decide)) (MC hM) (RM.f hR 6 (by decide) (by decide)) ?_
  refine g_putI hX (dk DX12_image_0 34 rfl) KX12 fX12_178 (by decide) rfl (MLt hM (by decide)) (MC hM) (Or.inl rfl) (rfl) (rfl) ?_
  refine g_aload_0 hX (dk DX12_image_0 35 rfl) ?_
  refine g_aload_0 hX (dk DX12_image_0 36 rfl) ?_
  refine g_getIv hX (dk DX12_image_0 37 rfl) KX12 fX12_144 (by decide) rfl (MLt hM (by decide)) (MC hM) (RM.f hR 44 (by decide) (by decide)) ?_
  refine g_putI hX (dk DX12_image_0 38 rfl) KX12 fX12_181 (by decide) rfl (MLt hM (by decide)) (MC hM) (Or.inl rfl) (rfl) (rfl) ?_
  refine g_iconst (v := 0) hX (dk DX12_image_0 39 rfl) (by decide) ?_
  refine g_istore_1 hX (dk DX12_image_0 40 rfl) (by decide) rfl ?_
  exact loop79 10 0 _ (RMx.mono (RM.upf (RM.upf (RM.upf (RM.upf (RM.upf (RM.upf (RM.upf (RM.upf (RM.upf (RM.upf hR (by decide)) (by decide)) (by decide)) (by decide)) (by decide)) (by decide)) (by decide)) (by decide)) (by decide)) (by decide)) (fun a ha => by cases ha)) (Nat.zero_add _) ⟨fun j => by rw [if_neg (Nat.not_lt_zero j)]; exact RM.c1 hR 25 j (by decide) (by decide), fun j => by rw [if_neg (Nat.not_lt_zero j)]; exact RM.c1 hR 26 j (by decide) (by decide), fun j => by rw [if_neg (Nat.not_lt_zero j)]; exact RM.c1 hR 27 j (by decide) (by decide), fun j => by rw [if_neg (Nat.not_lt_zero j)]; exact RM.c1 hR 28 j (by decide) (by decide), fun j => by rw [if_neg (Nat.not_lt_zero j)]; exact RM.c1 hR 29 j (by decide) (by decide), fun j => by rw [if_neg (Nat.not_lt_zero j)]; exact RM.c1 hR 30 j (by decide) (by decide), fun j => by rw [if_neg (Nat.not_lt_zero j)]; exact RM.c1 hR 31 j (by decide) (by decide), fun j => by rw [if_neg (Nat.not_lt_zero j)]; exact RM.c1 hR 32 j (by decide) (by decide), fun j => by rw [if_neg (Nat.not_lt_zero j)]; exact RM.c1 hR 33 j (by decide) (by decide), fun j => by rw [if_neg (Nat.not_lt_zero j)]; exact RM.c1 hR 34 j (by decide) (by decide)⟩

theorem undC_off {E : It} {a : Nat} (ha : a ∉ ([1, 2, 3, 4, 5, 6, 7, 8, 23, 24] : List Nat)) (j : Nat) : undC E a j = E a j := by
  unfold undC
  simp only [List.mem_cons, List.not_mem_nil, or_false, not_or] at ha
  grind
theorem undC_on {E J : It} (hq : (∀ j, J 1 j = if j < 10 then E 25 j else E 1 j) ∧ (∀ j, J 2 j = if j < 10 then E 26 j else E 2 j) ∧ (∀ j, J 3 j = if j < 10 then E 27 j else E 3 j) ∧ (∀ j, J 4 j = if j < 10 then E 28 j else E 4 j) ∧ (∀ j, J 5 j = if j < 10 then E 29 j else E 5 j) ∧ (∀ j, J 6 j = if j < 10 then E 30 j else E 6 j) ∧ (∀ j, J 7 j = if j < 10 then E 31 j else E 7 j) ∧ (∀ j, J 8 j = if j < 4 then E 32 j else E 8 j) ∧ (∀ j, J 23 j = if j < 12 then E 33 j else E 23 j) ∧ (∀ j, J 24 j = if j < 12 then E 34 j else E 24 j)) : ∀ a, a ∈ ([1, 2, 3, 4, 5, 6, 7, 8, 23, 24] : List Nat) → ∀ j, J a j = undC E a j := by
  obtain ⟨q1, q2, q3, q4, q5, q6, q7, q8, q23, q24⟩ := hq
  intro a ha j
  simp only [List.mem_cons, List.not_mem_nil, or_false] at ha
  rcases ha with rfl | rfl | rfl | rfl | rfl | rfl | rfl | rfl | rfl | rfl
  · rw [q1 j]; rfl
  · rw [q2 j]; rfl
  · rw [q3 j]; rfl
  · rw [q4 j]; rfl
  · rw [q5 j]; rfl
  · rw [q6 j]; rfl
  · rw [q7 j]; rfl
  · rw [q8 j]; rfl
  · rw [q23 j]; rfl
  · rw [q24 j]; rfl
set_option maxRecDepth 8000 in
set_option maxHeartbeats 4000000 in
theorem c_X12_undo {G : Gt} (hG : Gok G) {I : It} {h : Ht} (hM : HM h) {E : It} (hE : Inv E) (hR : RM E I) {L : Nat → Int64} (hl : hL h 38 = L)  : Con G (1) 0 0 mX12_undo [.ref 0] I h (qS (undoS E) L) := by
  refine con_intro (own := RX12) (lo0 := [some (.ref 0), none]) hG rfl pl_X12 (Nat.le_of_ble_eq_true rfl) rfl (fun X hX => ?_)
  have loop207 : E 0 47 ≠ 0 → ∀ (k i : Nat) (J : It), RMx [] [1, 2, 3, 4, 5, 6, 7, 8, 23, 24] (undF E) J → i + k = 12 → ((∀ j, J 1 j = if j < 10 then undF E 25 j else undF E 1 j) ∧ (∀ j, J 2 j = if j < 10 then undF E 26 j else undF E 2 j) ∧ (∀ j, J 3 j = if j < 10 then undF E 27 j else undF E 3 j) ∧ (∀ j, J 4 j = if j < 10 then undF E 28 j else undF E 4 j) ∧ (∀ j, J 5 j = if j < 10 then undF E 29 j else undF E 5 j) ∧ (∀ j, J 6 j = if j < 10 then undF E 30 j else undF E 6 j) ∧ (∀ j, J 7 j = if j < 10 then undF E 31 j else undF E 7 j) ∧ (∀ j, J 8 j = if j < 4 then undF E 32 j else undF E 8 j) ∧ (∀ j, J 23 j = if j < i then undF E 33 j else undF E 23 j) ∧ (∀ j, J 24 j = if j < i then undF E 34 j else undF E 24 j)) → GG G (1) 0 0 X (qS (undoS E) L) 207 [some (.ref 0), some (.int (nI i))] [] (J) (h) 0 0 := by
    intro hh k
    induction k using Nat.strongRecOn with | _ k ih => ?_
    intro i J hR hk hq
    obtain ⟨q1, q2, q3, q4, q5, q6, q7, q8, q23, q24⟩ := hq
    refine g_iload_1 hX (dk DX12_undo_2 1 rfl) ?_
    refine g_bipush (v := 12) hX (dk DX12_undo_2 2 rfl) (by decide) ?_
    refine g_icmp_ge (tgt := 243) hX (dk DX12_undo_2 3 rfl) (by decide) (fun hc1 => ?_) (fun hc1 => ?_)
    · refine g_aload_0 hX (dk DX12_undo_2 22 rfl) ?_
      refine g_getIv hX (dk DX12_undo_2 23 rfl) KX12 fX12_7 (by decide) rfl (MLt hM (by decide)) (MC hM) (RM.f hR 0 (by decide) (by decide)) ?_
      refine g_ireturn hX (dk DX12_undo_2 24 rfl) rfl (rfl) (by decide) (by decide) ?_
      have hk0 := cl_end (e := 12) hk (by decide) hc1
      subst hk0
      obtain rfl : i = 12 := by omega
      exact qS_of hM hl (by unfold undoS; rw [if_neg hh]; first | done | rfl) (RM_cells hR (C := [1, 2, 3, 4, 5, 6, 7, 8, 23, 24]) (fun a ha => by funext j; exact undC_off ha j) (fun a ha => by funext j; exact undC_on ⟨q1, q2, q3, q4, q5, q6, q7, q8, q23, q24⟩ a ha j) (by decide))
    · obtain ⟨k, rfl⟩ := cl_go (e := 12) hk (by decide) hc1
      refine g_aload_0 hX (dk DX12_undo_2 4 rfl) ?_
      refine g_getRs (r := 23) hX (dk DX12_undo_2 5 rfl) KX12 fX12_147 (by decide) rfl (MLt hM (by decide)) (MC hM) (MR hM 45 (by decide) rfl) ?_
      refine g_iload_1 hX (dk DX12_undo_2 6 rfl) ?_
      refine g_aload_0 hX (dk DX12_undo_2 7 rfl) ?_
      refine g_getRs (r := 33) hX (dk DX12_undo_2 8 rfl) KX12 fX12_208 (by decide) rfl (MLt hM (by decide)) (MC hM) (MR hM 65 (by decide) rfl) ?_
      refine g_iload_1 hX (dk DX12_undo_2 9 rfl) ?_
      refine v_iaload hX (dk DX12_undo_2 10 rfl) (MLt hM (q := 33) (by decide)) (MS hM 33 (by decide) rfl) (⟨rfl, by omega, by decide⟩) (RM.c1 hR 33 _ (by decide) (by decide)) ?_
      refine i_iastore hX (dk DX12_undo_2 11 rfl) (MLt hM (q := 23) (by decide)) (MS hM 23 (by decide) rfl) (⟨rfl, by omega, by decide⟩) ?_
      refine g_aload_0 hX (dk DX12_undo_2 12 rfl) ?_
      refine g_getRs (r := 24) hX (dk DX12_undo_2 13 rfl) KX12 fX12_150 (by decide) rfl (MLt hM (by decide)) (MC hM) (MR hM 46 (by decide) rfl) ?_
      refine g_iload_1 hX (dk DX12_undo_2 14 rfl) ?_
      refine g_aload_0 hX (dk DX12_undo_2 15 rfl) ?_
      refine g_getRs (r := 34) hX (dk DX12_undo_2 16 rfl) KX12 fX12_211 (by decide) rfl (MLt hM (by decide)) (MC hM) (MR hM 66 (by decide) rfl) ?_
      refine g_iload_1 hX (dk DX12_undo_2 17 rfl) ?_
      refine v_iaload hX (dk DX12_undo_2 18 rfl) (MLt hM (q := 34) (by decide)) (MS hM 34 (by decide) rfl) (⟨rfl, by omega, by decide⟩) (RM.c1 hR 34 _ (by decide) (by decide)) ?_
      refine i_iastore hX (dk DX12_undo_2 19 rfl) (MLt hM (q := 24) (by decide)) (MS hM 24 (by decide) rfl) (⟨rfl, by omega, by decide⟩) ?_
      refine g_iinc_1 hX (dk DX12_undo_2 20 rfl) (nI_1 i) (by decide) rfl ?_
      refine g_goto (tgt := 207) hX (dk DX12_undo_2 21 rfl) (by decide) ?_
      exact ih k (by omega) (i + 1) _ (RM.upx (RM.upx hR (by decide) (by decide)) (by decide) (by decide)) (by omega) ⟨q1, q2, q3, q4, q5, q6, q7, q8, cp_step q23 rfl, cp_step q24 rfl⟩
  have loop182 : E 0 47 ≠ 0 → ∀ (k i : Nat) (J : It), RMx [] [1, 2, 3, 4, 5, 6, 7, 8, 23, 24] (undF E) J → i + k = 4 → ((∀ j, J 1 j = if j < 10 then undF E 25 j else undF E 1 j) ∧ (∀ j, J 2 j = if j < 10 then undF E 26 j else undF E 2 j) ∧ (∀ j, J 3 j = if j < 10 then undF E 27 j else undF E 3 j) ∧ (∀ j, J 4 j = if j < 10 then undF E 28 j else undF E 4 j) ∧ (∀ j, J 5 j = if j < 10 then undF E 29 j else undF E 5 j) ∧ (∀ j, J 6 j = if j < 10 then undF E 30 j else undF E 6 j) ∧ (∀ j, J 7 j = if j < 10 then undF E 31 j else undF E 7 j) ∧ (∀ j, J 8 j = if j < i then undF E 32 j else undF E 8 j) ∧ (∀ j, J 23 j = if j < 0 then undF E 33 j else undF E 23 j) ∧ (∀ j, J 24 j = if j < 0 then undF E 34 j else undF E 24 j)) → GG G (1) 0 0 X (qS (undoS E) L) 182 [some (.ref 0), some (.int (nI i))] [] (J) (h) 0 0 := by
    intro hh k
    induction k using Nat.strongRecOn with | _ k ih => ?_
    intro i J hR hk hq
    obtain ⟨q1, q2, q3, q4, q5, q6, q7, q8, q23, q24⟩ := hq
    refine g_iload_1 hX (dk DX12_undo_1 46 rfl) ?_
    refine g_iconst (v := 4) hX (dk DX12_undo_1 47 rfl) (by decide) ?_
    refine g_icmp_ge (tgt := 205) hX (dk DX12_undo_1 48 rfl) (by decide) (fun hc1 => ?_) (fun hc1 => ?_)
    · refine g_iconst (v := 0) hX (dk DX12_undo_1 59 rfl) (by decide) ?_
      refine g_istore_1 hX (dk DX12_undo_2 0 rfl) (by decide) rfl ?_
      have hk0 := cl_end (e := 4) hk (by decide) hc1
      subst hk0
      obtain rfl : i = 4 := by omega
      exact loop207 hh 12 0 J hR (Nat.zero_add _) ⟨q1, q2, q3, q4, q5, q6, q7, q8, q23, q24⟩
    · obtain ⟨k, rfl⟩ := cl_go (e := 4) hk (by decide) hc1
      refine g_aload_0 hX (dk DX12_undo_1 49 rfl) ?_
      refine g_getRs (r := 8) hX (dk DX12_undo_1 50 rfl) KX12 fX12_53 (by decide) rfl (MLt hM (by decide)) (MC hM) (MR hM 14 (by decide) rfl) ?_
      refine g_iload_1 hX (dk DX12_undo_1 51 rfl) ?_
      refine g_aload_0 hX (dk DX12_undo_1 52 rfl) ?_
      refine g_getRs (r := 32) hX (dk DX12_undo_1 53 rfl) KX12 fX12_205 (by decide) rfl (MLt hM (by decide)) (MC hM) (MR hM 64 (by decide) rfl) ?_
      refine g_iload_1 hX (dk DX12_undo_1 54 rfl) ?_
      refine v_iaload hX (dk DX12_undo_1 55 rfl) (MLt hM (q := 32) (by decide)) (MS hM 32 (by decide) rfl) (⟨rfl, by omega, by decide⟩) (RM.c1 hR 32 _ (by decide) (by decide)) ?_
      refine i_iastore hX (dk DX12_undo_1 56 rfl) (MLt hM (q := 8) (by decide)) (MS hM 8 (by decide) rfl) (⟨rfl, by omega, by decide⟩) ?_
      refine g_iinc_1 hX (dk DX12_undo_1 57 rfl) (nI_1 i) (by decide) rfl ?_
      refine g_goto (tgt := 182) hX (dk DX12_undo_1 58 rfl) (by decide) ?_
      exact ih k (by omega) (i + 1) _ (RM.upx hR (by decide) (by decide)) (by omega) ⟨q1, q2, q3, q4, q5, q6, q7, cp_step q8 rfl, q23, q24⟩
  have loop84 : E 0 47 ≠ 0 → ∀ (k i : Nat) (J : It), RMx [] [1, 2, 3, 4, 5, 6, 7, 8, 23, 24] (undF E) J → i + k = 10 → ((∀ j, J 1 j = if j < i then undF E 25 j else undF E 1 j) ∧ (∀ j, J 2 j = if j < i then undF E 26 j else undF E 2 j) ∧ (∀ j, J 3 j = if j < i then undF E 27 j else undF E 3 j) ∧ (∀ j, J 4 j = if j < i then undF E 28 j else undF E 4 j) ∧ (∀ j, J 5 j = if j < i then undF E 29 j else undF E 5 j) ∧ (∀ j, J 6 j = if j < i then undF E 30 j else undF E 6 j) ∧ (∀ j, J 7 j = if j < i then undF E 31 j else undF E 7 j) ∧ (∀ j, J 8 j = if j < 0 then undF E 32 j else undF E 8 j) ∧ (∀ j, J 23 j = if j < 0 then undF E 33 j else undF E 23 j) ∧ (∀ j, J 24 j = if j < 0 then undF E 34 j else undF E 24 j)) → GG G (1) 0 0 X (qS (undoS E) L) 84 [some (.ref 0), some (.int (nI i))] [] (J) (h) 0 0 := by
    intro hh k
    induction k using Nat.strongRecOn with | _ k ih => ?_
    intro i J hR hk hq
    obtain ⟨q1, q2, q3, q4, q5, q6, q7, q8, q23, q24⟩ := hq
    refine g_iload_1 hX (dk DX12_undo_0 43 rfl) ?_
    refine g_bipush (v := 10) hX (dk DX12_undo_0 44 rfl) (by decide) ?_
    refine g_icmp_ge (tgt := 180) hX (dk DX12_undo_0 45 rfl) (by decide) (fun hc1 => ?_) (fun hc1 => ?_)
    · refine g_iconst (v := 0) hX (dk DX12_undo_1 44 rfl) (by decide) ?_
      refine g_istore_1 hX (dk DX12_undo_1 45 rfl) (by decide) rfl ?_
      have hk0 := cl_end (e := 10) hk (by decide) hc1
      subst hk0
      obtain rfl : i = 10 := by omega
      exact loop182 hh 4 0 J hR (Nat.zero_add _) ⟨q1, q2, q3, q4, q5, q6, q7, q8, q23, q24⟩
    · obtain ⟨k, rfl⟩ := cl_go (e := 10) hk (by decide) hc1
      refine g_aload_0 hX (dk DX12_undo_0 46 rfl) ?_
      refine g_getRs (r := 1) hX (dk DX12_undo_0 47 rfl) KX12 fX12_31 (by decide) rfl (MLt hM (by decide)) (MC hM) (MR hM 7 (by decide) rfl) ?_
      refine g_iload_1 hX (dk DX12_undo_0 48 rfl) ?_
      refine g_aload_0 hX (dk DX12_undo_0 49 rfl) ?_
      refine g_getRs (r := 25) hX (dk DX12_undo_0 50 rfl) KX12 fX12_184 (by decide) rfl (MLt hM (by decide)) (MC hM) (MR hM 57 (by decide) rfl) ?_
      refine g_iload_1 hX (dk DX12_undo_0 51 rfl) ?_
      refine v_iaload hX (dk DX12_undo_0 52 rfl) (MLt hM (q := 25) (by decide)) (MS hM 25 (by decide) rfl) (⟨rfl, by omega, by decide⟩) (RM.c1 hR 25 _ (by decide) (by decide)) ?_
      refine i_iastore hX (dk DX12_undo_0 53 rfl) (MLt hM (q := 1) (by decide)) (MS hM 1 (by decide) rfl) (⟨rfl, by omega, by decide⟩) ?_
      refine g_aload_0 hX (dk DX12_undo_0 54 rfl) ?_
      refine g_getRs (r := 2) hX (dk DX12_undo_0 55 rfl) KX12 fX12_35 (by decide) rfl (MLt hM (by decide)) (MC hM) (MR hM 8 (by decide) rfl) ?_
      refine g_iload_1 hX (dk DX12_undo_0 56 rfl) ?_
      refine g_aload_0 hX (dk DX12_undo_0 57 rfl) ?_
      refine g_getRs (r := 26) hX (dk DX12_undo_0 58 rfl) KX12 fX12_187 (by decide) rfl (MLt hM (by decide)) (MC hM) (MR hM 58 (by decide) rfl) ?_
      refine g_iload_1 hX (dk DX12_undo_0 59 rfl) ?_
      refine v_iaload hX (dk DX12_undo_1 0 rfl) (MLt hM (q := 26) (by decide)) (MS hM 26 (by decide) rfl) (⟨rfl, by omega, by decide⟩) (RM.c1 hR 26 _ (by decide) (by decide)) ?_
      refine i_iastore hX (dk DX12_undo_1 1 rfl) (MLt hM (q := 2) (by decide)) (MS hM 2 (by decide) rfl) (⟨rfl, by omega, by decide⟩) ?_
      refine g_aload_0 hX (dk DX12_undo_1 2 rfl) ?_
      refine g_getRs (r := 3) hX (dk DX12_undo_1 3 rfl) KX12 fX12_38 (by decide) rfl (MLt hM (by decide)) (MC hM) (MR hM 9 (by decide) rfl) ?_
      refine g_iload_1 hX (dk DX12_undo_1 4 rfl) ?_
      refine g_aload_0 hX (dk DX12_undo_1 5 rfl) ?_
      refine g_getRs (r := 27) hX (dk DX12_undo_1 6 rfl) KX12 fX12_190 (by decide) rfl (MLt hM (by decide)) (MC hM) (MR hM 59 (by decide) rfl) ?_
      refine g_iload_1 hX (dk DX12_undo_1 7 rfl) ?_
      refine v_iaload hX (dk DX12_undo_1 8 rfl) (MLt hM (q := 27) (by decide)) (MS hM 27 (by decide) rfl) (⟨rfl, by omega, by decide⟩) (RM.c1 hR 27 _ (by decide) (by decide)) ?_
      refine i_iastore hX (dk DX12_undo_1 9 rfl) (MLt hM (q := 3) (by decide)) (MS hM 3 (by decide) rfl) (⟨rfl, by omega, by decide⟩) ?_
      refine g_aload_0 hX (dk DX12_undo_1 10 rfl) ?_
      refine g_getRs (r := 4) hX (dk DX12_undo_1 11 rfl) KX12 fX12_41 (by decide) rfl (MLt hM (by decide)) (MC hM) (MR hM 10 (by decide) rfl) ?_
      refine g_iload_1 hX (dk DX12_undo_1 12 rfl) ?_
      refine g_aload_0 hX (dk DX12_undo_1 13 rfl) ?_
      refine g_getRs (r := 28) hX (dk DX12_undo_1 14 rfl) KX12 fX12_193 (by decide) rfl (MLt hM (by decide)) (MC hM) (MR hM 60 (by decide) rfl) ?_
      refine g_iload_1 hX (dk DX12_undo_1 15 rfl) ?_
      refine v_iaload hX (dk DX12_undo_1 16 rfl) (MLt hM (q := 28) (by decide)) (MS hM 28 (by decide) rfl) (⟨rfl, by omega, by decide⟩) (RM.c1 hR 28 _ (by decide) (by decide)) ?_
      refine i_iastore hX (dk DX12_undo_1 17 rfl) (MLt hM (q := 4) (by decide)) (MS hM 4 (by decide) rfl) (⟨rfl, by omega, by decide⟩) ?_
      refine g_aload_0 hX (dk DX12_undo_1 18 rfl) ?_
      refine g_getRs (r := 5) hX (dk DX12_undo_1 19 rfl) KX12 fX12_44 (by decide) rfl (MLt hM (by decide)) (MC hM) (MR hM 11 (by decide) rfl) ?_
      refine g_iload_1 hX (dk DX12_undo_1 20 rfl) ?_
      refine g_aload_0 hX (dk DX12_undo_1 21 rfl) ?_
      refine g_getRs (r := 29) hX (dk DX12_undo_1 22 rfl) KX12 fX12_196 (by decide) rfl (MLt hM (by decide)) (MC hM) (MR hM 61 (by decide) rfl) ?_
      refine g_iload_1 hX (dk DX12_undo_1 23 rfl) ?_
      refine v_iaload hX (dk DX12_undo_1 24 rfl) (MLt hM (q := 29) (by decide)) (MS hM 29 (by decide) rfl) (⟨rfl, by omega, by decide⟩) (RM.c1 hR 29 _ (by decide) (by decide)) ?_
      refine i_iastore hX (dk DX12_undo_1 25 rfl) (MLt hM (q := 5) (by decide)) (MS hM 5 (by decide) rfl) (⟨rfl, by omega, by decide⟩) ?_
      refine g_aload_0 hX (dk DX12_undo_1 26 rfl) ?_
      refine g_getRs (r := 6) hX (dk DX12_undo_1 27 rfl) KX12 fX12_47 (by decide) rfl (MLt hM (by decide)) (MC hM) (MR hM 12 (by decide) rfl) ?_
      refine g_iload_1 hX (dk DX12_undo_1 28 rfl) ?_
      refine g_aload_0 hX (dk DX12_undo_1 29 rfl) ?_
      refine g_getRs (r := 30) hX (dk DX12_undo_1 30 rfl) KX12 fX12_199 (by decide) rfl (MLt hM (by decide)) (MC hM) (MR hM 62 (by decide) rfl) ?_
      refine g_iload_1 hX (dk DX12_undo_1 31 rfl) ?_
      refine v_iaload hX (dk DX12_undo_1 32 rfl) (MLt hM (q := 30) (by decide)) (MS hM 30 (by decide) rfl) (⟨rfl, by omega, by decide⟩) (RM.c1 hR 30 _ (by decide) (by decide)) ?_
      refine i_iastore hX (dk DX12_undo_1 33 rfl) (MLt hM (q := 6) (by decide)) (MS hM 6 (by decide) rfl) (⟨rfl, by omega, by decide⟩) ?_
      refine g_aload_0 hX (dk DX12_undo_1 34 rfl) ?_
      refine g_getRs (r := 7) hX (dk DX12_undo_1 35 rfl) KX12 fX12_50 (by decide) rfl (MLt hM (by decide)) (MC hM) (MR hM 13 (by decide) rfl) ?_
      refine g_iload_1 hX (dk DX12_undo_1 36 rfl) ?_
      refine g_aload_0 hX (dk DX12_undo_1 37 rfl) ?_
      refine g_getRs (r := 31) hX (dk DX12_undo_1 38 rfl) KX12 fX12_202 (by decide) rfl (MLt hM (by decide)) (MC hM) (MR hM 63 (by decide) rfl) ?_
      refine g_iload_1 hX (dk DX12_undo_1 39 rfl) ?_
      refine v_iaload hX (dk DX12_undo_1 40 rfl) (MLt hM (q := 31) (by decide)) (MS hM 31 (by decide) rfl) (⟨rfl, by omega, by decide⟩) (RM.c1 hR 31 _ (by decide) (by decide)) ?_
      refine i_iastore hX (dk DX12_undo_1 41 rfl) (MLt hM (q := 7) (by decide)) (MS hM 7 (by decide) rfl) (⟨rfl, by omega, by decide⟩) ?_
      refine g_iinc_1 hX (dk DX12_undo_1 42 rfl) (nI_1 i) (by decide) rfl ?_
      refine g_goto (tgt := 84) hX (dk DX12_undo_1 43 rfl) (by decide) ?_
      exact ih k (by omega) (i + 1) _ (RM.upx (RM.upx (RM.upx (RM.upx (RM.upx (RM.upx (RM.upx hR (by decide) (by decide)) (by decide) (by decide)) (by decide) (by decide)) (by decide) (by decide)) (by decide) (by decide)) (by decide) (by decide)) (by decide) (by decide)) (by omega) ⟨cp_step q1 rfl, cp_step q2 rfl, cp_step q3 rfl, cp_step q4 rfl, cp_step q5 rfl, cp_step q6 rfl, cp_step q7 rfl, q8, q23, q24⟩
  refine g_aload_0 hX (dk DX12_undo_0 0 rfl) ?_
  refine g_getIv hX (dk DX12_undo_0 1 rfl) KX12 fX12_153 (by decide) rfl (MLt hM (by decide)) (MC hM) (RM.f hR 47 (by decide) (by decide)) ?_
  refine g_if_ne (tgt := 10) hX (dk DX12_undo_0 2 rfl) (by decide) (fun hc1 => ?_) (fun hc1 => ?_)
  · have hh := hc1
    refine g_aload_0 hX (dk DX12_undo_0 5 rfl) ?_
    refine g_aload_0 hX (dk DX12_undo_0 6 rfl) ?_
    refine g_getIv hX (dk DX12_undo_0 7 rfl) KX12 fX12_157 (by decide) rfl (MLt hM (by decide)) (MC hM) (RM.f hR 48 (by decide) (by decide)) ?_
    refine g_putI hX (dk DX12_undo_0 8 rfl) KX12 fX12_59 (by decide) rfl (MLt hM (by decide)) (MC hM) (Or.inl rfl) (rfl) (rfl) ?_
    refine g_aload_0 hX (dk DX12_undo_0 9 rfl) ?_
    refine g_aload_0 hX (dk DX12_undo_0 10 rfl) ?_
    refine g_getIv hX (dk DX12_undo_0 11 rfl) KX12 fX12_160 (by decide) rfl (MLt hM (by decide)) (MC hM) (RM.f hR 49 (by decide) (by decide)) ?_
    refine g_putI hX (dk DX12_undo_0 12 rfl) KX12 fX12_7 (by decide) rfl (MLt hM (by decide)) (MC hM) (Or.inl rfl) (rfl) (rfl) ?_
    refine g_aload_0 hX (dk DX12_undo_0 13 rfl) ?_
    refine g_aload_0 hX (dk DX12_undo_0 14 rfl) ?_
    refine g_getIv hX (dk DX12_undo_0 15 rfl) KX12 fX12_163 (by decide) rfl (MLt hM (by decide)) (MC hM) (RM.f hR 50 (by decide) (by decide)) ?_
    refine g_putI hX (dk DX12_undo_0 16 rfl) KX12 fX12_13 (by decide) rfl (MLt hM (by decide)) (MC hM) (Or.inl rfl) (rfl) (rfl) ?_
    refine g_aload_0 hX (dk DX12_undo_0 17 rfl) ?_
    refine g_aload_0 hX (dk DX12_undo_0 18 rfl) ?_
    refine g_getIv hX (dk DX12_undo_0 19 rfl) KX12 fX12_166 (by decide) rfl (MLt hM (by decide)) (MC hM) (RM.f hR 51 (by decide) (by decide)) ?_
    refine g_putI hX (dk DX12_undo_0 20 rfl) KX12 fX12_16 (by decide) rfl (MLt hM (by decide)) (MC hM) (Or.inl rfl) (rfl) (rfl) ?_
    refine g_aload_0 hX (dk DX12_undo_0 21 rfl) ?_
    refine g_aload_0 hX (dk DX12_undo_0 22 rfl) ?_
    refine g_getIv hX (dk DX12_undo_0 23 rfl) KX12 fX12_169 (by decide) rfl (MLt hM (by decide)) (MC hM) (RM.f hR 52 (by decide) (by decide)) ?_
    refine g_putI hX (dk DX12_undo_0 24 rfl) KX12 fX12_19 (by decide) rfl (MLt hM (by decide)) (MC hM) (Or.inl rfl) (rfl) (rfl) ?_
    refine g_aload_0 hX (dk DX12_undo_0 25 rfl) ?_
    refine g_aload_0 hX (dk DX12_undo_0 26 rfl) ?_
    refine g_getIv hX (dk DX12_undo_0 27 rfl) KX12 fX12_172 (by decide) rfl (MLt hM (by decide)) (MC hM) (RM.f hR 53 (by decide) (by decide)) ?_
    refine g_putI hX (dk DX12_undo_0 28 rfl) KX12 fX12_22 (by decide) rfl (MLt hM (by decide)) (MC hM) (Or.inl rfl) (rfl) (rfl) ?_
    refine g_aload_0 hX (dk DX12_undo_0 29 rfl) ?_
    refine g_aload_0 hX (dk DX12_undo_0 30 rfl) ?_
    refine g_getIv hX (dk DX12_undo_0 31 rfl) KX12 fX12_175 (by decide) rfl (MLt hM (by decide)) (MC hM) (RM.f hR 54 (by decide) (by decide)) ?_
    refine g_putI hX (dk DX12_undo_0 32 rfl) KX12 fX12_25 (by decide) rfl (MLt hM (by decide)) (MC hM) (Or.inl rfl) (rfl) (rfl) ?_
    refine g_aload_0 hX (dk DX12_undo_0 33 rfl) ?_
    refine g_aload_0 hX (dk DX12_undo_0 34 rfl) ?_
    refine g_getIv hX (dk DX12_undo_0 35 rfl) KX12 fX12_178 (by decide) rfl (MLt hM (by decide)) (MC hM) (RM.f hR 55 (by decide) (by decide)) ?_
    refine g_putI hX (dk DX12_undo_0 36 rfl) KX12 fX12_28 (by decide) rfl (MLt hM (by decide)) (MC hM) (Or.inl rfl) (rfl) (rfl) ?_
    refine g_aload_0 hX (dk DX12_undo_0 37 rfl) ?_
    refine g_aload_0 hX (dk DX12_undo_0 38 rfl) ?_
    refine g_getIv hX (dk DX12_undo_0 39 rfl) KX12 fX12_181 (by decide) rfl (MLt hM (by decide)) (MC hM) (RM.f hR 56 (by decide) (by decide)) ?_
    refine g_putI hX (dk DX12_undo_0 40 rfl) KX12 fX12_144 (by decide) rfl (MLt hM (by decide)) (MC hM) (Or.inl rfl) (rfl) (rfl) ?_
    refine g_iconst (v := 0) hX (dk DX12_undo_0 41 rfl) (by decide) ?_
    refine g_istore_1 hX (dk DX12_undo_0 42 rfl) (by decide) rfl ?_
    exact loop84 hh 10 0 _ (RMx.mono (RM.upf (RM.upf (RM.upf (RM.upf (RM.upf (RM.upf (RM.upf (RM.upf (RM.upf hR (by decide)) (by decide)) (by decide)) (by decide)) (by decide)) (by decide)) (by decide)) (by decide)) (by decide)) (fun a ha => by cases ha)) (Nat.zero_add _) ⟨fun j => by rw [if_neg (Nat.not_lt_zero j)]; exact RM.c1 hR 1 j (by decide) (by decide), fun j => by rw [if_neg (Nat.not_lt_zero j)]; exact RM.c1 hR 2 j (by decide) (by decide), fun j => by rw [if_neg (Nat.not_lt_zero j)]; exact RM.c1 hR 3 j (by decide) (by decide), fun j => by rw [if_neg (Nat.not_lt_zero j)]; exact RM.c1 hR 4 j (by decide) (by decide), fun j => by rw [if_neg (Nat.not_lt_zero j)]; exact RM.c1 hR 5 j (by decide) (by decide), fun j => by rw [if_neg (Nat.not_lt_zero j)]; exact RM.c1 hR 6 j (by decide) (by decide), fun j => by rw [if_neg (Nat.not_lt_zero j)]; exact RM.c1 hR 7 j (by decide) (by decide), fun j => by rw [if_neg (Nat.not_lt_zero j)]; exact RM.c1 hR 8 j (by decide) (by decide), fun j => by rw [if_neg (Nat.not_lt_zero j)]; exact RM.c1 hR 23 j (by decide) (by decide), fun j => by rw [if_neg (Nat.not_lt_zero j)]; exact RM.c1 hR 24 j (by decide) (by decide)⟩
  · refine g_bipush (v := -3) hX (dk DX12_undo_0 3 rfl) (by decide) ?_
    refine g_ireturn hX (dk DX12_undo_0 4 rfl) rfl (rfl) (by decide) (by decide) ?_
    exact qS_of hM hl (by unfold undoS; (try first | rw [if_pos hc1] | rw [if_neg hc1] | rw [if_neg (not_not_intro hc1)]); first | done | rfl) hR
end
section
theorem h4_eq {a b c d : Nat} {f : Nat → Int32} (e0 : f 0 = nI a) (e1 : f 1 = nI b) (e2 : f 2 = nI c) (e3 : f 3 = nI d) : ∀ y, y < 4 → f y = h4 a b c d y := by
  intro y hy
  unfold h4
  rcases (by omega : y = 0 ∨ y = 1 ∨ y = 2 ∨ y = 3) with rfl | rfl | rfl | rfl
  · exact e0
  · exact e1
  · exact e2
  · exact e3
theorem RM_8 {E J K : It} {F C : List Nat} (hR : RMx F [8] E J) (hf : ∀ y, y < 4 → K 8 y = E 8 y) (h2 : ∀ y, 4 ≤ y → K 8 y = E 8 y) (hfr : Fr [] [8] J K) : RMx F [] E K := by
  obtain ⟨a1, a2, a3, a4, a5, a6⟩ := hR
  obtain ⟨f1, f2⟩ := hfr
  refine ⟨fun j hj hF => (f1 j (by simp)).trans (a1 j hj hF), fun a ha _ => ?_, ?_, ?_, ?_, ?_⟩
  · by_cases e : a = 8
    · subst e
      funext y
      rcases Nat.lt_or_ge y 4 with z | z
      · exact hf y z
      · exact h2 y z
    · exact (f2 a (by rintro rfl; revert ha; decide) (by simpa using e)).trans (a2 a ha (by simpa using e))
  · rw [f2 10 (by decide) (by decide)]; exact a3
  · rw [f2 11 (by decide) (by decide), f2 12 (by decide) (by decide), f2 13 (by decide) (by decide), f2 14 (by decide) (by decide)]; exact a4
  · rw [f2 15 (by decide) (by decide)]; exact a5
  · rw [f2 17 (by decide) (by decide)]; exact a6
set_option maxRecDepth 8000 in
set_option maxHeartbeats 4000000 in
theorem c_X12_split {G : Gt} (hG : Gok G) {I : It} {h : Ht} (hM : HM h) {E : It} (hE : Inv E) (hR : RM E I) {L : Nat → Int64} (hl : hL h 38 = L) {a n w : Int32} : Con G (9) 0 0 mX12_split [.ref 0, .int a, .int n, .int w] I h (qS (splitS E a n w) L) := by
  refine con_intro (own := RX12) (lo0 := [some (.ref 0), some (.int a), some (.int n), some (.int w), none, none, none, none, none]) hG rfl pl_X12 (Nat.le_of_ble_eq_true rfl) rfl (fun X hX => ?_)
  have loop168 : ∀ (a1 a2 a3 a4 a5 a6 a7 : Int32) (J : It), (∀ J7, (∀ y, y < 4 → J7 22 y = J 8 y) → Fr [] [22] J J7 → GG G 9 0 0 X (qS (splitS E a n w) L) 194 [some (.ref 0), some (.int a1), some (.int a2), some (.int a3), some (.int a4), some (.int a5), none, none, none] [] J7 h 0 0) → ∀ (k y : Nat) (J6 : It), y + k = 4 → (∀ z, z < y → J6 22 z = J 8 z) → Fr [] [22] J J6 → GG G (9) 0 0 X (qS (splitS E a n w) L) 168 [some (.ref 0), some (.int a1), some (.int a2), some (.int a3), some (.int a4), some (.int a5), some (.int a6), some (.int a7), some (.int (nI y))] [] (J6) (h) 0 0 := by
    intro a1 a2 a3 a4 a5 a6 a7 J kk k
    induction k using Nat.strongRecOn with | _ k ih => ?_
    intro y J6 hk hz hfr
    have e8 := hfr.2 8 (by decide) (by decide)
    refine g_iload_8 hX (dk DX12_split_1 35 rfl) ?_
    refine g_iconst (v := 4) hX (dk DX12_split_1 36 rfl) (by decide) ?_
    refine g_icmp_ge (tgt := 194) hX (dk DX12_split_1 37 rfl) (by decide) (fun hc1 => ?_) (fun hc1 => ?_)
    · have hk0 := cl_end (e := 4) hk (by decide) hc1
      subst hk0
      exact g_fgt (kk J6 (fun y2 h2 => hz y2 (by omega)) hfr) ⟨rfl, rfl, rfl, rfl, rfl, rfl, trivial⟩
    · obtain ⟨k, rfl⟩ := cl_go (e := 4) hk (by decide) hc1
      refine g_aload_0 hX (dk DX12_split_1 38 rfl) ?_
      refine g_getRs (r := 22) hX (dk DX12_split_1 39 rfl) KX12 fX12_141 (by decide) rfl (MLt hM (by decide)) (MC hM) (MR hM 43 (by decide) rfl) ?_
      refine g_iload_8 hX (dk DX12_split_1 40 rfl) ?_
      refine g_aload_0 hX (dk DX12_split_1 41 rfl) ?_
      refine g_getRs (r := 8) hX (dk DX12_split_1 42 rfl) KX12 fX12_53 (by decide) rfl (MLt hM (by decide)) (MC hM) (MR hM 14 (by decide) rfl) ?_
      refine g_iload_8 hX (dk DX12_split_1 43 rfl) ?_
      refine v_iaload hX (dk DX12_split_1 44 rfl) (MLt hM (q := 8) (by decide)) (MS hM 8 (by decide) rfl) (⟨rfl, by omega, by decide⟩) (congrFun e8 y) ?_
      refine i_iastore hX (dk DX12_split_1 45 rfl) (MLt hM (q := 22) (by decide)) (MS hM 22 (by decide) rfl) (⟨rfl, by omega, by decide⟩) ?_
      refine g_iinc_8 hX (dk DX12_split_1 46 rfl) (nI_1 y) (by decide) rfl ?_
      refine g_goto (tgt := 168) hX (dk DX12_split_1 47 rfl) (by decide) ?_
      exact ih k (by omega) (y + 1) _ (by omega) (fun z hz2 => by
        by_cases e : z = y
        · subst e; rw [up0]
        · rw [upn (by omega)]; exact hz z (by omega)) (hfr.pc (by decide) (by decide))
  have loop54 : ∀ x m, x ≤ 9 → m ≤ 60 → a = nI x → n = nI m → (-1 ≤ w ∧ w ≤ 3) → ∀ (k c : Nat) (l : Int32) (b : Nat → Int32) (J : It), RMx [] [8] E J → SY E J → (∀ y, 4 ≤ y → J 8 y = E 8 y) → (∀ y, y < 4 → J 21 y = E 8 y) → c + k = 1000 → ((c = 0 ∧ l = -1) ∨ ∀ y, y < 4 → J 22 y = b y) → spR E x m k c l b = spF E x m → GG G (9) 0 0 X (qS (splitS E a n w) L) 54 [some (.ref 0), some (.int (nI x)), some (.int (nI m)), some (.int w), some (.int l), some (.int (nI c)), none, none, none] [] (J) (h) 0 0 := by
    intro x m hx hm ea en hw k
    subst ea en
    have hin1 : 0 ≤ nI x ∧ nI x ≤ 9 := ⟨nI_pos' (by omega), (nI_leI (b := 9) (by omega) (by decide)).mpr hx⟩
    have hin2 : 0 ≤ nI m ∧ nI m ≤ 60 := ⟨nI_pos' (by omega), (nI_leI (b := 60) (by omega) (by decide)).mpr hm⟩
    induction k using Nat.strongRecOn with | _ k ih => ?_
    intro c l b J hR hS h8 h21 hk hb hv
    refine g_iload_5 hX (dk DX12_split_0 30 rfl) ?_
    refine g_sipush (v := 1000) hX (dk DX12_split_0 31 rfl) (by decide) ?_
    refine g_icmp_ge (tgt := 200) hX (dk DX12_split_0 32 rfl) (by decide) (fun hc1 => ?_) (fun hc1 => ?_)
    · refine g_aload_0 hX (dk DX12_split_1 50 rfl) ?_
      refine g_c1v hX sX12_split_201 (by decide) (Nat.le_of_ble_eq_true rfl) (rc0 rfl (MLt hM (by decide)) (MC hM)) (by decide) (by decide) (c_X12_putHours hG hM) ?_
      rintro J6 _ ⟨hp1, hp2, hfr6, rfl⟩
      have hR6 := RM_8 (C := []) hR (fun y hy => (hp1 y hy).trans (h21 y hy)) (fun y hy => (hp2 y hy).trans (h8 y hy)) hfr6
      have hk0 := ct_end (e := 1000) hk (by decide) hc1
      subst hk0
      refine g_iload_3 hX (dk DX12_split_1 52 rfl) ?_
      refine g_if_ge (tgt := 213) hX (dk DX12_split_1 53 rfl) (by decide) (fun hc2 => ?_) (fun hc2 => ?_)
      · obtain ⟨y, hy, rfl⟩ := in_of (b := 3) (by decide) ⟨hc2, hw.2⟩
        have hw3 : y < 4 := by omega
        refine g_aload_0 hX (dk DX12_split_1 56 rfl) ?_
        refine g_getRs (r := 22) hX (dk DX12_split_1 57 rfl) KX12 fX12_141 (by decide) rfl (MLt hM (by decide)) (MC hM) (MR hM 43 (by decide) rfl) ?_
        refine g_iload_3 hX (dk DX12_split_1 58 rfl) ?_
        refine v_iaload hX (dk DX12_split_1 59 rfl) (MLt hM (q := 22) (by decide)) (MS hM 22 (by decide) rfl) (⟨rfl, by omega, by decide⟩) ((congrFun (hfr6.2 22 (by decide) (by decide)) _).trans (hb.resolve_left (fun z => by omega) _ hw3)) ?_
        refine g_ireturn hX (dk DX12_split_2 0 rfl) rfl (rfl) (by decide) (by decide) ?_
        exact qS_of hM hl (by unfold splitS; rw [if_neg (not_not_intro hw), if_neg (not_not_intro hin1), if_neg (not_not_intro hin2)]; (try first | rw [if_pos hc1] | rw [if_neg hc1] | rw [if_neg (not_not_intro hc1)]); (try first | rw [if_pos hc2] | rw [if_neg hc2] | rw [if_neg (not_not_intro hc2)]); rw [tN_nI (by omega), tN_nI (by omega), ← hv]; first | done | rfl | (rw [tN_nI (by omega)]; rfl)) hR6
      · refine g_iload_4 hX (dk DX12_split_1 54 rfl) ?_
        refine g_goto (tgt := 219) hX (dk DX12_split_1 55 rfl) (by decide) ?_
        refine g_ireturn hX (dk DX12_split_2 0 rfl) rfl (rfl) (by decide) (by decide) ?_
        exact qS_of hM hl (by unfold splitS; rw [if_neg (not_not_intro hw), if_neg (not_not_intro hin1), if_neg (not_not_intro hin2)]; (try first | rw [if_pos hc1] | rw [if_neg hc1] | rw [if_neg (not_not_intro hc1)]); (try first | rw [if_pos hc2] | rw [if_neg hc2] | rw [if_neg (not_not_intro hc2)]); rw [tN_nI (by omega), tN_nI (by omega), ← hv]; first | done | rfl | (rw [tN_nI (by omega)]; rfl)) hR6
    · obtain ⟨k, rfl⟩ := ct_go (e := 1000) hk (by decide) hc1
      have hc : c < 1000 := by omega
      refine g_iload_5 hX (dk DX12_split_0 33 rfl) ?_
      refine g_bipush (v := 100) hX (dk DX12_split_0 34 rfl) (by decide) ?_
      refine g_idiv hX (dk DX12_split_0 35 rfl) (by decide) ?_
      refine g_nmI (nI (c / 100)) (pk_div (d := 100) (by omega) (by decide) (by decide)) ?_
      refine g_iload_5 hX (dk DX12_split_0 36 rfl) ?_
      refine g_bipush (v := 10) hX (dk DX12_split_0 37 rfl) (by decide) ?_
      refine g_idiv hX (dk DX12_split_0 38 rfl) (by decide) ?_
      refine g_nmI (nI (c / 10)) (pk_div (d := 10) (by omega) (by decide) (by decide)) ?_
      refine g_bipush (v := 10) hX (dk DX12_split_0 39 rfl) (by decide) ?_
      refine g_irem hX (dk DX12_split_0 40 rfl) (by decide) ?_
      refine g_nmI (nI (c / 10 % 10)) (pk_rem (d := 10) (by omega) (by decide) (by decide)) ?_
      refine g_iadd hX (dk DX12_split_0 41 rfl) ?_
      rw [nI_add]
      refine g_iload_5 hX (dk DX12_split_0 42 rfl) ?_
      refine g_bipush (v := 10) hX (dk DX12_split_0 43 rfl) (by decide) ?_
      refine g_irem hX (dk DX12_split_0 44 rfl) (by decide) ?_
      refine g_nmI (nI (c % 10)) (pk_rem (d := 10) (by omega) (by decide) (by decide)) ?_
      refine g_iadd hX (dk DX12_split_0 45 rfl) ?_
      rw [nI_add]
      refine g_istore_6 hX (dk DX12_split_0 46 rfl) (by decide) rfl ?_
      refine g_iload_6 hX (dk DX12_split_0 47 rfl) ?_
      refine g_iload_1 hX (dk DX12_split_0 48 rfl) ?_
      refine g_icmp_le (tgt := 93) hX (dk DX12_split_0 49 rfl) (by decide) (fun hc3 => ?_) (fun hc3 => ?_)
      · have hle : c / 100 + c / 10 % 10 + c % 10 ≤ x := (nI_leI (by omega) (by omega)).mp hc3
        refine g_aload_0 hX (dk DX12_split_0 51 rfl) ?_
        refine g_getRs (r := 8) hX (dk DX12_split_0 52 rfl) KX12 fX12_53 (by decide) rfl (MLt hM (by decide)) (MC hM) (MR hM 14 (by decide) rfl) ?_
        refine g_iconst (v := 0) hX (dk DX12_split_0 53 rfl) (by decide) ?_
        refine g_iload_5 hX (dk DX12_split_0 54 rfl) ?_
        refine g_bipush (v := 100) hX (dk DX12_split_0 55 rfl) (by decide) ?_
        refine g_idiv hX (dk DX12_split_0 56 rfl) (by decide) ?_
        refine g_nmI (nI (c / 100)) (pk_div (d := 100) (by omega) (by decide) (by decide)) ?_
        refine i_iastore (j := 0) hX (dk DX12_split_0 57 rfl) (MLt hM (q := 8) (by decide)) (MS hM 8 (by decide) rfl) (⟨rfl, by decide, by decide⟩) ?_
        refine g_aload_0 hX (dk DX12_split_0 58 rfl) ?_
        refine g_getRs (r := 8) hX (dk DX12_split_0 59 rfl) KX12 fX12_53 (by decide) rfl (MLt hM (by decide)) (MC hM) (MR hM 14 (by decide) rfl) ?_
        refine g_iconst (v := 1) hX (dk DX12_split_1 0 rfl) (by decide) ?_
        refine g_iload_5 hX (dk DX12_split_1 1 rfl) ?_
        refine g_bipush (v := 10) hX (dk DX12_split_1 2 rfl) (by decide) ?_
        refine g_idiv hX (dk DX12_split_1 3 rfl) (by decide) ?_
        refine g_nmI (nI (c / 10)) (pk_div (d := 10) (by omega) (by decide) (by decide)) ?_
        refine g_bipush (v := 10) hX (dk DX12_split_1 4 rfl) (by decide) ?_
        refine g_irem hX (dk DX12_split_1 5 rfl) (by decide) ?_
        refine g_nmI (nI (c / 10 % 10)) (pk_rem (d := 10) (by omega) (by decide) (by decide)) ?_
        refine i_iastore (j := 1) hX (dk DX12_split_1 6 rfl) (MLt hM (q := 8) (by decide)) (MS hM 8 (by decide) rfl) (⟨rfl, by decide, by decide⟩) ?_
        refine g_aload_0 hX (dk DX12_split_1 7 rfl) ?_
        refine g_getRs (r := 8) hX (dk DX12_split_1 8 rfl) KX12 fX12_53 (by decide) rfl (MLt hM (by decide)) (MC hM) (MR hM 14 (by decide) rfl) ?_
        refine g_iconst (v := 2) hX (dk DX12_split_1 9 rfl) (by decide) ?_
        refine g_iload_5 hX (dk DX12_split_1 10 rfl) ?_
        refine g_bipush (v := 10) hX (dk DX12_split_1 11 rfl) (by decide) ?_
        refine g_irem hX (dk DX12_split_1 12 rfl) (by decide) ?_
        refine g_nmI (nI (c % 10)) (pk_rem (d := 10) (by omega) (by decide) (by decide)) ?_
        refine i_iastore (j := 2) hX (dk DX12_split_1 13 rfl) (MLt hM (q := 8) (by decide)) (MS hM 8 (by decide) rfl) (⟨rfl, by decide, by decide⟩) ?_
        refine g_aload_0 hX (dk DX12_split_1 14 rfl) ?_
        refine g_getRs (r := 8) hX (dk DX12_split_1 15 rfl) KX12 fX12_53 (by decide) rfl (MLt hM (by decide)) (MC hM) (MR hM 14 (by decide) rfl) ?_
        refine g_iconst (v := 3) hX (dk DX12_split_1 16 rfl) (by decide) ?_
        refine g_iload_1 hX (dk DX12_split_1 17 rfl) ?_
        refine g_iload_6 hX (dk DX12_split_1 18 rfl) ?_
        refine g_isub hX (dk DX12_split_1 19 rfl) ?_
        rw [pk_sub hle]
        refine i_iastore (j := 3) hX (dk DX12_split_1 20 rfl) (MLt hM (q := 8) (by decide)) (MS hM 8 (by decide) rfl) (⟨rfl, by decide, by decide⟩) ?_
        refine g_gen (fun J4 hJ4 => ?_)
        have hfr4 : Fr [] [8] J J4 := by rw [hJ4]; exact (((Fr.rf.pc (by decide) (by decide)).pc (by decide) (by decide)).pc (by decide) (by decide)).pc (by decide) (by decide)
        have h84 : ∀ y, y < 4 → J4 8 y = spC x c y := by rw [hJ4]; exact h4_eq rfl rfl rfl rfl
        have h85 : ∀ y, 4 ≤ y → J4 8 y = E 8 y := fun y hy => by
          rw [hJ4, upn (by omega), upn (by omega), upn (by omega), upn (by omega)]; exact h8 y hy
        have hA4 : Ag E J4 := Ag.keep (Ag.of hR (by decide) (by decide)) hfr4 (by decide) (by decide)
        have hS4 := hS.fr hfr4 (by decide)
        refine g_aload_0 hX (dk DX12_split_1 21 rfl) ?_
        refine g_iload_2 hX (dk DX12_split_1 22 rfl) ?_
        refine g_c2q hX sX12_split_141 (by decide) (Nat.le_of_ble_eq_true rfl) (rc0 rfl (MLt hM (by decide)) (MC hM)) (by decide) (by decide) (cE_costHanded hG hM hE hA4 (by omega) hS4 rfl ((hfr4.1 5 (by decide)).trans (RM.f hR 5 (by decide) (by decide))) ((hfr4.1 6 (by decide)).trans (RM.f hR 6 (by decide) (by decide)))) ?_
        rintro _ J5 _ ⟨rfl, hfr5, rfl⟩
        rw [hcF_hr m h84]
        have hS5 := hS4.fr hfr5 (by decide)
        have e8 : J5 8 = J4 8 := hfr5.2 8 (by decide) (by decide)
        have e22 : J5 22 = J 22 := (hfr5.2 22 (by decide) (by decide)).trans (hfr4.2 22 (by decide) (by decide))
        have e21 : J5 21 = J 21 := (hfr5.2 21 (by decide) (by decide)).trans (hfr4.2 21 (by decide) (by decide))
        have hR5 : RMx [] [8] E J5 := RM8_keep (RM8_fr hR hfr4) hfr5
        refine g_istore_7 hX (dk DX12_split_1 24 rfl) (by decide) rfl ?_
        refine g_iload_4 hX (dk DX12_split_1 25 rfl) ?_
        refine g_if_lt (tgt := 161) hX (dk DX12_split_1 26 rfl) (by decide) (fun hc4 => ?_) (fun hc4 => ?_)
        · have hst : spR E x m (k + 1) c l b = spR E x m k (c + 1) (hcF E (spC x c) m) (spC x c) := by rw [spR_s, if_neg (by omega)]; (try first | rw [if_pos hc1] | rw [if_neg hc1] | rw [if_neg (not_not_intro hc1)]); (try first | rw [if_pos hc3] | rw [if_neg hc3] | rw [if_neg (not_not_intro hc3)]); (try first | rw [if_pos hc4] | rw [if_neg hc4] | rw [if_neg (not_not_intro hc4)]); first | done | rfl
          refine g_iload_7 hX (dk DX12_split_1 31 rfl) ?_
          refine g_istore_4 hX (dk DX12_split_1 32 rfl) (by decide) rfl ?_
          refine g_iconst (v := 0) hX (dk DX12_split_1 33 rfl) (by decide) ?_
          refine g_istore_8 hX (dk DX12_split_1 34 rfl) (by decide) rfl ?_
          refine loop168 (nI x) (nI m) w (hcF E (spC x c) m) (nI c) _ _ J5 (fun J7 h7 hfr7 => ?_) 4 0 J5 (Nat.zero_add _) (fun z hz => absurd hz (Nat.not_lt_zero z)) Fr.rf
          refine g_iinc_5 hX (dk DX12_split_1 48 rfl) (nI_1 c) (by decide) rfl ?_
          refine g_goto (tgt := 54) hX (dk DX12_split_1 49 rfl) (by decide) ?_
          first
          | exact g_fgt (ih k (by omega) (c + 1) _ (spC x c) J7 (RM.keep hR5 hfr7 (by decide) (by decide) (by decide)) (hS5.fr hfr7 (by decide)) (fun y hy => by rw [hfr7.2 8 (by decide) (by decide), e8]; exact h85 y hy) (fun y hy => by rw [hfr7.2 21 (by decide) (by decide), e21]; exact h21 y hy) (by omega) (Or.inr (fun y hy => (h7 y hy).trans (by rw [e8]; exact h84 y hy))) (by rw [← hv, hst])) ⟨rfl, rfl, rfl, rfl, rfl, rfl, trivial⟩
          | exact g_fgt (ih k (by omega) (c + 1) l b J5 hR5 hS5 (fun y hy => by rw [e8]; exact h85 y hy) (fun y hy => by rw [e21]; exact h21 y hy) (by omega) (Or.inr (fun y hy => by rw [e22]; exact hb.resolve_left (fun z => ‹¬ l < 0› (by rw [z.2]; decide)) y hy)) (by rw [← hv, hst])) ⟨rfl, rfl, rfl, rfl, rfl, rfl, trivial⟩
          | exact g_fgt (ih k (by omega) (c + 1) l b J hR hS h8 h21 (by omega) (Or.inr (hb.resolve_left (fun z => by omega))) (by rw [← hv, hst])) ⟨rfl, rfl, rfl, rfl, rfl, rfl, trivial⟩
        · refine g_iload_7 hX (dk DX12_split_1 27 rfl) ?_
          refine g_iload_4 hX (dk DX12_split_1 28 rfl) ?_
          refine g_icmp_lt (tgt := 161) hX (dk DX12_split_1 29 rfl) (by decide) (fun hc5 => ?_) (fun hc5 => ?_)
          · have hst : spR E x m (k + 1) c l b = spR E x m k (c + 1) (hcF E (spC x c) m) (spC x c) := by rw [spR_s, if_neg (by omega)]; (try first | rw [if_pos hc1] | rw [if_neg hc1] | rw [if_neg (not_not_intro hc1)]); (try first | rw [if_pos hc3] | rw [if_neg hc3] | rw [if_neg (not_not_intro hc3)]); (try first | rw [if_pos hc4] | rw [if_neg hc4] | rw [if_neg (not_not_intro hc4)]); (try first | rw [if_pos hc5] | rw [if_neg hc5] | rw [if_neg (not_not_intro hc5)]); first | done | rfl
            refine g_iload_7 hX (dk DX12_split_1 31 rfl) ?_
            refine g_istore_4 hX (dk DX12_split_1 32 rfl) (by decide) rfl ?_
            refine g_iconst (v := 0) hX (dk DX12_split_1 33 rfl) (by decide) ?_
            refine g_istore_8 hX (dk DX12_split_1 34 rfl) (by decide) rfl ?_
            refine loop168 (nI x) (nI m) w (hcF E (spC x c) m) (nI c) _ _ J5 (fun J7 h7 hfr7 => ?_) 4 0 J5 (Nat.zero_add _) (fun z hz => absurd hz (Nat.not_lt_zero z)) Fr.rf
            refine g_iinc_5 hX (dk DX12_split_1 48 rfl) (nI_1 c) (by decide) rfl ?_
            refine g_goto (tgt := 54) hX (dk DX12_split_1 49 rfl) (by decide) ?_
            first
            | exact g_fgt (ih k (by omega) (c + 1) _ (spC x c) J7 (RM.keep hR5 hfr7 (by decide) (by decide) (by decide)) (hS5.fr hfr7 (by decide)) (fun y hy => by rw [hfr7.2 8 (by decide) (by decide), e8]; exact h85 y hy) (fun y hy => by rw [hfr7.2 21 (by decide) (by decide), e21]; exact h21 y hy) (by omega) (Or.inr (fun y hy => (h7 y hy).trans (by rw [e8]; exact h84 y hy))) (by rw [← hv, hst])) ⟨rfl, rfl, rfl, rfl, rfl, rfl, trivial⟩
            | exact g_fgt (ih k (by omega) (c + 1) l b J5 hR5 hS5 (fun y hy => by rw [e8]; exact h85 y hy) (fun y hy => by rw [e21]; exact h21 y hy) (by omega) (Or.inr (fun y hy => by rw [e22]; exact hb.resolve_left (fun z => ‹¬ l < 0› (by rw [z.2]; decide)) y hy)) (by rw [← hv, hst])) ⟨rfl, rfl, rfl, rfl, rfl, rfl, trivial⟩
            | exact g_fgt (ih k (by omega) (c + 1) l b J hR hS h8 h21 (by omega) (Or.inr (hb.resolve_left (fun z => by omega))) (by rw [← hv, hst])) ⟨rfl, rfl, rfl, rfl, rfl, rfl, trivial⟩
          · have hst : spR E x m (k + 1) c l b = spR E x m k (c + 1) l b := by rw [spR_s, if_neg (by omega)]; (try first | rw [if_pos hc1] | rw [if_neg hc1] | rw [if_neg (not_not_intro hc1)]); (try first | rw [if_pos hc3] | rw [if_neg hc3] | rw [if_neg (not_not_intro hc3)]); (try first | rw [if_pos hc4] | rw [if_neg hc4] | rw [if_neg (not_not_intro hc4)]); (try first | rw [if_pos hc5] | rw [if_neg hc5] | rw [if_neg (not_not_intro hc5)]); first | done | rfl
            refine g_goto (tgt := 194) hX (dk DX12_split_1 30 rfl) (by decide) ?_
            refine g_iinc_5 hX (dk DX12_split_1 48 rfl) (nI_1 c) (by decide) rfl ?_
            refine g_goto (tgt := 54) hX (dk DX12_split_1 49 rfl) (by decide) ?_
            first
            | exact g_fgt (ih k (by omega) (c + 1) _ (spC x c) J7 (RM.keep hR5 hfr7 (by decide) (by decide) (by decide)) (hS5.fr hfr7 (by decide)) (fun y hy => by rw [hfr7.2 8 (by decide) (by decide), e8]; exact h85 y hy) (fun y hy => by rw [hfr7.2 21 (by decide) (by decide), e21]; exact h21 y hy) (by omega) (Or.inr (fun y hy => (h7 y hy).trans (by rw [e8]; exact h84 y hy))) (by rw [← hv, hst])) ⟨rfl, rfl, rfl, rfl, rfl, rfl, trivial⟩
            | exact g_fgt (ih k (by omega) (c + 1) l b J5 hR5 hS5 (fun y hy => by rw [e8]; exact h85 y hy) (fun y hy => by rw [e21]; exact h21 y hy) (by omega) (Or.inr (fun y hy => by rw [e22]; exact hb.resolve_left (fun z => ‹¬ l < 0› (by rw [z.2]; decide)) y hy)) (by rw [← hv, hst])) ⟨rfl, rfl, rfl, rfl, rfl, rfl, trivial⟩
            | exact g_fgt (ih k (by omega) (c + 1) l b J hR hS h8 h21 (by omega) (Or.inr (hb.resolve_left (fun z => by omega))) (by rw [← hv, hst])) ⟨rfl, rfl, rfl, rfl, rfl, rfl, trivial⟩
      · have hgt : x < c / 100 + c / 10 % 10 + c % 10 := by
          rcases Nat.lt_or_ge x (c / 100 + c / 10 % 10 + c % 10) with z | z
          · exact z
          · exact absurd ((nI_leI (by omega) (by omega)).mpr z) hc3
        have hst : spR E x m (k + 1) c l b = spR E x m k (c + 1) l b := by rw [spR_s, if_pos hgt]
        refine g_goto (tgt := 194) hX (dk DX12_split_0 50 rfl) (by decide) ?_
        refine g_iinc_5 hX (dk DX12_split_1 48 rfl) (nI_1 c) (by decide) rfl ?_
        refine g_goto (tgt := 54) hX (dk DX12_split_1 49 rfl) (by decide) ?_
        first
        | exact g_fgt (ih k (by omega) (c + 1) _ (spC x c) J7 (RM.keep hR5 hfr7 (by decide) (by decide) (by decide)) (hS5.fr hfr7 (by decide)) (fun y hy => by rw [hfr7.2 8 (by decide) (by decide), e8]; exact h85 y hy) (fun y hy => by rw [hfr7.2 21 (by decide) (by decide), e21]; exact h21 y hy) (by omega) (Or.inr (fun y hy => (h7 y hy).trans (by rw [e8]; exact h84 y hy))) (by rw [← hv, hst])) ⟨rfl, rfl, rfl, rfl, rfl, rfl, trivial⟩
        | exact g_fgt (ih k (by omega) (c + 1) l b J5 hR5 hS5 (fun y hy => by rw [e8]; exact h85 y hy) (fun y hy => by rw [e21]; exact h21 y hy) (by omega) (Or.inr (fun y hy => by rw [e22]; exact hb.resolve_left (fun z => ‹¬ l < 0› (by rw [z.2]; decide)) y hy)) (by rw [← hv, hst])) ⟨rfl, rfl, rfl, rfl, rfl, rfl, trivial⟩
        | exact g_fgt (ih k (by omega) (c + 1) l b J hR hS h8 h21 (by omega) (Or.inr (hb.resolve_left (fun z => by omega))) (by rw [← hv, hst])) ⟨rfl, rfl, rfl, rfl, rfl, rfl, trivial⟩
  refine g_aload_0 hX (dk DX12_split_0 0 rfl) ?_
  refine g_iload_3 hX (dk DX12_split_0 1 rfl) ?_
  refine g_iconst (v := -1) hX (dk DX12_split_0 2 rfl) (by decide) ?_
  refine g_iconst (v := 3) hX (dk DX12_split_0 3 rfl) (by decide) ?_
  refine g_c4I hX sX12_split_4 (by decide) (Nat.le_of_ble_eq_true rfl) (rc0 rfl (MLt hM (by decide)) (MC hM)) (by decide) (by decide) (c_X12_in hG ) ?_
  refine g_ifb_ne (tgt := 14) hX (dk DX12_split_0 5 rfl) (by decide) (fun hc1 => ?_) (fun hc1 => ?_)
  · refine g_aload_0 hX (dk DX12_split_0 8 rfl) ?_
    refine g_iload_1 hX (dk DX12_split_0 9 rfl) ?_
    refine g_iconst (v := 0) hX (dk DX12_split_0 10 rfl) (by decide) ?_
    refine g_bipush (v := 9) hX (dk DX12_split_0 11 rfl) (by decide) ?_
    refine g_c4I hX sX12_split_19 (by decide) (Nat.le_of_ble_eq_true rfl) (rc0 rfl (MLt hM (by decide)) (MC hM)) (by decide) (by decide) (c_X12_in hG ) ?_
    refine g_ifb_eq (tgt := 36) hX (dk DX12_split_0 13 rfl) (by decide) (fun hc2 => ?_) (fun hc2 => ?_)
    · refine g_sipush (v := -10002) hX (dk DX12_split_0 20 rfl) (by decide) ?_
      refine g_ireturn hX (dk DX12_split_0 21 rfl) rfl (rfl) (by decide) (by decide) ?_
      exact qS_of hM hl (by unfold splitS; (try first | rw [if_pos hc1] | rw [if_neg hc1] | rw [if_neg (not_not_intro hc1)]); (try first | rw [if_pos hc2] | rw [if_neg hc2] | rw [if_neg (not_not_intro hc2)]); first | done | rfl) hR
    · obtain ⟨x, hx, rfl⟩ := in_of (b := 9) (by decide) hc2
      refine g_aload_0 hX (dk DX12_split_0 14 rfl) ?_
      refine g_iload_2 hX (dk DX12_split_0 15 rfl) ?_
      refine g_iconst (v := 0) hX (dk DX12_split_0 16 rfl) (by decide) ?_
      refine g_bipush (v := 60) hX (dk DX12_split_0 17 rfl) (by decide) ?_
      refine g_c4I hX sX12_split_30 (by decide) (Nat.le_of_ble_eq_true rfl) (rc0 rfl (MLt hM (by decide)) (MC hM)) (by decide) (by decide) (c_X12_in hG ) ?_
      refine g_ifb_ne (tgt := 40) hX (dk DX12_split_0 19 rfl) (by decide) (fun hc3 => ?_) (fun hc3 => ?_)
      · obtain ⟨m, hm, rfl⟩ := in_of (b := 60) (by decide) hc3
        refine g_aload_0 hX (dk DX12_split_0 22 rfl) ?_
        refine g_c1v hX sX12_split_41 (by decide) (Nat.le_of_ble_eq_true rfl) (rc0 rfl (MLt hM (by decide)) (MC hM)) (by decide) (by decide) (c_X12_laySaid hG hM hE (Ag.of hR (by decide) (by decide))) ?_
        rintro J2 _ ⟨hS, hfr, rfl⟩
        have hR := RM.keep hR hfr (by decide) (by decide) (by decide)
        refine g_aload_0 hX (dk DX12_split_0 24 rfl) ?_
        refine g_c1v hX sX12_split_45 (by decide) (Nat.le_of_ble_eq_true rfl) (rc0 rfl (MLt hM (by decide)) (MC hM)) (by decide) (by decide) (c_X12_keepHours hG hM) ?_
        rintro J3 _ ⟨hk1, hk2, hfr3, rfl⟩
        have hS := hS.fr hfr3 (by decide)
        have h8 : J3 8 = E 8 := (hfr3.2 8 (by decide) (by decide)).trans (RM.c hR 8 (by decide) (by decide))
        have hk3 : ∀ y, y < 4 → J3 21 y = E 8 y := fun y hy => (hk1 y hy).trans (RM.c1 hR 8 y (by decide) (by decide))
        have hR := RMx.mono (C' := [8]) (RM.keep hR hfr3 (by decide) (by decide) (by decide)) (fun a ha => by cases ha)
        refine g_iconst (v := -1) hX (dk DX12_split_0 26 rfl) (by decide) ?_
        refine g_istore_4 hX (dk DX12_split_0 27 rfl) (by decide) rfl ?_
        refine g_iconst (v := 0) hX (dk DX12_split_0 28 rfl) (by decide) ?_
        refine g_istore_5 hX (dk DX12_split_0 29 rfl) (by decide) rfl ?_
        exact loop54 x m hx hm rfl rfl hc1 1000 0 (-1) (fun _ => 0) J3 hR hS (fun y hy => by rw [h8]) hk3 (Nat.zero_add _) (Or.inl ⟨rfl, rfl⟩) rfl
      · refine g_sipush (v := -10002) hX (dk DX12_split_0 20 rfl) (by decide) ?_
        refine g_ireturn hX (dk DX12_split_0 21 rfl) rfl (rfl) (by decide) (by decide) ?_
        exact qS_of hM hl (by unfold splitS; (try first | rw [if_pos hc1] | rw [if_neg hc1] | rw [if_neg (not_not_intro hc1)]); (try first | rw [if_pos hc2] | rw [if_neg hc2] | rw [if_neg (not_not_intro hc2)]); (try first | rw [if_pos hc3] | rw [if_neg hc3] | rw [if_neg (not_not_intro hc3)]); first | done | rfl) hR
  · refine g_sipush (v := -10001) hX (dk DX12_split_0 6 rfl) (by decide) ?_
    refine g_ireturn hX (dk DX12_split_0 7 rfl) rfl (rfl) (by decide) (by decide) ?_
    exact qS_of hM hl (by unfold splitS; (try first | rw [if_pos hc1] | rw [if_neg hc1] | rw [if_neg (not_not_intro hc1)]); first | done | rfl) hR
end
section
section AL
variable {G : Gt} {d mc ms : Nat} {own : String} {y : Mt} {X : Xt} {P : Pt3} {pc nx : Nat} {lo : List (Option Value)} {st : List Value} {I : It} {h : Ht} {k n : Nat}
theorem wd_push {t N : Nat} {H : Heap} {cell : Cell} {a : ClassId × vp_A} (hG : Gnew G (hn h)) (hW : Wd G I h H) (e : ent G (zI I (hn h)) (zH h (t, N)) (hn h) = .inl a) (hc : cell = vp_cell a.1 a.2) : Wd G (zI I (hn h)) (zH h (t, N)) (H.push cell) := by
  have hsz : H.size = ga G (hn h) := by rw [hW.2, hG.1]
  refine ⟨?_, by show (H.push cell).size = gz G (hn h + 1); rw [Array.size_push, hsz, hG.2]⟩
  have hko : ∀ (i : Nat) (x : Nat × va_E), (wl G I h)[i]? = some x → (H.push cell)[x.1]? = H[x.1]? := fun i x hx => by
    rw [Array.getElem?_push, if_neg (Nat.ne_of_lt ((hW.1 i x hx).lt))]
  rw [← wl_new (I := I) (h := h) (e := .inl a) rfl e (fun a ha => ent_new ha)]
  refine (hW.1.kept hko).app (fun i x hx => ?_)
  have hz : i < 1 := (List.getElem?_eq_some_iff.mp hx).1
  rw [show i = 0 by omega] at hx
  cases hx
  show (H.push cell)[ga G (hn h)]? = some (vp_cell a.1 a.2)
  rw [← hsz, ← hc]
  simp
theorem zs_new {t N : Nat} : hs (zH h (t, N)) (hn h) = (t, N) := if_pos rfl
theorem g_newarray_int (hX : Xok G own y X) {i : Int32} (N : Nat) (hd : dc y.2.1 pc (.newarray .int) 2 nx) (hw : Cond.arrayClass .int ∈ TG) (hi : i = nI N) (hN : N ≤ 1000000) (hG : Gnew G (hn h)) (hk : k + 1 ≤ mc) (hn' : n + N ≤ ms)
    (kk : GG G d mc ms X P nx lo (.ref (hn h) :: st) (zI I (hn h)) (zH h (20, N)) (k + 1) (n + N)) : GG G d mc ms X P pc lo (.int i :: st) I h k n := by
  obtain ⟨p, l, e, s, m, args, below, meth, c⟩ := X
  obtain ⟨hexec, hb, hml, hown, hts, hKs, hGk, hlk, hrt, hnm⟩ := hX
  obtain ⟨hd, rfl⟩ := hd
  subst hi
  intro H locs ls hlv hW hS
  have hcl : (nI N).toNatClampNeg = N := nI_clamp (by omega)
  have hsz : H.size = ga G (hn h) := by rw [hW.2, hG.1]
  refine W.newa (atype := .int) (n := nI N) hexec hb (hts _ hw) rfl hd rfl (nI_pos (by omega)) (by rw [hcl]; show N * _ ≤ _; simp only [newarray.typeOf, componentBytes]; omega) hk (by rw [hcl]; exact hn') fun cA kA comp h1 h2 h3 => ?_
  have hA : s.vm.findClass ("[" ++ (FieldType.int).toString) = some (gc G 20) := (hKs.1.2 0 _ (tys_at rfl)).2
  cases h1.symm.trans hA
  rw [hcl, hsz]
  exact kk _ locs ls hlv (wd_push hG hW (ent_int zs_new (Or.inl rfl)) (by rw [arrV_new, vp_cell_i]; congr 1; funext j; show Value.int 0 = Value.int (if hn h = hn h then 0 else I (hn h) j); rw [if_pos rfl])) ⟨Nat.le_trans hS.1 (by rw [Array.size_push]; omega), fun x g1 g2 => by rw [Array.getElem?_push, if_neg (Nat.ne_of_lt (Nat.lt_of_lt_of_le g1 hS.1))]; exact hS.2.1 x g1 g2, hS.2.2⟩
theorem g_newarray_byte (hX : Xok G own y X) {i : Int32} (N : Nat) (hd : dc y.2.1 pc (.newarray .byte) 2 nx) (hw : Cond.arrayClass .byte ∈ TG) (hi : i = nI N) (hN : N ≤ 1000000) (hG : Gnew G (hn h)) (hk : k + 1 ≤ mc) (hn' : n + N ≤ ms)
    (kk : GG G d mc ms X P nx lo (.ref (hn h) :: st) (zI I (hn h)) (zH h (22, N)) (k + 1) (n + N)) : GG G d mc ms X P pc lo (.int i :: st) I h k n := by
  obtain ⟨p, l, e, s, m, args, below, meth, c⟩ := X
  obtain ⟨hexec, hb, hml, hown, hts, hKs, hGk, hlk, hrt, hnm⟩ := hX
  obtain ⟨hd, rfl⟩ := hd
  subst hi
  intro H locs ls hlv hW hS
  have hcl : (nI N).toNatClampNeg = N := nI_clamp (by omega)
  have hsz : H.size = ga G (hn h) := by rw [hW.2, hG.1]
  refine W.newa (atype := .byte) (n := nI N) hexec hb (hts _ hw) rfl hd rfl (nI_pos (by omega)) (by rw [hcl]; show N * _ ≤ _; simp only [newarray.typeOf, componentBytes]; omega) hk (by rw [hcl]; exact hn') fun cA kA comp h1 h2 h3 => ?_
  have hA : s.vm.findClass ("[" ++ (FieldType.byte).toString) = some (gc G 22) := (hKs.1.2 2 _ (tys_at rfl)).2
  cases h1.symm.trans hA
  rw [hcl, hsz]
  exact kk _ locs ls hlv (wd_push hG hW (ent_int zs_new (Or.inr (Or.inl rfl))) (by rw [arrV_new, vp_cell_i]; congr 1; funext j; show Value.int 0 = Value.int (if hn h = hn h then 0 else I (hn h) j); rw [if_pos rfl])) ⟨Nat.le_trans hS.1 (by rw [Array.size_push]; omega), fun x g1 g2 => by rw [Array.getElem?_push, if_neg (Nat.ne_of_lt (Nat.lt_of_lt_of_le g1 hS.1))]; exact hS.2.1 x g1 g2, hS.2.2⟩
theorem g_newarray_boolean (hX : Xok G own y X) {i : Int32} (N : Nat) (hd : dc y.2.1 pc (.newarray .boolean) 2 nx) (hw : Cond.arrayClass .boolean ∈ TG) (hi : i = nI N) (hN : N ≤ 1000000) (hG : Gnew G (hn h)) (hk : k + 1 ≤ mc) (hn' : n + N ≤ ms)
    (kk : GG G d mc ms X P nx lo (.ref (hn h) :: st) (zI I (hn h)) (zH h (23, N)) (k + 1) (n + N)) : GG G d mc ms X P pc lo (.int i :: st) I h k n := by
  obtain ⟨p, l, e, s, m, args, below, meth, c⟩ := X
  obtain ⟨hexec, hb, hml, hown, hts, hKs, hGk, hlk, hrt, hnm⟩ := hX
  obtain ⟨hd, rfl⟩ := hd
  subst hi
  intro H locs ls hlv hW hS
  have hcl : (nI N).toNatClampNeg = N := nI_clamp (by omega)
  have hsz : H.size = ga G (hn h) := by rw [hW.2, hG.1]
  refine W.newa (atype := .boolean) (n := nI N) hexec hb (hts _ hw) rfl hd rfl (nI_pos (by omega)) (by rw [hcl]; show N * _ ≤ _; simp only [newarray.typeOf, componentBytes]; omega) hk (by rw [hcl]; exact hn') fun cA kA comp h1 h2 h3 => ?_
  have hA : s.vm.findClass ("[" ++ (FieldType.boolean).toString) = some (gc G 23) := (hKs.1.2 3 _ (tys_at rfl)).2
  cases h1.symm.trans hA
  rw [hcl, hsz]
  exact kk _ locs ls hlv (wd_push hG hW (ent_int zs_new (Or.inr (Or.inr rfl))) (by rw [arrV_new, vp_cell_i]; congr 1; funext j; show Value.int 0 = Value.int (if hn h = hn h then 0 else I (hn h) j); rw [if_pos rfl])) ⟨Nat.le_trans hS.1 (by rw [Array.size_push]; omega), fun x g1 g2 => by rw [Array.getElem?_push, if_neg (Nat.ne_of_lt (Nat.lt_of_lt_of_le g1 hS.1))]; exact hS.2.1 x g1 g2, hS.2.2⟩
theorem g_newarray_long (hX : Xok G own y X) {i : Int32} (N : Nat) (hd : dc y.2.1 pc (.newarray .long) 2 nx) (hw : Cond.arrayClass .long ∈ TG) (hi : i = nI N) (hN : N ≤ 1000000) (hG : Gnew G (hn h)) (hk : k + 1 ≤ mc) (hn' : n + N ≤ ms)
    (kk : GG G d mc ms X P nx lo (.ref (hn h) :: st) (zI I (hn h)) (zH h (21, N)) (k + 1) (n + N)) : GG G d mc ms X P pc lo (.int i :: st) I h k n := by
  obtain ⟨p, l, e, s, m, args, below, meth, c⟩ := X
  obtain ⟨hexec, hb, hml, hown, hts, hKs, hGk, hlk, hrt, hnm⟩ := hX
  obtain ⟨hd, rfl⟩ := hd
  subst hi
  intro H locs ls hlv hW hS
  have hcl : (nI N).toNatClampNeg = N := nI_clamp (by omega)
  have hsz : H.size = ga G (hn h) := by rw [hW.2, hG.1]
  refine W.newa (atype := .long) (n := nI N) hexec hb (hts _ hw) rfl hd rfl (nI_pos (by omega)) (by rw [hcl]; show N * _ ≤ _; simp only [newarray.typeOf, componentBytes]; omega) hk (by rw [hcl]; exact hn') fun cA kA comp h1 h2 h3 => ?_
  have hA : s.vm.findClass ("[" ++ (FieldType.long).toString) = some (gc G 21) := (hKs.1.2 1 _ (tys_at rfl)).2
  cases h1.symm.trans hA
  rw [hcl, hsz]
  exact kk _ locs ls hlv (wd_push hG hW (ent_long zs_new) (by rw [arrV_new, vp_cell_l]; congr 1; funext j; show Value.long 0 = Value.long (if hn h = hn h then 0 else hL h (hn h) j); rw [if_pos rfl])) ⟨Nat.le_trans hS.1 (by rw [Array.size_push]; omega), fun x g1 g2 => by rw [Array.getElem?_push, if_neg (Nat.ne_of_lt (Nat.lt_of_lt_of_le g1 hS.1))]; exact hS.2.1 x g1 g2, hS.2.2⟩
theorem g_anewarray (hX : Xok G own y X) {i : Int32} {idx t i0 : Nat} {C : String} (N : Nat) (hd : dc y.2.1 pc (.anewarray idx) 3 nx) (ht : 24 ≤ t) (hty : tysL[i0]? = some (t, .object C)) (hl : Cond.classLink own idx C ∈ TG) (hw : ∀ U, Kw U → va_AO C U) (hi : i = nI N) (hN : N ≤ 1000000) (hG : Gnew G (hn h)) (hk : k + 1 ≤ mc) (hn' : n + N ≤ ms)
    (kk : GG G d mc ms X P nx lo (.ref (hn h) :: st) (zI I (hn h)) (zH h (t, N)) (k + 1) (n + N)) : GG G d mc ms X P pc lo (.int i :: st) I h k n := by
  obtain ⟨p, l, e, s, m, args, below, meth, c⟩ := X
  obtain ⟨hexec, hb, hml, hown, hts, hKs, hGk, hlk, hrt, hnm⟩ := hX
  obtain ⟨hd, rfl⟩ := hd
  subst hi
  intro H locs ls hlv hW hS
  have hcl : (nI N).toNatClampNeg = N := nI_clamp (by omega)
  have hsz : H.size = ga G (hn h) := by rw [hW.2, hG.1]
  refine W.anew (C := C) (n := nI N) hexec hb hown (hts _ hl) (va_AO.use (hw _ hKs.2)) rfl hd rfl (nI_pos (by omega)) (by rw [hcl]; omega) hk (by rw [hcl]; exact hn') fun cA kA comp h1 h2 h3 h4 => ?_
  obtain ⟨-, -, -, -, -, hA⟩ := (hKs.1.2 i0 _ (tys_at hty)).2
  cases h1.symm.trans hA
  rw [hcl, hsz]
  refine kk _ locs ls hlv (wd_push hG hW (ent_ref zs_new ht) ?_) ⟨Nat.le_trans hS.1 (by rw [Array.size_push]; omega), fun x g1 g2 => by rw [Array.getElem?_push, if_neg (Nat.ne_of_lt (Nat.lt_of_lt_of_le g1 hS.1))]; exact hS.2.1 x g1 g2, hS.2.2⟩
  rw [arrV_new, vp_cell_q]
  congr 1
  funext j
  show Value.null = va_rf ((if hn h = hn h then none else hR h (hn h) j).map (ga G))
  rw [if_pos rfl]
  rfl
def zA (h : Ht) (a a1 : Nat) (sh : Nat × Nat) : Ht := (fun b j => if b = a then 0 else hL h b j, fun b j => if b = a then none else hR h b j, fun b => if b = a then sh else hs h b, a1)
theorem zA_eq {a a1 : Nat} {sh : Nat × Nat} (ha : hn h = a) (h1 : a + 1 = a1) : zH h sh = zA h a a1 sh := by subst ha h1; rfl
theorem g_nw_int (hX : Xok G own y X) {i : Int32} (a a1 N : Nat) (ha : hn h = a) (h1 : a + 1 = a1) (hd : dc y.2.1 pc (.newarray .int) 2 nx) (hw : Cond.arrayClass .int ∈ TG) (hi : i = nI N) (hN : N ≤ 1000000) (hG : Gnew G a) (hk : k + 1 ≤ mc) (hn' : n + N ≤ ms)
    (kk : GG G d mc ms X P nx lo (.ref a :: st) (zI I a) (zA h a a1 (20, N)) (k + 1) (n + N)) : GG G d mc ms X P pc lo (.int i :: st) I h k n :=
  g_newarray_int hX N hd hw hi hN (by rw [ha]; exact hG) hk hn' (by rw [zA_eq ha h1, ha]; exact kk)
theorem g_nw_byte (hX : Xok G own y X) {i : Int32} (a a1 N : Nat) (ha : hn h = a) (h1 : a + 1 = a1) (hd : dc y.2.1 pc (.newarray .byte) 2 nx) (hw : Cond.arrayClass .byte ∈ TG) (hi : i = nI N) (hN : N ≤ 1000000) (hG : Gnew G a) (hk : k + 1 ≤ mc) (hn' : n + N ≤ ms)
    (kk : GG G d mc ms X P nx lo (.ref a :: st) (zI I a) (zA h a a1 (22, N)) (k + 1) (n + N)) : GG G d mc ms X P pc lo (.int i :: st) I h k n :=
  g_newarray_byte hX N hd hw hi hN (by rw [ha]; exact hG) hk hn' (by rw [zA_eq ha h1, ha]; exact kk)
theorem g_nw_boolean (hX : Xok G own y X) {i : Int32} (a a1 N : Nat) (ha : hn h = a) (h1 : a + 1 = a1) (hd : dc y.2.1 pc (.newarray .boolean) 2 nx) (hw : Cond.arrayClass .boolean ∈ TG) (hi : i = nI N) (hN : N ≤ 1000000) (hG : Gnew G a) (hk : k + 1 ≤ mc) (hn' : n + N ≤ ms)
    (kk : GG G d mc ms X P nx lo (.ref a :: st) (zI I a) (zA h a a1 (23, N)) (k + 1) (n + N)) : GG G d mc ms X P pc lo (.int i :: st) I h k n :=
  g_newarray_boolean hX N hd hw hi hN (by rw [ha]; exact hG) hk hn' (by rw [zA_eq ha h1, ha]; exact kk)
theorem g_nw_long (hX : Xok G own y X) {i : Int32} (a a1 N : Nat) (ha : hn h = a) (h1 : a + 1 = a1) (hd : dc y.2.1 pc (.newarray .long) 2 nx) (hw : Cond.arrayClass .long ∈ TG) (hi : i = nI N) (hN : N ≤ 1000000) (hG : Gnew G a) (hk : k + 1 ≤ mc) (hn' : n + N ≤ ms)
    (kk : GG G d mc ms X P nx lo (.ref a :: st) (zI I a) (zA h a a1 (21, N)) (k + 1) (n + N)) : GG G d mc ms X P pc lo (.int i :: st) I h k n :=
  g_newarray_long hX N hd hw hi hN (by rw [ha]; exact hG) hk hn' (by rw [zA_eq ha h1, ha]; exact kk)
theorem g_nw_ref (hX : Xok G own y X) {i : Int32} {idx t i0 : Nat} {C : String} (a a1 N : Nat) (ha : hn h = a) (h1 : a + 1 = a1) (hd : dc y.2.1 pc (.anewarray idx) 3 nx) (ht : 24 ≤ t) (hty : tysL[i0]? = some (t, .object C)) (hl : Cond.classLink own idx C ∈ TG) (hw : ∀ U, Kw U → va_AO C U) (hi : i = nI N) (hN : N ≤ 1000000) (hG : Gnew G a) (hk : k + 1 ≤ mc) (hn' : n + N ≤ ms)
    (kk : GG G d mc ms X P nx lo (.ref a :: st) (zI I a) (zA h a a1 (t, N)) (k + 1) (n + N)) : GG G d mc ms X P pc lo (.int i :: st) I h k n :=
  g_anewarray hX N hd ht hty hl hw hi hN (by rw [ha]; exact hG) hk hn' (by rw [zA_eq ha h1, ha]; exact kk)
theorem g_nw_obj (hX : Xok G own y X) {idx ci N : Nat} {C : String} {T : u_T} {ty : Nat → FieldType} (a a1 : Nat) (ha : hn h = a) (h1 : a + 1 = a1) (hd : dc y.2.1 pc (.new idx) 3 nx) (hC : CLS ci C T N ty) (hdf : ∀ j, j < N → defaultValue (ty j) = if isr ci j then .null else .int 0) (hl : Cond.classLink own idx C ∈ TG) (hin : Cond.instantiable C N ∈ TG) (hini : Cond.initialized C ∈ TG) (hG : Gnew G a) (hk : k + 1 ≤ mc) (hn' : n + N ≤ ms)
    (kk : GG G d mc ms X P nx lo (.ref a :: st) (zI I a) (zA h a a1 (ci, 0)) (k + 1) (n + N)) : GG G d mc ms X P pc lo st I h k n :=
  g_new hX hd hC hdf hl hin hini (by rw [ha]; exact hG) hk hn' (by rw [zA_eq ha h1, ha]; exact kk)
end AL
end
