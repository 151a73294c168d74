set_option maxRecDepth 8000 in
set_option maxHeartbeats 4000000 in
theorem c_X12_firstOff {G : Gt} (hG : Gok G) {I : It} {h : Ht} (hM : HM h) {E : It} (hE : Inv E) (hR : RM E I) {L : Nat → Int64} (hl : hL h 38 = L) {s : Int32} : Con G (7) 0 0 mX12_firstOff [.ref 0, .int s] I h (qN E L) := by
  refine con_intro (own := RX12) (lo0 := [some (.ref 0), some (.int s), none]) hG rfl pl_X12 (Nat.le_of_ble_eq_true rfl) rfl (fun X hX => ?_)
  have loop39 : ∀ (r : Nat), r ≤ 12 → E 0 44 = nI r → ∀ (J : It), RM E J → ∀ (k i : Nat), i + k = r → GG G (7) 0 0 X (qN E L) 39 [some (.ref 0), some (.int s), some (.int (nI i))] [] (J) (h) 0 0 := by
    intro r hr er J hR k
    induction k using Nat.strongRecOn with | _ k ih => ?_
    intro i hk
    refine g_iload_2 hX (dk DX12_firstOff 22 rfl) ?_
    refine g_aload_0 hX (dk DX12_firstOff 23 rfl) ?_
    refine g_getIv hX (dk DX12_firstOff 24 rfl) KX12 fX12_144 (by decide) rfl (MLt hM (by decide)) (MC hM) ((RM.f hR 44 (by decide) (by decide)).trans er) ?_
    refine g_icmp_ge (tgt := 79) hX (dk DX12_firstOff 25 rfl) (by decide) (fun hc1 => ?_) (fun hc1 => ?_)
    · refine g_bipush (v := -5) hX (dk DX12_firstOff 45 rfl) (by decide) ?_
      refine g_ireturn hX (dk DX12_firstOff 46 rfl) rfl (rfl) (by decide) (by decide) ?_
      exact qN_of hM hl hR
    · obtain ⟨k, rfl⟩ := cl_go hk (by omega) hc1
      obtain ⟨x, z, hx, hz, ex, ez⟩ := row_of hE (k := i) (by omega)
      refine g_aload_0 hX (dk DX12_firstOff 26 rfl) ?_
      refine g_getRs (r := 20) hX (dk DX12_firstOff 27 rfl) KX12 fX12_135 (by decide) rfl (MLt hM (by decide)) (MC hM) (MR hM 41 (by decide) rfl) ?_
      refine g_bipush (v := 10) hX (dk DX12_firstOff 28 rfl) (by decide) ?_
      refine g_aload_0 hX (dk DX12_firstOff 29 rfl) ?_
      refine g_getRs (r := 23) hX (dk DX12_firstOff 30 rfl) KX12 fX12_147 (by decide) rfl (MLt hM (by decide)) (MC hM) (MR hM 45 (by decide) rfl) ?_
      refine g_iload_2 hX (dk DX12_firstOff 31 rfl) ?_
      refine v_iaload hX (dk DX12_firstOff 32 rfl) (MLt hM (q := 23) (by decide)) (MS hM 23 (by decide) rfl) (⟨rfl, by omega, by decide⟩) (RM.c1 hR 23 _ (by decide) (by decide)) ?_
      refine g_imul hX (dk DX12_firstOff 33 rfl) ?_
      refine g_aload_0 hX (dk DX12_firstOff 34 rfl) ?_
      refine g_getRs (r := 24) hX (dk DX12_firstOff 35 rfl) KX12 fX12_150 (by decide) rfl (MLt hM (by decide)) (MC hM) (MR hM 46 (by decide) rfl) ?_
      refine g_iload_2 hX (dk DX12_firstOff 36 rfl) ?_
      refine v_iaload hX (dk DX12_firstOff 37 rfl) (MLt hM (q := 24) (by decide)) (MS hM 24 (by decide) rfl) (⟨rfl, by omega, by decide⟩) (RM.c1 hR 24 _ (by decide) (by decide)) ?_
      refine g_iadd hX (dk DX12_firstOff 38 rfl) ?_
      rw [ex, ez, show (10 : Int32) = nI 10 from rfl, pk_mul, nI_add]
      refine i_zaload hX (dk DX12_firstOff 39 rfl) (MLt hM (q := 20) (by decide)) (MS hM 20 (by decide) rfl) (⟨rfl, by omega, by decide⟩) ?_
      refine g_if_ne (tgt := 73) hX (dk DX12_firstOff 40 rfl) (by decide) (fun hc2 => ?_) (fun hc2 => ?_)
      · refine g_iinc_2 hX (dk DX12_firstOff 43 rfl) (nI_1 i) (by decide) rfl ?_
        refine g_goto (tgt := 39) hX (dk DX12_firstOff 44 rfl) (by decide) ?_
        exact ih k (by omega) (i + 1) (by omega)
      · refine g_iload_2 hX (dk DX12_firstOff 41 rfl) ?_
        refine g_ireturn hX (dk DX12_firstOff 42 rfl) rfl (rfl) (by decide) (by decide) ?_
        exact qN_of hM hl hR
  have loop2 : ∀ (k i : Nat) (J : It), RM E J → i + k = 1000 → GG G (7) 0 0 X (qN E L) 2 [some (.ref 0), some (.int s), some (.int (nI i))] [] (J) (h) 0 0 := by
    intro k
    induction k using Nat.strongRecOn with | _ k ih => ?_
    intro i J hR hk
    refine g_iload_2 hX (dk DX12_firstOff 2 rfl) ?_
    refine g_sipush (v := 1000) hX (dk DX12_firstOff 3 rfl) (by decide) ?_
    refine g_icmp_ge (tgt := 22) hX (dk DX12_firstOff 4 rfl) (by decide) (fun hc1 => ?_) (fun hc1 => ?_)
    · refine g_aload_0 hX (dk DX12_firstOff 12 rfl) ?_
      refine g_iload_1 hX (dk DX12_firstOff 13 rfl) ?_
      refine g_aload_0 hX (dk DX12_firstOff 14 rfl) ?_
      refine g_getIv hX (dk DX12_firstOff 15 rfl) KX12 fX12_28 (by decide) rfl (MLt hM (by decide)) (MC hM) (RM.f hR 6 (by decide) (by decide)) ?_
      refine g_c3v hX sX12_firstOff_28 (by decide) (Nat.le_of_ble_eq_true rfl) (rc0 rfl (MLt hM (by decide)) (MC hM)) (by decide) (by decide) (c_X12_begins hG hM) ?_
      rintro J1 _ ⟨hT, hfr, rfl⟩
      have hR := RM.keep hR hfr (by decide) (by decide) (by decide)
      refine g_aload_0 hX (dk DX12_firstOff 17 rfl) ?_
      refine g_bipush (v := 100) hX (dk DX12_firstOff 18 rfl) (by decide) ?_
      refine g_c2v hX sX12_firstOff_34 (by decide) (Nat.le_of_ble_eq_true rfl) (rc0 rfl (MLt hM (by decide)) (MC hM)) (by decide) (by decide) (c_X12_goWeeks hG hM hE (Ag.of hR (by decide) (by decide)) (m := 100) (by decide) hT) ?_
      rintro J2 _ ⟨hT, hfr, rfl⟩
      have hT := TS.all hT
      have hR := RM.keep hR hfr (by decide) (by decide) (by decide)
      refine g_iconst (v := 0) hX (dk DX12_firstOff 20 rfl) (by decide) ?_
      refine g_istore_2 hX (dk DX12_firstOff 21 rfl) (by decide) rfl ?_
      obtain ⟨r, hr, er⟩ := inv_rows hE
      exact loop39 r hr er _ hR r 0 (Nat.zero_add _)
    · obtain ⟨k, rfl⟩ := ct_go (e := 1000) hk (by decide) hc1
      refine g_aload_0 hX (dk DX12_firstOff 5 rfl) ?_
      refine g_getRs (r := 20) hX (dk DX12_firstOff 6 rfl) KX12 fX12_135 (by decide) rfl (MLt hM (by decide)) (MC hM) (MR hM 41 (by decide) rfl) ?_
      refine g_iload_2 hX (dk DX12_firstOff 7 rfl) ?_
      refine g_iconst (v := 0) hX (dk DX12_firstOff 8 rfl) (by decide) ?_
      refine i_zastore hX (dk DX12_firstOff 9 rfl) (MLt hM (q := 20) (by decide)) (MS hM 20 (by decide) rfl) (⟨rfl, by omega, by decide⟩) ?_
      refine g_iinc_2 hX (dk DX12_firstOff 10 rfl) (nI_1 i) (by decide) rfl ?_
      refine g_goto (tgt := 2) hX (dk DX12_firstOff 11 rfl) (by decide) ?_
      exact ih k (by omega) (i + 1) _ (RM.keep hR (Fr.rf (F := []) (C := [20])).pcw (by decide) (by decide) (by decide)) (by omega)
  refine g_iconst (v := 0) hX (dk DX12_firstOff 0 rfl) (by decide) ?_
  refine g_istore_2 hX (dk DX12_firstOff 1 rfl) (by decide) rfl ?_
  exact loop2 1000 0 I hR (Nat.zero_add _)

set_option maxRecDepth 8000 in
set_option maxHeartbeats 4000000 in
theorem c_X12_looked {G : Gt} (hG : Gok G) {I : It} {h : Ht} (hM : HM h) {E : It} (hE : Inv E) (hR : RM E I) {L : Nat → Int64} (hl : hL h 38 = L)  : Con G (8) 0 0 mX12_looked [.ref 0] I h (qN E L) := by
  refine con_intro (own := RX12) (lo0 := [some (.ref 0)]) hG rfl pl_X12 (Nat.le_of_ble_eq_true rfl) rfl (fun X hX => ?_)
  refine g_aload_0 hX (dk DX12_looked 0 rfl) ?_
  refine g_aload_0 hX (dk DX12_looked 1 rfl) ?_
  refine g_getIv hX (dk DX12_looked 2 rfl) KX12 fX12_25 (by decide) rfl (MLt hM (by decide)) (MC hM) (RM.f hR 5 (by decide) (by decide)) ?_
  refine g_c2q hX sX12_looked_5 (by decide) (Nat.le_of_ble_eq_true rfl) (rc0 rfl (MLt hM (by decide)) (MC hM)) (by decide) (by decide) (c_X12_firstOff hG hM hE hR hl) ?_
  rintro _ J2 h2 ⟨hR, hM, hl⟩
  refine g_ireturn hX (dk DX12_looked 4 rfl) rfl (rfl) (by decide) (by decide) ?_
  exact qN_of hM hl hR

set_option maxRecDepth 8000 in
set_option maxHeartbeats 4000000 in
theorem c_X12_fits {G : Gt} (hG : Gok G) {I : It} {h : Ht} (hM : HM h) {E : It} (hE : Inv E) (hR : RM E I) {L : Nat → Int64} (hl : hL h 38 = L)  : Con G (8) 0 0 mX12_fits [.ref 0] I h (qN E L) := by
  refine con_intro (own := RX12) (lo0 := [some (.ref 0), none, none]) hG rfl pl_X12 (Nat.le_of_ble_eq_true rfl) rfl (fun X hX => ?_)
  have loop16 : 2 ^ cnt E ≤ 256 → bitI (E 0 0) = nI (2 ^ cnt E) → ∀ (k i : Nat) (z : Int32) (J : It) (h2 : Ht), RM E J → HM h2 → hL h2 38 = L → i + k = 2 ^ cnt E → GG G (8) 0 0 X (qN E L) 16 [some (.ref 0), some (.int z), some (.int (nI i))] [] (J) (h2) 0 0 := by
    intro hbl hbit k
    induction k using Nat.strongRecOn with | _ k ih => ?_
    intro i z J h2 hR hM hl hk
    refine g_iload_2 hX (dk DX12_fits 10 rfl) ?_
    refine g_iconst (v := 1) hX (dk DX12_fits 11 rfl) (by decide) ?_
    refine g_aload_0 hX (dk DX12_fits 12 rfl) ?_
    refine g_getIv hX (dk DX12_fits 13 rfl) KX12 fX12_7 (by decide) rfl (MLt hM (by decide)) (MC hM) (RM.f hR 0 (by decide) (by decide)) ?_
    refine g_ishl hX (dk DX12_fits 14 rfl) ?_
    refine g_nmI (nI (2 ^ cnt E)) hbit ?_
    refine g_icmp_ge (tgt := 48) hX (dk DX12_fits 15 rfl) (by decide) (fun hc1 => ?_) (fun hc1 => ?_)
    · refine g_iload_1 hX (dk DX12_fits 28 rfl) ?_
      refine g_ireturn hX (dk DX12_fits 29 rfl) rfl (rfl) (by decide) (by decide) ?_
      exact qN_of hM hl hR
    · obtain ⟨k, rfl⟩ := ct_go hk (by omega) hc1
      refine g_iload_1 hX (dk DX12_fits 16 rfl) ?_
      refine g_aload_0 hX (dk DX12_fits 17 rfl) ?_
      refine g_iload_2 hX (dk DX12_fits 18 rfl) ?_
      refine g_c2q hX sX12_fits_29 (by decide) (Nat.le_of_ble_eq_true rfl) (rc0 rfl (MLt hM (by decide)) (MC hM)) (by decide) (by decide) (c_X12_firstOff hG hM hE hR hl) ?_
      rintro _ J2 h2 ⟨hR, hM, hl⟩
      refine g_if_ge (tgt := 39) hX (dk DX12_fits 20 rfl) (by decide) (fun hc2 => ?_) (fun hc2 => ?_)
      · refine g_iconst (v := 0) hX (dk DX12_fits 23 rfl) (by decide) ?_
        refine g_iadd hX (dk DX12_fits 24 rfl) ?_
        refine g_istore_1 hX (dk DX12_fits 25 rfl) (by decide) rfl ?_
        refine g_iinc_2 hX (dk DX12_fits 26 rfl) (nI_1 i) (by decide) rfl ?_
        refine g_goto (tgt := 16) hX (dk DX12_fits 27 rfl) (by decide) ?_
        exact ih k (by omega) (i + 1) _ _ _ hR hM hl (by omega)
      · refine g_iconst (v := 1) hX (dk DX12_fits 21 rfl) (by decide) ?_
        refine g_goto (tgt := 40) hX (dk DX12_fits 22 rfl) (by decide) ?_
        refine g_iadd hX (dk DX12_fits 24 rfl) ?_
        refine g_istore_1 hX (dk DX12_fits 25 rfl) (by decide) rfl ?_
        refine g_iinc_2 hX (dk DX12_fits 26 rfl) (nI_1 i) (by decide) rfl ?_
        refine g_goto (tgt := 16) hX (dk DX12_fits 27 rfl) (by decide) ?_
        exact ih k (by omega) (i + 1) _ _ _ hR hM hl (by omega)
  refine g_aload_0 hX (dk DX12_fits 0 rfl) ?_
  refine g_getIv hX (dk DX12_fits 1 rfl) KX12 fX12_7 (by decide) rfl (MLt hM (by decide)) (MC hM) (RM.f hR 0 (by decide) (by decide)) ?_
  refine g_bipush (v := 8) hX (dk DX12_fits 2 rfl) (by decide) ?_
  refine g_icmp_le (tgt := 12) hX (dk DX12_fits 3 rfl) (by decide) (fun hc1 => ?_) (fun hc1 => ?_)
  · have hc10 := inv_cnt hE
    have hc8 : cnt E ≤ 8 := (nI_leI (b := 8) (by omega) (by decide)).mp (by rw [← hc10.1]; exact hc1)
    have hbl : 2 ^ cnt E ≤ 256 := Nat.pow_le_pow_right (n := 2) (by decide) hc8
    have hbit : bitI (E 0 0) = nI (2 ^ cnt E) := by rw [hc10.1]; exact bit_nI _ (by omega)
    refine g_iconst (v := 0) hX (dk DX12_fits 6 rfl) (by decide) ?_
    refine g_istore_1 hX (dk DX12_fits 7 rfl) (by decide) rfl ?_
    refine g_iconst (v := 0) hX (dk DX12_fits 8 rfl) (by decide) ?_
    refine g_istore_2 hX (dk DX12_fits 9 rfl) (by decide) rfl ?_
    exact loop16 hbl hbit (2 ^ cnt E) 0 0 I h hR hM hl (Nat.zero_add _)
  · refine g_bipush (v := -9) hX (dk DX12_fits 4 rfl) (by decide) ?_
    refine g_ireturn hX (dk DX12_fits 5 rfl) rfl (rfl) (by decide) (by decide) ?_
    exact qN_of hM hl hR

