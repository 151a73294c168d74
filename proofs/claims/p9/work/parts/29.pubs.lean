theorem imgC_off {E : It} {a : Nat} (ha : a ∉ ([25, 26, 27, 28, 29, 30, 31, 32, 33, 34] : List Nat)) (j : Nat) : imgC E a j = E a j := by
  unfold imgC
  simp only [List.mem_cons, List.not_mem_nil, or_false, not_or] at ha
  grind
theorem imgC_on {E J : It} (hq : (∀ j, J 25 j = if j < 10 then E 1 j else E 25 j) ∧ (∀ j, J 26 j = if j < 10 then E 2 j else E 26 j) ∧ (∀ j, J 27 j = if j < 10 then E 3 j else E 27 j) ∧ (∀ j, J 28 j = if j < 10 then E 4 j else E 28 j) ∧ (∀ j, J 29 j = if j < 10 then E 5 j else E 29 j) ∧ (∀ j, J 30 j = if j < 10 then E 6 j else E 30 j) ∧ (∀ j, J 31 j = if j < 10 then E 7 j else E 31 j) ∧ (∀ j, J 32 j = if j < 4 then E 8 j else E 32 j) ∧ (∀ j, J 33 j = if j < 12 then E 23 j else E 33 j) ∧ (∀ j, J 34 j = if j < 12 then E 24 j else E 34 j)) : ∀ a, a ∈ ([25, 26, 27, 28, 29, 30, 31, 32, 33, 34] : List Nat) → ∀ j, J a j = imgC E a j := by
  obtain ⟨q25, q26, q27, q28, q29, q30, q31, q32, q33, q34⟩ := hq
  intro a ha j
  simp only [List.mem_cons, List.not_mem_nil, or_false] at ha
  rcases ha with rfl | rfl | rfl | rfl | rfl | rfl | rfl | rfl | rfl | rfl
  · rw [q25 j]; rfl
  · rw [q26 j]; rfl
  · rw [q27 j]; rfl
  · rw [q28 j]; rfl
  · rw [q29 j]; rfl
  · rw [q30 j]; rfl
  · rw [q31 j]; rfl
  · rw [q32 j]; rfl
  · rw [q33 j]; rfl
  · rw [q34 j]; rfl
set_option maxRecDepth 8000 in
set_option maxHeartbeats 4000000 in
theorem c_X12_image {G : Gt} (hG : Gok G) {I : It} {h : Ht} (hM : HM h) {E : It} (hE : Inv E) (hR : RM E I) {L : Nat → Int64} (hl : hL h 38 = L)  : Con G (1) 0 0 mX12_image [.ref 0] I h (qS (imageS E) L) := by
  refine con_intro (own := RX12) (lo0 := [some (.ref 0), none]) hG rfl pl_X12 (Nat.le_of_ble_eq_true rfl) rfl (fun X hX => ?_)
  have loop202 : ∀ (k i : Nat) (J : It), RMx [] [25, 26, 27, 28, 29, 30, 31, 32, 33, 34] (imgF E) J → i + k = 12 → ((∀ j, J 25 j = if j < 10 then imgF E 1 j else imgF E 25 j) ∧ (∀ j, J 26 j = if j < 10 then imgF E 2 j else imgF E 26 j) ∧ (∀ j, J 27 j = if j < 10 then imgF E 3 j else imgF E 27 j) ∧ (∀ j, J 28 j = if j < 10 then imgF E 4 j else imgF E 28 j) ∧ (∀ j, J 29 j = if j < 10 then imgF E 5 j else imgF E 29 j) ∧ (∀ j, J 30 j = if j < 10 then imgF E 6 j else imgF E 30 j) ∧ (∀ j, J 31 j = if j < 10 then imgF E 7 j else imgF E 31 j) ∧ (∀ j, J 32 j = if j < 4 then imgF E 8 j else imgF E 32 j) ∧ (∀ j, J 33 j = if j < i then imgF E 23 j else imgF E 33 j) ∧ (∀ j, J 34 j = if j < i then imgF E 24 j else imgF E 34 j)) → GG G (1) 0 0 X (qS (imageS E) L) 202 [some (.ref 0), some (.int (nI i))] [] (J) (h) 0 0 := by
    intro k
    induction k using Nat.strongRecOn with | _ k ih => ?_
    intro i J hR hk hq
    obtain ⟨q25, q26, q27, q28, q29, q30, q31, q32, q33, q34⟩ := hq
    refine g_iload_1 hX (dk DX12_image_1 59 rfl) ?_
    refine g_bipush (v := 12) hX (dk DX12_image_2 0 rfl) (by decide) ?_
    refine g_icmp_ge (tgt := 238) hX (dk DX12_image_2 1 rfl) (by decide) (fun hc1 => ?_) (fun hc1 => ?_)
    · refine g_aload_0 hX (dk DX12_image_2 20 rfl) ?_
      refine g_getIv hX (dk DX12_image_2 21 rfl) KX12 fX12_7 (by decide) rfl (MLt hM (by decide)) (MC hM) (RM.f hR 0 (by decide) (by decide)) ?_
      refine g_ireturn hX (dk DX12_image_2 22 rfl) rfl (rfl) (by decide) (by decide) ?_
      have hk0 := cl_end (e := 12) hk (by decide) hc1
      subst hk0
      obtain rfl : i = 12 := by omega
      exact qS_of hM hl (by unfold imageS; rfl) (RM_cells hR (C := [25, 26, 27, 28, 29, 30, 31, 32, 33, 34]) (fun a ha => by funext j; exact imgC_off ha j) (fun a ha => by funext j; exact imgC_on ⟨q25, q26, q27, q28, q29, q30, q31, q32, q33, q34⟩ a ha j) (by decide))
    · obtain ⟨k, rfl⟩ := cl_go (e := 12) hk (by decide) hc1
      refine g_aload_0 hX (dk DX12_image_2 2 rfl) ?_
      refine g_getRs (r := 33) hX (dk DX12_image_2 3 rfl) KX12 fX12_208 (by decide) rfl (MLt hM (by decide)) (MC hM) (MR hM 65 (by decide) rfl) ?_
      refine g_iload_1 hX (dk DX12_image_2 4 rfl) ?_
      refine g_aload_0 hX (dk DX12_image_2 5 rfl) ?_
      refine g_getRs (r := 23) hX (dk DX12_image_2 6 rfl) KX12 fX12_147 (by decide) rfl (MLt hM (by decide)) (MC hM) (MR hM 45 (by decide) rfl) ?_
      refine g_iload_1 hX (dk DX12_image_2 7 rfl) ?_
      refine v_iaload hX (dk DX12_image_2 8 rfl) (MLt hM (q := 23) (by decide)) (MS hM 23 (by decide) rfl) (⟨rfl, by omega, by decide⟩) (RM.c1 hR 23 _ (by decide) (by decide)) ?_
      refine i_iastore hX (dk DX12_image_2 9 rfl) (MLt hM (q := 33) (by decide)) (MS hM 33 (by decide) rfl) (⟨rfl, by omega, by decide⟩) ?_
      refine g_aload_0 hX (dk DX12_image_2 10 rfl) ?_
      refine g_getRs (r := 34) hX (dk DX12_image_2 11 rfl) KX12 fX12_211 (by decide) rfl (MLt hM (by decide)) (MC hM) (MR hM 66 (by decide) rfl) ?_
      refine g_iload_1 hX (dk DX12_image_2 12 rfl) ?_
      refine g_aload_0 hX (dk DX12_image_2 13 rfl) ?_
      refine g_getRs (r := 24) hX (dk DX12_image_2 14 rfl) KX12 fX12_150 (by decide) rfl (MLt hM (by decide)) (MC hM) (MR hM 46 (by decide) rfl) ?_
      refine g_iload_1 hX (dk DX12_image_2 15 rfl) ?_
      refine v_iaload hX (dk DX12_image_2 16 rfl) (MLt hM (q := 24) (by decide)) (MS hM 24 (by decide) rfl) (⟨rfl, by omega, by decide⟩) (RM.c1 hR 24 _ (by decide) (by decide)) ?_
      refine i_iastore hX (dk DX12_image_2 17 rfl) (MLt hM (q := 34) (by decide)) (MS hM 34 (by decide) rfl) (⟨rfl, by omega, by decide⟩) ?_
      refine g_iinc_1 hX (dk DX12_image_2 18 rfl) (nI_1 i) (by decide) rfl ?_
      refine g_goto (tgt := 202) hX (dk DX12_image_2 19 rfl) (by decide) ?_
      exact ih k (by omega) (i + 1) _ (RM.upx (RM.upx hR (by decide) (by decide)) (by decide) (by decide)) (by omega) ⟨q25, q26, q27, q28, q29, q30, q31, q32, cp_step q33 rfl, cp_step q34 rfl⟩
  have loop177 : ∀ (k i : Nat) (J : It), RMx [] [25, 26, 27, 28, 29, 30, 31, 32, 33, 34] (imgF E) J → i + k = 4 → ((∀ j, J 25 j = if j < 10 then imgF E 1 j else imgF E 25 j) ∧ (∀ j, J 26 j = if j < 10 then imgF E 2 j else imgF E 26 j) ∧ (∀ j, J 27 j = if j < 10 then imgF E 3 j else imgF E 27 j) ∧ (∀ j, J 28 j = if j < 10 then imgF E 4 j else imgF E 28 j) ∧ (∀ j, J 29 j = if j < 10 then imgF E 5 j else imgF E 29 j) ∧ (∀ j, J 30 j = if j < 10 then imgF E 6 j else imgF E 30 j) ∧ (∀ j, J 31 j = if j < 10 then imgF E 7 j else imgF E 31 j) ∧ (∀ j, J 32 j = if j < i then imgF E 8 j else imgF E 32 j) ∧ (∀ j, J 33 j = if j < 0 then imgF E 23 j else imgF E 33 j) ∧ (∀ j, J 34 j = if j < 0 then imgF E 24 j else imgF E 34 j)) → GG G (1) 0 0 X (qS (imageS E) L) 177 [some (.ref 0), some (.int (nI i))] [] (J) (h) 0 0 := by
    intro k
    induction k using Nat.strongRecOn with | _ k ih => ?_
    intro i J hR hk hq
    obtain ⟨q25, q26, q27, q28, q29, q30, q31, q32, q33, q34⟩ := hq
    refine g_iload_1 hX (dk DX12_image_1 44 rfl) ?_
    refine g_iconst (v := 4) hX (dk DX12_image_1 45 rfl) (by decide) ?_
    refine g_icmp_ge (tgt := 200) hX (dk DX12_image_1 46 rfl) (by decide) (fun hc1 => ?_) (fun hc1 => ?_)
    · refine g_iconst (v := 0) hX (dk DX12_image_1 57 rfl) (by decide) ?_
      refine g_istore_1 hX (dk DX12_image_1 58 rfl) (by decide) rfl ?_
      have hk0 := cl_end (e := 4) hk (by decide) hc1
      subst hk0
      obtain rfl : i = 4 := by omega
      exact loop202 12 0 J hR (Nat.zero_add _) ⟨q25, q26, q27, q28, q29, q30, q31, q32, q33, q34⟩
    · obtain ⟨k, rfl⟩ := cl_go (e := 4) hk (by decide) hc1
      refine g_aload_0 hX (dk DX12_image_1 47 rfl) ?_
      refine g_getRs (r := 32) hX (dk DX12_image_1 48 rfl) KX12 fX12_205 (by decide) rfl (MLt hM (by decide)) (MC hM) (MR hM 64 (by decide) rfl) ?_
      refine g_iload_1 hX (dk DX12_image_1 49 rfl) ?_
      refine g_aload_0 hX (dk DX12_image_1 50 rfl) ?_
      refine g_getRs (r := 8) hX (dk DX12_image_1 51 rfl) KX12 fX12_53 (by decide) rfl (MLt hM (by decide)) (MC hM) (MR hM 14 (by decide) rfl) ?_
      refine g_iload_1 hX (dk DX12_image_1 52 rfl) ?_
      refine v_iaload hX (dk DX12_image_1 53 rfl) (MLt hM (q := 8) (by decide)) (MS hM 8 (by decide) rfl) (⟨rfl, by omega, by decide⟩) (RM.c1 hR 8 _ (by decide) (by decide)) ?_
      refine i_iastore hX (dk DX12_image_1 54 rfl) (MLt hM (q := 32) (by decide)) (MS hM 32 (by decide) rfl) (⟨rfl, by omega, by decide⟩) ?_
      refine g_iinc_1 hX (dk DX12_image_1 55 rfl) (nI_1 i) (by decide) rfl ?_
      refine g_goto (tgt := 177) hX (dk DX12_image_1 56 rfl) (by decide) ?_
      exact ih k (by omega) (i + 1) _ (RM.upx hR (by decide) (by decide)) (by omega) ⟨q25, q26, q27, q28, q29, q30, q31, cp_step q32 rfl, q33, q34⟩
  have loop79 : ∀ (k i : Nat) (J : It), RMx [] [25, 26, 27, 28, 29, 30, 31, 32, 33, 34] (imgF E) J → i + k = 10 → ((∀ j, J 25 j = if j < i then imgF E 1 j else imgF E 25 j) ∧ (∀ j, J 26 j = if j < i then imgF E 2 j else imgF E 26 j) ∧ (∀ j, J 27 j = if j < i then imgF E 3 j else imgF E 27 j) ∧ (∀ j, J 28 j = if j < i then imgF E 4 j else imgF E 28 j) ∧ (∀ j, J 29 j = if j < i then imgF E 5 j else imgF E 29 j) ∧ (∀ j, J 30 j = if j < i then imgF E 6 j else imgF E 30 j) ∧ (∀ j, J 31 j = if j < i then imgF E 7 j else imgF E 31 j) ∧ (∀ j, J 32 j = if j < 0 then imgF E 8 j else imgF E 32 j) ∧ (∀ j, J 33 j = if j < 0 then imgF E 23 j else imgF E 33 j) ∧ (∀ j, J 34 j = if j < 0 then imgF E 24 j else imgF E 34 j)) → GG G (1) 0 0 X (qS (imageS E) L) 79 [some (.ref 0), some (.int (nI i))] [] (J) (h) 0 0 := by
    intro k
    induction k using Nat.strongRecOn with | _ k ih => ?_
    intro i J hR hk hq
    obtain ⟨q25, q26, q27, q28, q29, q30, q31, q32, q33, q34⟩ := hq
    refine g_iload_1 hX (dk DX12_image_0 41 rfl) ?_
    refine g_bipush (v := 10) hX (dk DX12_image_0 42 rfl) (by decide) ?_
    refine g_icmp_ge (tgt := 175) hX (dk DX12_image_0 43 rfl) (by decide) (fun hc1 => ?_) (fun hc1 => ?_)
    · refine g_iconst (v := 0) hX (dk DX12_image_1 42 rfl) (by decide) ?_
      refine g_istore_1 hX (dk DX12_image_1 43 rfl) (by decide) rfl ?_
      have hk0 := cl_end (e := 10) hk (by decide) hc1
      subst hk0
      obtain rfl : i = 10 := by omega
      exact loop177 4 0 J hR (Nat.zero_add _) ⟨q25, q26, q27, q28, q29, q30, q31, q32, q33, q34⟩
    · obtain ⟨k, rfl⟩ := cl_go (e := 10) hk (by decide) hc1
      refine g_aload_0 hX (dk DX12_image_0 44 rfl) ?_
      refine g_getRs (r := 25) hX (dk DX12_image_0 45 rfl) KX12 fX12_184 (by decide) rfl (MLt hM (by decide)) (MC hM) (MR hM 57 (by decide) rfl) ?_
      refine g_iload_1 hX (dk DX12_image_0 46 rfl) ?_
      refine g_aload_0 hX (dk DX12_image_0 47 rfl) ?_
      refine g_getRs (r := 1) hX (dk DX12_image_0 48 rfl) KX12 fX12_31 (by decide) rfl (MLt hM (by decide)) (MC hM) (MR hM 7 (by decide) rfl) ?_
      refine g_iload_1 hX (dk DX12_image_0 49 rfl) ?_
      refine v_iaload hX (dk DX12_image_0 50 rfl) (MLt hM (q := 1) (by decide)) (MS hM 1 (by decide) rfl) (⟨rfl, by omega, by decide⟩) (RM.c1 hR 1 _ (by decide) (by decide)) ?_
      refine i_iastore hX (dk DX12_image_0 51 rfl) (MLt hM (q := 25) (by decide)) (MS hM 25 (by decide) rfl) (⟨rfl, by omega, by decide⟩) ?_
      refine g_aload_0 hX (dk DX12_image_0 52 rfl) ?_
      refine g_getRs (r := 26) hX (dk DX12_image_0 53 rfl) KX12 fX12_187 (by decide) rfl (MLt hM (by decide)) (MC hM) (MR hM 58 (by decide) rfl) ?_
      refine g_iload_1 hX (dk DX12_image_0 54 rfl) ?_
      refine g_aload_0 hX (dk DX12_image_0 55 rfl) ?_
      refine g_getRs (r := 2) hX (dk DX12_image_0 56 rfl) KX12 fX12_35 (by decide) rfl (MLt hM (by decide)) (MC hM) (MR hM 8 (by decide) rfl) ?_
      refine g_iload_1 hX (dk DX12_image_0 57 rfl) ?_
      refine v_iaload hX (dk DX12_image_0 58 rfl) (MLt hM (q := 2) (by decide)) (MS hM 2 (by decide) rfl) (⟨rfl, by omega, by decide⟩) (RM.c1 hR 2 _ (by decide) (by decide)) ?_
      refine i_iastore hX (dk DX12_image_0 59 rfl) (MLt hM (q := 26) (by decide)) (MS hM 26 (by decide) rfl) (⟨rfl, by omega, by decide⟩) ?_
      refine g_aload_0 hX (dk DX12_image_1 0 rfl) ?_
      refine g_getRs (r := 27) hX (dk DX12_image_1 1 rfl) KX12 fX12_190 (by decide) rfl (MLt hM (by decide)) (MC hM) (MR hM 59 (by decide) rfl) ?_
      refine g_iload_1 hX (dk DX12_image_1 2 rfl) ?_
      refine g_aload_0 hX (dk DX12_image_1 3 rfl) ?_
      refine g_getRs (r := 3) hX (dk DX12_image_1 4 rfl) KX12 fX12_38 (by decide) rfl (MLt hM (by decide)) (MC hM) (MR hM 9 (by decide) rfl) ?_
      refine g_iload_1 hX (dk DX12_image_1 5 rfl) ?_
      refine v_iaload hX (dk DX12_image_1 6 rfl) (MLt hM (q := 3) (by decide)) (MS hM 3 (by decide) rfl) (⟨rfl, by omega, by decide⟩) (RM.c1 hR 3 _ (by decide) (by decide)) ?_
      refine i_iastore hX (dk DX12_image_1 7 rfl) (MLt hM (q := 27) (by decide)) (MS hM 27 (by decide) rfl) (⟨rfl, by omega, by decide⟩) ?_
      refine g_aload_0 hX (dk DX12_image_1 8 rfl) ?_
      refine g_getRs (r := 28) hX (dk DX12_image_1 9 rfl) KX12 fX12_193 (by decide) rfl (MLt hM (by decide)) (MC hM) (MR hM 60 (by decide) rfl) ?_
      refine g_iload_1 hX (dk DX12_image_1 10 rfl) ?_
      refine g_aload_0 hX (dk DX12_image_1 11 rfl) ?_
      refine g_getRs (r := 4) hX (dk DX12_image_1 12 rfl) KX12 fX12_41 (by decide) rfl (MLt hM (by decide)) (MC hM) (MR hM 10 (by decide) rfl) ?_
      refine g_iload_1 hX (dk DX12_image_1 13 rfl) ?_
      refine v_iaload hX (dk DX12_image_1 14 rfl) (MLt hM (q := 4) (by decide)) (MS hM 4 (by decide) rfl) (⟨rfl, by omega, by decide⟩) (RM.c1 hR 4 _ (by decide) (by decide)) ?_
      refine i_iastore hX (dk DX12_image_1 15 rfl) (MLt hM (q := 28) (by decide)) (MS hM 28 (by decide) rfl) (⟨rfl, by omega, by decide⟩) ?_
      refine g_aload_0 hX (dk DX12_image_1 16 rfl) ?_
      refine g_getRs (r := 29) hX (dk DX12_image_1 17 rfl) KX12 fX12_196 (by decide) rfl (MLt hM (by decide)) (MC hM) (MR hM 61 (by decide) rfl) ?_
      refine g_iload_1 hX (dk DX12_image_1 18 rfl) ?_
      refine g_aload_0 hX (dk DX12_image_1 19 rfl) ?_
      refine g_getRs (r := 5) hX (dk DX12_image_1 20 rfl) KX12 fX12_44 (by decide) rfl (MLt hM (by decide)) (MC hM) (MR hM 11 (by decide) rfl) ?_
      refine g_iload_1 hX (dk DX12_image_1 21 rfl) ?_
      refine v_iaload hX (dk DX12_image_1 22 rfl) (MLt hM (q := 5) (by decide)) (MS hM 5 (by decide) rfl) (⟨rfl, by omega, by decide⟩) (RM.c1 hR 5 _ (by decide) (by decide)) ?_
      refine i_iastore hX (dk DX12_image_1 23 rfl) (MLt hM (q := 29) (by decide)) (MS hM 29 (by decide) rfl) (⟨rfl, by omega, by decide⟩) ?_
      refine g_aload_0 hX (dk DX12_image_1 24 rfl) ?_
      refine g_getRs (r := 30) hX (dk DX12_image_1 25 rfl) KX12 fX12_199 (by decide) rfl (MLt hM (by decide)) (MC hM) (MR hM 62 (by decide) rfl) ?_
      refine g_iload_1 hX (dk DX12_image_1 26 rfl) ?_
      refine g_aload_0 hX (dk DX12_image_1 27 rfl) ?_
      refine g_getRs (r := 6) hX (dk DX12_image_1 28 rfl) KX12 fX12_47 (by decide) rfl (MLt hM (by decide)) (MC hM) (MR hM 12 (by decide) rfl) ?_
      refine g_iload_1 hX (dk DX12_image_1 29 rfl) ?_
      refine v_iaload hX (dk DX12_image_1 30 rfl) (MLt hM (q := 6) (by decide)) (MS hM 6 (by decide) rfl) (⟨rfl, by omega, by decide⟩) (RM.c1 hR 6 _ (by decide) (by decide)) ?_
      refine i_iastore hX (dk DX12_image_1 31 rfl) (MLt hM (q := 30) (by decide)) (MS hM 30 (by decide) rfl) (⟨rfl, by omega, by decide⟩) ?_
      refine g_aload_0 hX (dk DX12_image_1 32 rfl) ?_
      refine g_getRs (r := 31) hX (dk DX12_image_1 33 rfl) KX12 fX12_202 (by decide) rfl (MLt hM (by decide)) (MC hM) (MR hM 63 (by decide) rfl) ?_
      refine g_iload_1 hX (dk DX12_image_1 34 rfl) ?_
      refine g_aload_0 hX (dk DX12_image_1 35 rfl) ?_
      refine g_getRs (r := 7) hX (dk DX12_image_1 36 rfl) KX12 fX12_50 (by decide) rfl (MLt hM (by decide)) (MC hM) (MR hM 13 (by decide) rfl) ?_
      refine g_iload_1 hX (dk DX12_image_1 37 rfl) ?_
      refine v_iaload hX (dk DX12_image_1 38 rfl) (MLt hM (q := 7) (by decide)) (MS hM 7 (by decide) rfl) (⟨rfl, by omega, by decide⟩) (RM.c1 hR 7 _ (by decide) (by decide)) ?_
      refine i_iastore hX (dk DX12_image_1 39 rfl) (MLt hM (q := 31) (by decide)) (MS hM 31 (by decide) rfl) (⟨rfl, by omega, by decide⟩) ?_
      refine g_iinc_1 hX (dk DX12_image_1 40 rfl) (nI_1 i) (by decide) rfl ?_
      refine g_goto (tgt := 79) hX (dk DX12_image_1 41 rfl) (by decide) ?_
      exact ih k (by omega) (i + 1) _ (RM.upx (RM.upx (RM.upx (RM.upx (RM.upx (RM.upx (RM.upx hR (by decide) (by decide)) (by decide) (by decide)) (by decide) (by decide)) (by decide) (by decide)) (by decide) (by decide)) (by decide) (by decide)) (by decide) (by decide)) (by omega) ⟨cp_step q25 rfl, cp_step q26 rfl, cp_step q27 rfl, cp_step q28 rfl, cp_step q29 rfl, cp_step q30 rfl, cp_step q31 rfl, q32, q33, q34⟩
  refine g_aload_0 hX (dk DX12_image_0 0 rfl) ?_
  refine g_iconst (v := 1) hX (dk DX12_image_0 1 rfl) (by decide) ?_
  refine g_putI hX (dk DX12_image_0 2 rfl) KX12 fX12_153 (by decide) rfl (MLt hM (by decide)) (MC hM) (Or.inl rfl) (by decide) (by decide) ?_
  refine g_aload_0 hX (dk DX12_image_0 3 rfl) ?_
  refine g_aload_0 hX (dk DX12_image_0 4 rfl) ?_
  refine g_getIv hX (dk DX12_image_0 5 rfl) KX12 fX12_59 (by decide) rfl (MLt hM (by decide)) (MC hM) (RM.f hR 16 (by decide) (by decide)) ?_
  refine g_putI hX (dk DX12_image_0 6 rfl) KX12 fX12_157 (by decide) rfl (MLt hM (by decide)) (MC hM) (Or.inl rfl) (rfl) (rfl) ?_
  refine g_aload_0 hX (dk DX12_image_0 7 rfl) ?_
  refine g_aload_0 hX (dk DX12_image_0 8 rfl) ?_
  refine g_getIv hX (dk DX12_image_0 9 rfl) KX12 fX12_7 (by decide) rfl (MLt hM (by decide)) (MC hM) (RM.f hR 0 (by decide) (by decide)) ?_
  refine g_putI hX (dk DX12_image_0 10 rfl) KX12 fX12_160 (by decide) rfl (MLt hM (by decide)) (MC hM) (Or.inl rfl) (rfl) (rfl) ?_
  refine g_aload_0 hX (dk DX12_image_0 11 rfl) ?_
  refine g_aload_0 hX (dk DX12_image_0 12 rfl) ?_
  refine g_getIv hX (dk DX12_image_0 13 rfl) KX12 fX12_13 (by decide) rfl (MLt hM (by decide)) (MC hM) (RM.f hR 1 (by decide) (by decide)) ?_
  refine g_putI hX (dk DX12_image_0 14 rfl) KX12 fX12_163 (by decide) rfl (MLt hM (by decide)) (MC hM) (Or.inl rfl) (rfl) (rfl) ?_
  refine g_aload_0 hX (dk DX12_image_0 15 rfl) ?_
  refine g_aload_0 hX (dk DX12_image_0 16 rfl) ?_
  refine g_getIv hX (dk DX12_image_0 17 rfl) KX12 fX12_16 (by decide) rfl (MLt hM (by decide)) (MC hM) (RM.f hR 2 (by decide) (by decide)) ?_
  refine g_putI hX (dk DX12_image_0 18 rfl) KX12 fX12_166 (by decide) rfl (MLt hM (by decide)) (MC hM) (Or.inl rfl) (rfl) (rfl) ?_
  refine g_aload_0 hX (dk DX12_image_0 19 rfl) ?_
  refine g_aload_0 hX (dk DX12_image_0 20 rfl) ?_
  refine g_getIv hX (dk DX12_image_0 21 rfl) KX12 fX12_19 (by decide) rfl (MLt hM (by decide)) (MC hM) (RM.f hR 3 (by decide) (by decide)) ?_
  refine g_putI hX (dk DX12_image_0 22 rfl) KX12 fX12_169 (by decide) rfl (MLt hM (by decide)) (MC hM) (Or.inl rfl) (rfl) (rfl) ?_
  refine g_aload_0 hX (dk DX12_image_0 23 rfl) ?_
  refine g_aload_0 hX (dk DX12_image_0 24 rfl) ?_
  refine g_getIv hX (dk DX12_image_0 25 rfl) KX12 fX12_22 (by decide) rfl (MLt hM (by decide)) (MC hM) (RM.f hR 4 (by decide) (by decide)) ?_
  refine g_putI hX (dk DX12_image_0 26 rfl) KX12 fX12_172 (by decide) rfl (MLt hM (by decide)) (MC hM) (Or.inl rfl) (rfl) (rfl) ?_
  refine g_aload_0 hX (dk DX12_image_0 27 rfl) ?_
  refine g_aload_0 hX (dk DX12_image_0 28 rfl) ?_
  refine g_getIv hX (dk DX12_image_0 29 rfl) KX12 fX12_25 (by decide) rfl (MLt hM (by decide)) (MC hM) (RM.f hR 5 (by decide) (by decide)) ?_
  refine g_putI hX (dk DX12_image_0 30 rfl) KX12 fX12_175 (by decide) rfl (MLt hM (by decide)) (MC hM) (Or.inl rfl) (rfl) (rfl) ?_
  refine g_aload_0 hX (dk DX12_image_0 31 rfl) ?_
  refine g_aload_0 hX (dk DX12_image_0 32 rfl) ?_
  refine g_getIv hX (dk DX12_image_0 33 rfl) KX12 fX12_28 (by decide) rfl (MLt hM (by decide)) (MC hM) (RM.f hR 6 (by decide) (by decide)) ?_
  refine g_putI hX (dk DX12_image_0 34 rfl) KX12 fX12_178 (by decide) rfl (MLt hM (by decide)) (MC hM) (Or.inl rfl) (rfl) (rfl) ?_
  refine g_aload_0 hX (dk DX12_image_0 35 rfl) ?_
  refine g_aload_0 hX (dk DX12_image_0 36 rfl) ?_
  refine g_getIv hX (dk DX12_image_0 37 rfl) KX12 fX12_144 (by decide) rfl (MLt hM (by decide)) (MC hM) (RM.f hR 44 (by decide) (by decide)) ?_
  refine g_putI hX (dk DX12_image_0 38 rfl) KX12 fX12_181 (by decide) rfl (MLt hM (by decide)) (MC hM) (Or.inl rfl) (rfl) (rfl) ?_
  refine g_iconst (v := 0) hX (dk DX12_image_0 39 rfl) (by decide) ?_
  refine g_istore_1 hX (dk DX12_image_0 40 rfl) (by decide) rfl ?_
  exact loop79 10 0 _ (RMx.mono (RM.upf (RM.upf (RM.upf (RM.upf (RM.upf (RM.upf (RM.upf (RM.upf (RM.upf (RM.upf hR (by decide)) (by decide)) (by decide)) (by decide)) (by decide)) (by decide)) (by decide)) (by decide)) (by decide)) (by decide)) (fun a ha => by cases ha)) (Nat.zero_add _) ⟨fun j => by rw [if_neg (Nat.not_lt_zero j)]; exact RM.c1 hR 25 j (by decide) (by decide), fun j => by rw [if_neg (Nat.not_lt_zero j)]; exact RM.c1 hR 26 j (by decide) (by decide), fun j => by rw [if_neg (Nat.not_lt_zero j)]; exact RM.c1 hR 27 j (by decide) (by decide), fun j => by rw [if_neg (Nat.not_lt_zero j)]; exact RM.c1 hR 28 j (by decide) (by decide), fun j => by rw [if_neg (Nat.not_lt_zero j)]; exact RM.c1 hR 29 j (by decide) (by decide), fun j => by rw [if_neg (Nat.not_lt_zero j)]; exact RM.c1 hR 30 j (by decide) (by decide), fun j => by rw [if_neg (Nat.not_lt_zero j)]; exact RM.c1 hR 31 j (by decide) (by decide), fun j => by rw [if_neg (Nat.not_lt_zero j)]; exact RM.c1 hR 32 j (by decide) (by decide), fun j => by rw [if_neg (Nat.not_lt_zero j)]; exact RM.c1 hR 33 j (by decide) (by decide), fun j => by rw [if_neg (Nat.not_lt_zero j)]; exact RM.c1 hR 34 j (by decide) (by decide)⟩

theorem undC_off {E : It} {a : Nat} (ha : a ∉ ([1, 2, 3, 4, 5, 6, 7, 8, 23, 24] : List Nat)) (j : Nat) : undC E a j = E a j := by
  unfold undC
  simp only [List.mem_cons, List.not_mem_nil, or_false, not_or] at ha
  grind
theorem undC_on {E J : It} (hq : (∀ j, J 1 j = if j < 10 then E 25 j else E 1 j) ∧ (∀ j, J 2 j = if j < 10 then E 26 j else E 2 j) ∧ (∀ j, J 3 j = if j < 10 then E 27 j else E 3 j) ∧ (∀ j, J 4 j = if j < 10 then E 28 j else E 4 j) ∧ (∀ j, J 5 j = if j < 10 then E 29 j else E 5 j) ∧ (∀ j, J 6 j = if j < 10 then E 30 j else E 6 j) ∧ (∀ j, J 7 j = if j < 10 then E 31 j else E 7 j) ∧ (∀ j, J 8 j = if j < 4 then E 32 j else E 8 j) ∧ (∀ j, J 23 j = if j < 12 then E 33 j else E 23 j) ∧ (∀ j, J 24 j = if j < 12 then E 34 j else E 24 j)) : ∀ a, a ∈ ([1, 2, 3, 4, 5, 6, 7, 8, 23, 24] : List Nat) → ∀ j, J a j = undC E a j := by
  obtain ⟨q1, q2, q3, q4, q5, q6, q7, q8, q23, q24⟩ := hq
  intro a ha j
  simp only [List.mem_cons, List.not_mem_nil, or_false] at ha
  rcases ha with rfl | rfl | rfl | rfl | rfl | rfl | rfl | rfl | rfl | rfl
  · rw [q1 j]; rfl
  · rw [q2 j]; rfl
  · rw [q3 j]; rfl
  · rw [q4 j]; rfl
  · rw [q5 j]; rfl
  · rw [q6 j]; rfl
  · rw [q7 j]; rfl
  · rw [q8 j]; rfl
  · rw [q23 j]; rfl
  · rw [q24 j]; rfl
set_option maxRecDepth 8000 in
set_option maxHeartbeats 4000000 in
theorem c_X12_undo {G : Gt} (hG : Gok G) {I : It} {h : Ht} (hM : HM h) {E : It} (hE : Inv E) (hR : RM E I) {L : Nat → Int64} (hl : hL h 38 = L)  : Con G (1) 0 0 mX12_undo [.ref 0] I h (qS (undoS E) L) := by
  refine con_intro (own := RX12) (lo0 := [some (.ref 0), none]) hG rfl pl_X12 (Nat.le_of_ble_eq_true rfl) rfl (fun X hX => ?_)
  have loop207 : E 0 47 ≠ 0 → ∀ (k i : Nat) (J : It), RMx [] [1, 2, 3, 4, 5, 6, 7, 8, 23, 24] (undF E) J → i + k = 12 → ((∀ j, J 1 j = if j < 10 then undF E 25 j else undF E 1 j) ∧ (∀ j, J 2 j = if j < 10 then undF E 26 j else undF E 2 j) ∧ (∀ j, J 3 j = if j < 10 then undF E 27 j else undF E 3 j) ∧ (∀ j, J 4 j = if j < 10 then undF E 28 j else undF E 4 j) ∧ (∀ j, J 5 j = if j < 10 then undF E 29 j else undF E 5 j) ∧ (∀ j, J 6 j = if j < 10 then undF E 30 j else undF E 6 j) ∧ (∀ j, J 7 j = if j < 10 then undF E 31 j else undF E 7 j) ∧ (∀ j, J 8 j = if j < 4 then undF E 32 j else undF E 8 j) ∧ (∀ j, J 23 j = if j < i then undF E 33 j else undF E 23 j) ∧ (∀ j, J 24 j = if j < i then undF E 34 j else undF E 24 j)) → GG G (1) 0 0 X (qS (undoS E) L) 207 [some (.ref 0), some (.int (nI i))] [] (J) (h) 0 0 := by
    intro hh k
    induction k using Nat.strongRecOn with | _ k ih => ?_
    intro i J hR hk hq
    obtain ⟨q1, q2, q3, q4, q5, q6, q7, q8, q23, q24⟩ := hq
    refine g_iload_1 hX (dk DX12_undo_2 1 rfl) ?_
    refine g_bipush (v := 12) hX (dk DX12_undo_2 2 rfl) (by decide) ?_
    refine g_icmp_ge (tgt := 243) hX (dk DX12_undo_2 3 rfl) (by decide) (fun hc1 => ?_) (fun hc1 => ?_)
    · refine g_aload_0 hX (dk DX12_undo_2 22 rfl) ?_
      refine g_getIv hX (dk DX12_undo_2 23 rfl) KX12 fX12_7 (by decide) rfl (MLt hM (by decide)) (MC hM) (RM.f hR 0 (by decide) (by decide)) ?_
      refine g_ireturn hX (dk DX12_undo_2 24 rfl) rfl (rfl) (by decide) (by decide) ?_
      have hk0 := cl_end (e := 12) hk (by decide) hc1
      subst hk0
      obtain rfl : i = 12 := by omega
      exact qS_of hM hl (by unfold undoS; rw [if_neg hh]; first | done | rfl) (RM_cells hR (C := [1, 2, 3, 4, 5, 6, 7, 8, 23, 24]) (fun a ha => by funext j; exact undC_off ha j) (fun a ha => by funext j; exact undC_on ⟨q1, q2, q3, q4, q5, q6, q7, q8, q23, q24⟩ a ha j) (by decide))
    · obtain ⟨k, rfl⟩ := cl_go (e := 12) hk (by decide) hc1
      refine g_aload_0 hX (dk DX12_undo_2 4 rfl) ?_
      refine g_getRs (r := 23) hX (dk DX12_undo_2 5 rfl) KX12 fX12_147 (by decide) rfl (MLt hM (by decide)) (MC hM) (MR hM 45 (by decide) rfl) ?_
      refine g_iload_1 hX (dk DX12_undo_2 6 rfl) ?_
      refine g_aload_0 hX (dk DX12_undo_2 7 rfl) ?_
      refine g_getRs (r := 33) hX (dk DX12_undo_2 8 rfl) KX12 fX12_208 (by decide) rfl (MLt hM (by decide)) (MC hM) (MR hM 65 (by decide) rfl) ?_
      refine g_iload_1 hX (dk DX12_undo_2 9 rfl) ?_
      refine v_iaload hX (dk DX12_undo_2 10 rfl) (MLt hM (q := 33) (by decide)) (MS hM 33 (by decide) rfl) (⟨rfl, by omega, by decide⟩) (RM.c1 hR 33 _ (by decide) (by decide)) ?_
      refine i_iastore hX (dk DX12_undo_2 11 rfl) (MLt hM (q := 23) (by decide)) (MS hM 23 (by decide) rfl) (⟨rfl, by omega, by decide⟩) ?_
      refine g_aload_0 hX (dk DX12_undo_2 12 rfl) ?_
      refine g_getRs (r := 24) hX (dk DX12_undo_2 13 rfl) KX12 fX12_150 (by decide) rfl (MLt hM (by decide)) (MC hM) (MR hM 46 (by decide) rfl) ?_
      refine g_iload_1 hX (dk DX12_undo_2 14 rfl) ?_
      refine g_aload_0 hX (dk DX12_undo_2 15 rfl) ?_
      refine g_getRs (r := 34) hX (dk DX12_undo_2 16 rfl) KX12 fX12_211 (by decide) rfl (MLt hM (by decide)) (MC hM) (MR hM 66 (by decide) rfl) ?_
      refine g_iload_1 hX (dk DX12_undo_2 17 rfl) ?_
      refine v_iaload hX (dk DX12_undo_2 18 rfl) (MLt hM (q := 34) (by decide)) (MS hM 34 (by decide) rfl) (⟨rfl, by omega, by decide⟩) (RM.c1 hR 34 _ (by decide) (by decide)) ?_
      refine i_iastore hX (dk DX12_undo_2 19 rfl) (MLt hM (q := 24) (by decide)) (MS hM 24 (by decide) rfl) (⟨rfl, by omega, by decide⟩) ?_
      refine g_iinc_1 hX (dk DX12_undo_2 20 rfl) (nI_1 i) (by decide) rfl ?_
      refine g_goto (tgt := 207) hX (dk DX12_undo_2 21 rfl) (by decide) ?_
      exact ih k (by omega) (i + 1) _ (RM.upx (RM.upx hR (by decide) (by decide)) (by decide) (by decide)) (by omega) ⟨q1, q2, q3, q4, q5, q6, q7, q8, cp_step q23 rfl, cp_step q24 rfl⟩
  have loop182 : E 0 47 ≠ 0 → ∀ (k i : Nat) (J : It), RMx [] [1, 2, 3, 4, 5, 6, 7, 8, 23, 24] (undF E) J → i + k = 4 → ((∀ j, J 1 j = if j < 10 then undF E 25 j else undF E 1 j) ∧ (∀ j, J 2 j = if j < 10 then undF E 26 j else undF E 2 j) ∧ (∀ j, J 3 j = if j < 10 then undF E 27 j else undF E 3 j) ∧ (∀ j, J 4 j = if j < 10 then undF E 28 j else undF E 4 j) ∧ (∀ j, J 5 j = if j < 10 then undF E 29 j else undF E 5 j) ∧ (∀ j, J 6 j = if j < 10 then undF E 30 j else undF E 6 j) ∧ (∀ j, J 7 j = if j < 10 then undF E 31 j else undF E 7 j) ∧ (∀ j, J 8 j = if j < i then undF E 32 j else undF E 8 j) ∧ (∀ j, J 23 j = if j < 0 then undF E 33 j else undF E 23 j) ∧ (∀ j, J 24 j = if j < 0 then undF E 34 j else undF E 24 j)) → GG G (1) 0 0 X (qS (undoS E) L) 182 [some (.ref 0), some (.int (nI i))] [] (J) (h) 0 0 := by
    intro hh k
    induction k using Nat.strongRecOn with | _ k ih => ?_
    intro i J hR hk hq
    obtain ⟨q1, q2, q3, q4, q5, q6, q7, q8, q23, q24⟩ := hq
    refine g_iload_1 hX (dk DX12_undo_1 46 rfl) ?_
    refine g_iconst (v := 4) hX (dk DX12_undo_1 47 rfl) (by decide) ?_
    refine g_icmp_ge (tgt := 205) hX (dk DX12_undo_1 48 rfl) (by decide) (fun hc1 => ?_) (fun hc1 => ?_)
    · refine g_iconst (v := 0) hX (dk DX12_undo_1 59 rfl) (by decide) ?_
      refine g_istore_1 hX (dk DX12_undo_2 0 rfl) (by decide) rfl ?_
      have hk0 := cl_end (e := 4) hk (by decide) hc1
      subst hk0
      obtain rfl : i = 4 := by omega
      exact loop207 hh 12 0 J hR (Nat.zero_add _) ⟨q1, q2, q3, q4, q5, q6, q7, q8, q23, q24⟩
    · obtain ⟨k, rfl⟩ := cl_go (e := 4) hk (by decide) hc1
      refine g_aload_0 hX (dk DX12_undo_1 49 rfl) ?_
      refine g_getRs (r := 8) hX (dk DX12_undo_1 50 rfl) KX12 fX12_53 (by decide) rfl (MLt hM (by decide)) (MC hM) (MR hM 14 (by decide) rfl) ?_
      refine g_iload_1 hX (dk DX12_undo_1 51 rfl) ?_
      refine g_aload_0 hX (dk DX12_undo_1 52 rfl) ?_
      refine g_getRs (r := 32) hX (dk DX12_undo_1 53 rfl) KX12 fX12_205 (by decide) rfl (MLt hM (by decide)) (MC hM) (MR hM 64 (by decide) rfl) ?_
      refine g_iload_1 hX (dk DX12_undo_1 54 rfl) ?_
      refine v_iaload hX (dk DX12_undo_1 55 rfl) (MLt hM (q := 32) (by decide)) (MS hM 32 (by decide) rfl) (⟨rfl, by omega, by decide⟩) (RM.c1 hR 32 _ (by decide) (by decide)) ?_
      refine i_iastore hX (dk DX12_undo_1 56 rfl) (MLt hM (q := 8) (by decide)) (MS hM 8 (by decide) rfl) (⟨rfl, by omega, by decide⟩) ?_
      refine g_iinc_1 hX (dk DX12_undo_1 57 rfl) (nI_1 i) (by decide) rfl ?_
      refine g_goto (tgt := 182) hX (dk DX12_undo_1 58 rfl) (by decide) ?_
      exact ih k (by omega) (i + 1) _ (RM.upx hR (by decide) (by decide)) (by omega) ⟨q1, q2, q3, q4, q5, q6, q7, cp_step q8 rfl, q23, q24⟩
  have loop84 : E 0 47 ≠ 0 → ∀ (k i : Nat) (J : It), RMx [] [1, 2, 3, 4, 5, 6, 7, 8, 23, 24] (undF E) J → i + k = 10 → ((∀ j, J 1 j = if j < i then undF E 25 j else undF E 1 j) ∧ (∀ j, J 2 j = if j < i then undF E 26 j else undF E 2 j) ∧ (∀ j, J 3 j = if j < i then undF E 27 j else undF E 3 j) ∧ (∀ j, J 4 j = if j < i then undF E 28 j else undF E 4 j) ∧ (∀ j, J 5 j = if j < i then undF E 29 j else undF E 5 j) ∧ (∀ j, J 6 j = if j < i then undF E 30 j else undF E 6 j) ∧ (∀ j, J 7 j = if j < i then undF E 31 j else undF E 7 j) ∧ (∀ j, J 8 j = if j < 0 then undF E 32 j else undF E 8 j) ∧ (∀ j, J 23 j = if j < 0 then undF E 33 j else undF E 23 j) ∧ (∀ j, J 24 j = if j < 0 then undF E 34 j else undF E 24 j)) → GG G (1) 0 0 X (qS (undoS E) L) 84 [some (.ref 0), some (.int (nI i))] [] (J) (h) 0 0 := by
    intro hh k
    induction k using Nat.strongRecOn with | _ k ih => ?_
    intro i J hR hk hq
    obtain ⟨q1, q2, q3, q4, q5, q6, q7, q8, q23, q24⟩ := hq
    refine g_iload_1 hX (dk DX12_undo_0 43 rfl) ?_
    refine g_bipush (v := 10) hX (dk DX12_undo_0 44 rfl) (by decide) ?_
    refine g_icmp_ge (tgt := 180) hX (dk DX12_undo_0 45 rfl) (by decide) (fun hc1 => ?_) (fun hc1 => ?_)
    · refine g_iconst (v := 0) hX (dk DX12_undo_1 44 rfl) (by decide) ?_
      refine g_istore_1 hX (dk DX12_undo_1 45 rfl) (by decide) rfl ?_
      have hk0 := cl_end (e := 10) hk (by decide) hc1
      subst hk0
      obtain rfl : i = 10 := by omega
      exact loop182 hh 4 0 J hR (Nat.zero_add _) ⟨q1, q2, q3, q4, q5, q6, q7, q8, q23, q24⟩
    · obtain ⟨k, rfl⟩ := cl_go (e := 10) hk (by decide) hc1
      refine g_aload_0 hX (dk DX12_undo_0 46 rfl) ?_
      refine g_getRs (r := 1) hX (dk DX12_undo_0 47 rfl) KX12 fX12_31 (by decide) rfl (MLt hM (by decide)) (MC hM) (MR hM 7 (by decide) rfl) ?_
      refine g_iload_1 hX (dk DX12_undo_0 48 rfl) ?_
      refine g_aload_0 hX (dk DX12_undo_0 49 rfl) ?_
      refine g_getRs (r := 25) hX (dk DX12_undo_0 50 rfl) KX12 fX12_184 (by decide) rfl (MLt hM (by decide)) (MC hM) (MR hM 57 (by decide) rfl) ?_
      refine g_iload_1 hX (dk DX12_undo_0 51 rfl) ?_
      refine v_iaload hX (dk DX12_undo_0 52 rfl) (MLt hM (q := 25) (by decide)) (MS hM 25 (by decide) rfl) (⟨rfl, by omega, by decide⟩) (RM.c1 hR 25 _ (by decide) (by decide)) ?_
      refine i_iastore hX (dk DX12_undo_0 53 rfl) (MLt hM (q := 1) (by decide)) (MS hM 1 (by decide) rfl) (⟨rfl, by omega, by decide⟩) ?_
      refine g_aload_0 hX (dk DX12_undo_0 54 rfl) ?_
      refine g_getRs (r := 2) hX (dk DX12_undo_0 55 rfl) KX12 fX12_35 (by decide) rfl (MLt hM (by decide)) (MC hM) (MR hM 8 (by decide) rfl) ?_
      refine g_iload_1 hX (dk DX12_undo_0 56 rfl) ?_
      refine g_aload_0 hX (dk DX12_undo_0 57 rfl) ?_
      refine g_getRs (r := 26) hX (dk DX12_undo_0 58 rfl) KX12 fX12_187 (by decide) rfl (MLt hM (by decide)) (MC hM) (MR hM 58 (by decide) rfl) ?_
      refine g_iload_1 hX (dk DX12_undo_0 59 rfl) ?_
      refine v_iaload hX (dk DX12_undo_1 0 rfl) (MLt hM (q := 26) (by decide)) (MS hM 26 (by decide) rfl) (⟨rfl, by omega, by decide⟩) (RM.c1 hR 26 _ (by decide) (by decide)) ?_
      refine i_iastore hX (dk DX12_undo_1 1 rfl) (MLt hM (q := 2) (by decide)) (MS hM 2 (by decide) rfl) (⟨rfl, by omega, by decide⟩) ?_
      refine g_aload_0 hX (dk DX12_undo_1 2 rfl) ?_
      refine g_getRs (r := 3) hX (dk DX12_undo_1 3 rfl) KX12 fX12_38 (by decide) rfl (MLt hM (by decide)) (MC hM) (MR hM 9 (by decide) rfl) ?_
      refine g_iload_1 hX (dk DX12_undo_1 4 rfl) ?_
      refine g_aload_0 hX (dk DX12_undo_1 5 rfl) ?_
      refine g_getRs (r := 27) hX (dk DX12_undo_1 6 rfl) KX12 fX12_190 (by decide) rfl (MLt hM (by decide)) (MC hM) (MR hM 59 (by decide) rfl) ?_
      refine g_iload_1 hX (dk DX12_undo_1 7 rfl) ?_
      refine v_iaload hX (dk DX12_undo_1 8 rfl) (MLt hM (q := 27) (by decide)) (MS hM 27 (by decide) rfl) (⟨rfl, by omega, by decide⟩) (RM.c1 hR 27 _ (by decide) (by decide)) ?_
      refine i_iastore hX (dk DX12_undo_1 9 rfl) (MLt hM (q := 3) (by decide)) (MS hM 3 (by decide) rfl) (⟨rfl, by omega, by decide⟩) ?_
      refine g_aload_0 hX (dk DX12_undo_1 10 rfl) ?_
      refine g_getRs (r := 4) hX (dk DX12_undo_1 11 rfl) KX12 fX12_41 (by decide) rfl (MLt hM (by decide)) (MC hM) (MR hM 10 (by decide) rfl) ?_
      refine g_iload_1 hX (dk DX12_undo_1 12 rfl) ?_
      refine g_aload_0 hX (dk DX12_undo_1 13 rfl) ?_
      refine g_getRs (r := 28) hX (dk DX12_undo_1 14 rfl) KX12 fX12_193 (by decide) rfl (MLt hM (by decide)) (MC hM) (MR hM 60 (by decide) rfl) ?_
      refine g_iload_1 hX (dk DX12_undo_1 15 rfl) ?_
      refine v_iaload hX (dk DX12_undo_1 16 rfl) (MLt hM (q := 28) (by decide)) (MS hM 28 (by decide) rfl) (⟨rfl, by omega, by decide⟩) (RM.c1 hR 28 _ (by decide) (by decide)) ?_
      refine i_iastore hX (dk DX12_undo_1 17 rfl) (MLt hM (q := 4) (by decide)) (MS hM 4 (by decide) rfl) (⟨rfl, by omega, by decide⟩) ?_
      refine g_aload_0 hX (dk DX12_undo_1 18 rfl) ?_
      refine g_getRs (r := 5) hX (dk DX12_undo_1 19 rfl) KX12 fX12_44 (by decide) rfl (MLt hM (by decide)) (MC hM) (MR hM 11 (by decide) rfl) ?_
      refine g_iload_1 hX (dk DX12_undo_1 20 rfl) ?_
      refine g_aload_0 hX (dk DX12_undo_1 21 rfl) ?_
      refine g_getRs (r := 29) hX (dk DX12_undo_1 22 rfl) KX12 fX12_196 (by decide) rfl (MLt hM (by decide)) (MC hM) (MR hM 61 (by decide) rfl) ?_
      refine g_iload_1 hX (dk DX12_undo_1 23 rfl) ?_
      refine v_iaload hX (dk DX12_undo_1 24 rfl) (MLt hM (q := 29) (by decide)) (MS hM 29 (by decide) rfl) (⟨rfl, by omega, by decide⟩) (RM.c1 hR 29 _ (by decide) (by decide)) ?_
      refine i_iastore hX (dk DX12_undo_1 25 rfl) (MLt hM (q := 5) (by decide)) (MS hM 5 (by decide) rfl) (⟨rfl, by omega, by decide⟩) ?_
      refine g_aload_0 hX (dk DX12_undo_1 26 rfl) ?_
      refine g_getRs (r := 6) hX (dk DX12_undo_1 27 rfl) KX12 fX12_47 (by decide) rfl (MLt hM (by decide)) (MC hM) (MR hM 12 (by decide) rfl) ?_
      refine g_iload_1 hX (dk DX12_undo_1 28 rfl) ?_
      refine g_aload_0 hX (dk DX12_undo_1 29 rfl) ?_
      refine g_getRs (r := 30) hX (dk DX12_undo_1 30 rfl) KX12 fX12_199 (by decide) rfl (MLt hM (by decide)) (MC hM) (MR hM 62 (by decide) rfl) ?_
      refine g_iload_1 hX (dk DX12_undo_1 31 rfl) ?_
      refine v_iaload hX (dk DX12_undo_1 32 rfl) (MLt hM (q := 30) (by decide)) (MS hM 30 (by decide) rfl) (⟨rfl, by omega, by decide⟩) (RM.c1 hR 30 _ (by decide) (by decide)) ?_
      refine i_iastore hX (dk DX12_undo_1 33 rfl) (MLt hM (q := 6) (by decide)) (MS hM 6 (by decide) rfl) (⟨rfl, by omega, by decide⟩) ?_
      refine g_aload_0 hX (dk DX12_undo_1 34 rfl) ?_
      refine g_getRs (r := 7) hX (dk DX12_undo_1 35 rfl) KX12 fX12_50 (by decide) rfl (MLt hM (by decide)) (MC hM) (MR hM 13 (by decide) rfl) ?_
      refine g_iload_1 hX (dk DX12_undo_1 36 rfl) ?_
      refine g_aload_0 hX (dk DX12_undo_1 37 rfl) ?_
      refine g_getRs (r := 31) hX (dk DX12_undo_1 38 rfl) KX12 fX12_202 (by decide) rfl (MLt hM (by decide)) (MC hM) (MR hM 63 (by decide) rfl) ?_
      refine g_iload_1 hX (dk DX12_undo_1 39 rfl) ?_
      refine v_iaload hX (dk DX12_undo_1 40 rfl) (MLt hM (q := 31) (by decide)) (MS hM 31 (by decide) rfl) (⟨rfl, by omega, by decide⟩) (RM.c1 hR 31 _ (by decide) (by decide)) ?_
      refine i_iastore hX (dk DX12_undo_1 41 rfl) (MLt hM (q := 7) (by decide)) (MS hM 7 (by decide) rfl) (⟨rfl, by omega, by decide⟩) ?_
      refine g_iinc_1 hX (dk DX12_undo_1 42 rfl) (nI_1 i) (by decide) rfl ?_
      refine g_goto (tgt := 84) hX (dk DX12_undo_1 43 rfl) (by decide) ?_
      exact ih k (by omega) (i + 1) _ (RM.upx (RM.upx (RM.upx (RM.upx (RM.upx (RM.upx (RM.upx hR (by decide) (by decide)) (by decide) (by decide)) (by decide) (by decide)) (by decide) (by decide)) (by decide) (by decide)) (by decide) (by decide)) (by decide) (by decide)) (by omega) ⟨cp_step q1 rfl, cp_step q2 rfl, cp_step q3 rfl, cp_step q4 rfl, cp_step q5 rfl, cp_step q6 rfl, cp_step q7 rfl, q8, q23, q24⟩
  refine g_aload_0 hX (dk DX12_undo_0 0 rfl) ?_
  refine g_getIv hX (dk DX12_undo_0 1 rfl) KX12 fX12_153 (by decide) rfl (MLt hM (by decide)) (MC hM) (RM.f hR 47 (by decide) (by decide)) ?_
  refine g_if_ne (tgt := 10) hX (dk DX12_undo_0 2 rfl) (by decide) (fun hc1 => ?_) (fun hc1 => ?_)
  · have hh := hc1
    refine g_aload_0 hX (dk DX12_undo_0 5 rfl) ?_
    refine g_aload_0 hX (dk DX12_undo_0 6 rfl) ?_
    refine g_getIv hX (dk DX12_undo_0 7 rfl) KX12 fX12_157 (by decide) rfl (MLt hM (by decide)) (MC hM) (RM.f hR 48 (by decide) (by decide)) ?_
    refine g_putI hX (dk DX12_undo_0 8 rfl) KX12 fX12_59 (by decide) rfl (MLt hM (by decide)) (MC hM) (Or.inl rfl) (rfl) (rfl) ?_
    refine g_aload_0 hX (dk DX12_undo_0 9 rfl) ?_
    refine g_aload_0 hX (dk DX12_undo_0 10 rfl) ?_
    refine g_getIv hX (dk DX12_undo_0 11 rfl) KX12 fX12_160 (by decide) rfl (MLt hM (by decide)) (MC hM) (RM.f hR 49 (by decide) (by decide)) ?_
    refine g_putI hX (dk DX12_undo_0 12 rfl) KX12 fX12_7 (by decide) rfl (MLt hM (by decide)) (MC hM) (Or.inl rfl) (rfl) (rfl) ?_
    refine g_aload_0 hX (dk DX12_undo_0 13 rfl) ?_
    refine g_aload_0 hX (dk DX12_undo_0 14 rfl) ?_
    refine g_getIv hX (dk DX12_undo_0 15 rfl) KX12 fX12_163 (by decide) rfl (MLt hM (by decide)) (MC hM) (RM.f hR 50 (by decide) (by decide)) ?_
    refine g_putI hX (dk DX12_undo_0 16 rfl) KX12 fX12_13 (by decide) rfl (MLt hM (by decide)) (MC hM) (Or.inl rfl) (rfl) (rfl) ?_
    refine g_aload_0 hX (dk DX12_undo_0 17 rfl) ?_
    refine g_aload_0 hX (dk DX12_undo_0 18 rfl) ?_
    refine g_getIv hX (dk DX12_undo_0 19 rfl) KX12 fX12_166 (by decide) rfl (MLt hM (by decide)) (MC hM) (RM.f hR 51 (by decide) (by decide)) ?_
    refine g_putI hX (dk DX12_undo_0 20 rfl) KX12 fX12_16 (by decide) rfl (MLt hM (by decide)) (MC hM) (Or.inl rfl) (rfl) (rfl) ?_
    refine g_aload_0 hX (dk DX12_undo_0 21 rfl) ?_
    refine g_aload_0 hX (dk DX12_undo_0 22 rfl) ?_
    refine g_getIv hX (dk DX12_undo_0 23 rfl) KX12 fX12_169 (by decide) rfl (MLt hM (by decide)) (MC hM) (RM.f hR 52 (by decide) (by decide)) ?_
    refine g_putI hX (dk DX12_undo_0 24 rfl) KX12 fX12_19 (by decide) rfl (MLt hM (by decide)) (MC hM) (Or.inl rfl) (rfl) (rfl) ?_
    refine g_aload_0 hX (dk DX12_undo_0 25 rfl) ?_
    refine g_aload_0 hX (dk DX12_undo_0 26 rfl) ?_
    refine g_getIv hX (dk DX12_undo_0 27 rfl) KX12 fX12_172 (by decide) rfl (MLt hM (by decide)) (MC hM) (RM.f hR 53 (by decide) (by decide)) ?_
    refine g_putI hX (dk DX12_undo_0 28 rfl) KX12 fX12_22 (by decide) rfl (MLt hM (by decide)) (MC hM) (Or.inl rfl) (rfl) (rfl) ?_
    refine g_aload_0 hX (dk DX12_undo_0 29 rfl) ?_
    refine g_aload_0 hX (dk DX12_undo_0 30 rfl) ?_
    refine g_getIv hX (dk DX12_undo_0 31 rfl) KX12 fX12_175 (by decide) rfl (MLt hM (by decide)) (MC hM) (RM.f hR 54 (by decide) (by decide)) ?_
    refine g_putI hX (dk DX12_undo_0 32 rfl) KX12 fX12_25 (by decide) rfl (MLt hM (by decide)) (MC hM) (Or.inl rfl) (rfl) (rfl) ?_
    refine g_aload_0 hX (dk DX12_undo_0 33 rfl) ?_
    refine g_aload_0 hX (dk DX12_undo_0 34 rfl) ?_
    refine g_getIv hX (dk DX12_undo_0 35 rfl) KX12 fX12_178 (by decide) rfl (MLt hM (by decide)) (MC hM) (RM.f hR 55 (by decide) (by decide)) ?_
    refine g_putI hX (dk DX12_undo_0 36 rfl) KX12 fX12_28 (by decide) rfl (MLt hM (by decide)) (MC hM) (Or.inl rfl) (rfl) (rfl) ?_
    refine g_aload_0 hX (dk DX12_undo_0 37 rfl) ?_
    refine g_aload_0 hX (dk DX12_undo_0 38 rfl) ?_
    refine g_getIv hX (dk DX12_undo_0 39 rfl) KX12 fX12_181 (by decide) rfl (MLt hM (by decide)) (MC hM) (RM.f hR 56 (by decide) (by decide)) ?_
    refine g_putI hX (dk DX12_undo_0 40 rfl) KX12 fX12_144 (by decide) rfl (MLt hM (by decide)) (MC hM) (Or.inl rfl) (rfl) (rfl) ?_
    refine g_iconst (v := 0) hX (dk DX12_undo_0 41 rfl) (by decide) ?_
    refine g_istore_1 hX (dk DX12_undo_0 42 rfl) (by decide) rfl ?_
    exact loop84 hh 10 0 _ (RMx.mono (RM.upf (RM.upf (RM.upf (RM.upf (RM.upf (RM.upf (RM.upf (RM.upf (RM.upf hR (by decide)) (by decide)) (by decide)) (by decide)) (by decide)) (by decide)) (by decide)) (by decide)) (by decide)) (fun a ha => by cases ha)) (Nat.zero_add _) ⟨fun j => by rw [if_neg (Nat.not_lt_zero j)]; exact RM.c1 hR 1 j (by decide) (by decide), fun j => by rw [if_neg (Nat.not_lt_zero j)]; exact RM.c1 hR 2 j (by decide) (by decide), fun j => by rw [if_neg (Nat.not_lt_zero j)]; exact RM.c1 hR 3 j (by decide) (by decide), fun j => by rw [if_neg (Nat.not_lt_zero j)]; exact RM.c1 hR 4 j (by decide) (by decide), fun j => by rw [if_neg (Nat.not_lt_zero j)]; exact RM.c1 hR 5 j (by decide) (by decide), fun j => by rw [if_neg (Nat.not_lt_zero j)]; exact RM.c1 hR 6 j (by decide) (by decide), fun j => by rw [if_neg (Nat.not_lt_zero j)]; exact RM.c1 hR 7 j (by decide) (by decide), fun j => by rw [if_neg (Nat.not_lt_zero j)]; exact RM.c1 hR 8 j (by decide) (by decide), fun j => by rw [if_neg (Nat.not_lt_zero j)]; exact RM.c1 hR 23 j (by decide) (by decide), fun j => by rw [if_neg (Nat.not_lt_zero j)]; exact RM.c1 hR 24 j (by decide) (by decide)⟩
  · refine g_bipush (v := -3) hX (dk DX12_undo_0 3 rfl) (by decide) ?_
    refine g_ireturn hX (dk DX12_undo_0 4 rfl) rfl (rfl) (by decide) (by decide) ?_
    exact qS_of hM hl (by unfold undoS; (try first | rw [if_pos hc1] | rw [if_neg hc1] | rw [if_neg (not_not_intro hc1)]); first | done | rfl) hR

