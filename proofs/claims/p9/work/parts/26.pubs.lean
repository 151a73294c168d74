set_option maxRecDepth 8000 in
set_option maxHeartbeats 4000000 in
theorem c_X12_tape {G : Gt} (hG : Gok G) {I : It} {h : Ht} (hM : HM h) {E : It} (hE : Inv E) (hR : RM E I) {L : Nat → Int64} (hl : hL h 38 = L) {a s n : Int32} : Con G (3) 0 0 mX12_tape [.ref 0, .int a, .int s, .int n] I h (qS (tapeS E a s n) (tapeL L a s n)) := by
  refine con_intro (own := RX12) (lo0 := [some (.ref 0), some (.int a), some (.int s), some (.int n), none]) hG rfl pl_X12 (Nat.le_of_ble_eq_true rfl) rfl (fun X hX => ?_)
  have loop69 : ∀ t, t ≤ 5 → a = nI t → ∀ (E2 J : It) (k i : Nat) (h2 : Ht), i + k = 60 → tapeS E a s n = (1, E2) ∧ tapeL L a s n = (fun j => if 60 * t ≤ j ∧ j < 60 * t + 60 then 0 else L j) → RM E2 J → HM h2 → (∀ j, hL h2 38 j = if 60 * t ≤ j ∧ j < 60 * t + i then 0 else L j) → GG G (3) 0 0 X (qS (tapeS E a s n) (tapeL L a s n)) 69 [some (.ref 0), some (.int (nI t)), some (.int s), some (.int n), some (.int (nI i))] [] (J) (h2) 0 0 := by
    intro t ht ha E2 J k
    subst ha
    induction k using Nat.strongRecOn with | _ k ih => ?_
    intro i h2 hk hs hR hM hj
    refine g_iload_4 hX (dk DX12_tape 41 rfl) ?_
    refine g_bipush (v := 60) hX (dk DX12_tape 42 rfl) (by decide) ?_
    refine g_icmp_ge (tgt := 95) hX (dk DX12_tape 43 rfl) (by decide) (fun hc1 => ?_) (fun hc1 => ?_)
    · refine g_iconst (v := 1) hX (dk DX12_tape 55 rfl) (by decide) ?_
      refine g_ireturn hX (dk DX12_tape 56 rfl) rfl (rfl) (by decide) (by decide) ?_
      have hk0 := cl_end (e := 60) hk (by decide) hc1
      subst hk0
      exact qS_of hM (by rw [hs.2]; funext j; rw [hj j]; rw [show i = 60 by omega]) hs.1 hR
    · obtain ⟨k, rfl⟩ := cl_go (e := 60) hk (by decide) hc1
      have hrx := it_ix (t := t) (k := i) ht (by omega) rfl
      refine g_aload_0 hX (dk DX12_tape 44 rfl) ?_
      refine g_getRs (r := 38) hX (dk DX12_tape 45 rfl) KX12 fX12_226 (by decide) rfl (MLt hM (by decide)) (MC hM) (MR hM 71 (by decide) rfl) ?_
      refine g_bipush (v := 60) hX (dk DX12_tape 46 rfl) (by decide) ?_
      refine g_iload_1 hX (dk DX12_tape 47 rfl) ?_
      refine g_imul hX (dk DX12_tape 48 rfl) ?_
      refine g_iload_4 hX (dk DX12_tape 49 rfl) ?_
      refine g_iadd hX (dk DX12_tape 50 rfl) ?_
      refine g_lconst (v := 0) hX (dk DX12_tape 51 rfl) (by decide) ?_
      refine i_lastore hX (dk DX12_tape 52 rfl) (MLt hM (q := 38) (by decide)) (MS hM 38 (by decide) rfl) (hrx) ?_
      refine g_iinc_4 hX (dk DX12_tape 53 rfl) (nI_1 i) (by decide) rfl ?_
      refine g_goto (tgt := 69) hX (dk DX12_tape 54 rfl) (by decide) ?_
      exact ih k (by omega) (i + 1) _ (by omega) hs hR (HMw hM) (fun j => by
        rw [show hL (wL h2 38 (60 * t + i) 0) 38 = vp_updL (hL h2 38) (60 * t + i) 0 from upL_row _ _ _ _]
        by_cases e : j = 60 * t + i
        · subst e; rw [pk_uLs, if_pos (by omega)]
        · rw [pk_uLn e, hj j]
          by_cases e2 : 60 * t ≤ j ∧ j < 60 * t + i
          · rw [if_pos e2, if_pos (by omega)]
          · rw [if_neg e2, if_neg (by omega)])
  refine g_aload_0 hX (dk DX12_tape 0 rfl) ?_
  refine g_iload_1 hX (dk DX12_tape 1 rfl) ?_
  refine g_c2I hX sX12_tape_2 (by decide) (Nat.le_of_ble_eq_true rfl) (rc0 rfl (MLt hM (by decide)) (MC hM)) (by decide) (by decide) (c_X12_isTape hG hM) ?_
  refine g_ifb_ne (tgt := 10) hX (dk DX12_tape 3 rfl) (by decide) (fun hc1 => ?_) (fun hc1 => ?_)
  · obtain ⟨t, ht, rfl⟩ := in_of (b := 5) (by decide) hc1
    refine g_aload_0 hX (dk DX12_tape 6 rfl) ?_
    refine g_iload_2 hX (dk DX12_tape 7 rfl) ?_
    refine g_iconst (v := -1) hX (dk DX12_tape 8 rfl) (by decide) ?_
    refine g_iconst (v := 4) hX (dk DX12_tape 9 rfl) (by decide) ?_
    refine g_c4I hX sX12_tape_14 (by decide) (Nat.le_of_ble_eq_true rfl) (rc0 rfl (MLt hM (by decide)) (MC hM)) (by decide) (by decide) (c_X12_in hG ) ?_
    refine g_ifb_eq (tgt := 30) hX (dk DX12_tape 11 rfl) (by decide) (fun hc2 => ?_) (fun hc2 => ?_)
    · refine g_bipush (v := -2) hX (dk DX12_tape 17 rfl) (by decide) ?_
      refine g_ireturn hX (dk DX12_tape 18 rfl) rfl (rfl) (by decide) (by decide) ?_
      exact qS_of hM (by unfold tapeL; (try first | rw [if_pos hc1] | rw [if_neg hc1] | rw [if_neg (not_not_intro hc1)]); (try first | rw [if_pos hc2] | rw [if_neg hc2] | rw [if_neg (not_not_intro hc2)]); exact hl) (by unfold tapeS; (try first | rw [if_pos hc1] | rw [if_neg hc1] | rw [if_neg (not_not_intro hc1)]); (try first | rw [if_pos hc2] | rw [if_neg hc2] | rw [if_neg (not_not_intro hc2)]); first | done | rfl) hR
    · refine g_iload_2 hX (dk DX12_tape 12 rfl) ?_
      refine g_if_lt (tgt := 33) hX (dk DX12_tape 13 rfl) (by decide) (fun hc3 => ?_) (fun hc3 => ?_)
      · refine g_iload_2 hX (dk DX12_tape 19 rfl) ?_
        refine g_if_lt (tgt := 44) hX (dk DX12_tape 20 rfl) (by decide) (fun hc4 => ?_) (fun hc4 => ?_)
        · refine g_aload_0 hX (dk DX12_tape 25 rfl) ?_
          refine g_getRs (r := 36) hX (dk DX12_tape 26 rfl) KX12 fX12_220 (by decide) rfl (MLt hM (by decide)) (MC hM) (MR hM 69 (by decide) rfl) ?_
          refine g_iload_1 hX (dk DX12_tape 27 rfl) ?_
          refine g_iload_2 hX (dk DX12_tape 28 rfl) ?_
          refine i_iastore hX (dk DX12_tape 29 rfl) (MLt hM (q := 36) (by decide)) (MS hM 36 (by decide) rfl) (⟨rfl, by omega, by decide⟩) ?_
          refine g_aload_0 hX (dk DX12_tape 30 rfl) ?_
          refine g_getRs (r := 37) hX (dk DX12_tape 31 rfl) KX12 fX12_223 (by decide) rfl (MLt hM (by decide)) (MC hM) (MR hM 70 (by decide) rfl) ?_
          refine g_iload_1 hX (dk DX12_tape 32 rfl) ?_
          refine g_iload_2 hX (dk DX12_tape 33 rfl) ?_
          refine g_if_ge (tgt := 64) hX (dk DX12_tape 34 rfl) (by decide) (fun hc5 => ?_) (fun hc5 => ?_)
          · refine g_iload_3 hX (dk DX12_tape 37 rfl) ?_
            refine i_iastore hX (dk DX12_tape 38 rfl) (MLt hM (q := 37) (by decide)) (MS hM 37 (by decide) rfl) (⟨rfl, by omega, by decide⟩) ?_
            refine g_iconst (v := 0) hX (dk DX12_tape 39 rfl) (by decide) ?_
            refine g_istore_4 hX (dk DX12_tape 40 rfl) (by decide) rfl ?_
            first
            | (exfalso; first | exact absurd ‹s < 0› ‹¬ s < 0› | exact absurd ‹0 ≤ s› ‹¬ 0 ≤ s› | exact absurd ‹s < 0› (Int32.not_lt.mpr ‹0 ≤ s›) | exact absurd (Int32.not_lt.mp ‹¬ s < 0›) ‹¬ 0 ≤ s›)
            | exact loop69 t ht rfl _ _ 60 0 h (Nat.zero_add _) ⟨by unfold tapeS; rw [tN_nI (by omega)]; (try first | rw [if_pos hc1] | rw [if_neg hc1] | rw [if_neg (not_not_intro hc1)]); (try first | rw [if_pos hc2] | rw [if_neg hc2] | rw [if_neg (not_not_intro hc2)]); (try first | rw [if_pos hc3] | rw [if_neg hc3] | rw [if_neg (not_not_intro hc3)]); (try first | rw [if_pos hc4] | rw [if_neg hc4] | rw [if_neg (not_not_intro hc4)]); (try first | rw [if_pos hc5] | rw [if_neg hc5] | rw [if_neg (not_not_intro hc5)]); first | done | rfl, by unfold tapeL; rw [tN_nI (by omega)]; (try first | rw [if_pos hc1] | rw [if_neg hc1] | rw [if_neg (not_not_intro hc1)]); (try first | rw [if_pos hc2] | rw [if_neg hc2] | rw [if_neg (not_not_intro hc2)]); (try first | rw [if_pos hc3] | rw [if_neg hc3] | rw [if_neg (not_not_intro hc3)]); (try first | rw [if_pos hc4] | rw [if_neg hc4] | rw [if_neg (not_not_intro hc4)]); (try first | rw [if_pos hc5] | rw [if_neg hc5] | rw [if_neg (not_not_intro hc5)]); first | done | rfl⟩ (RM.upc (RM.upc hR (by decide)) (by decide)) hM (fun j => by rw [if_neg (by omega), hl])
          · refine g_iconst (v := 0) hX (dk DX12_tape 35 rfl) (by decide) ?_
            refine g_goto (tgt := 65) hX (dk DX12_tape 36 rfl) (by decide) ?_
            refine i_iastore hX (dk DX12_tape 38 rfl) (MLt hM (q := 37) (by decide)) (MS hM 37 (by decide) rfl) (⟨rfl, by omega, by decide⟩) ?_
            refine g_iconst (v := 0) hX (dk DX12_tape 39 rfl) (by decide) ?_
            refine g_istore_4 hX (dk DX12_tape 40 rfl) (by decide) rfl ?_
            first
            | (exfalso; first | exact absurd ‹s < 0› ‹¬ s < 0› | exact absurd ‹0 ≤ s› ‹¬ 0 ≤ s› | exact absurd ‹s < 0› (Int32.not_lt.mpr ‹0 ≤ s›) | exact absurd (Int32.not_lt.mp ‹¬ s < 0›) ‹¬ 0 ≤ s›)
            | exact loop69 t ht rfl _ _ 60 0 h (Nat.zero_add _) ⟨by unfold tapeS; rw [tN_nI (by omega)]; (try first | rw [if_pos hc1] | rw [if_neg hc1] | rw [if_neg (not_not_intro hc1)]); (try first | rw [if_pos hc2] | rw [if_neg hc2] | rw [if_neg (not_not_intro hc2)]); (try first | rw [if_pos hc3] | rw [if_neg hc3] | rw [if_neg (not_not_intro hc3)]); (try first | rw [if_pos hc4] | rw [if_neg hc4] | rw [if_neg (not_not_intro hc4)]); (try first | rw [if_pos hc5] | rw [if_neg hc5] | rw [if_neg (not_not_intro hc5)]); first | done | rfl, by unfold tapeL; rw [tN_nI (by omega)]; (try first | rw [if_pos hc1] | rw [if_neg hc1] | rw [if_neg (not_not_intro hc1)]); (try first | rw [if_pos hc2] | rw [if_neg hc2] | rw [if_neg (not_not_intro hc2)]); (try first | rw [if_pos hc3] | rw [if_neg hc3] | rw [if_neg (not_not_intro hc3)]); (try first | rw [if_pos hc4] | rw [if_neg hc4] | rw [if_neg (not_not_intro hc4)]); (try first | rw [if_pos hc5] | rw [if_neg hc5] | rw [if_neg (not_not_intro hc5)]); first | done | rfl⟩ (RM.upc (RM.upc hR (by decide)) (by decide)) hM (fun j => by rw [if_neg (by omega), hl])
        · refine g_iload_3 hX (dk DX12_tape 21 rfl) ?_
          refine g_if_ge (tgt := 44) hX (dk DX12_tape 22 rfl) (by decide) (fun hc6 => ?_) (fun hc6 => ?_)
          · refine g_aload_0 hX (dk DX12_tape 25 rfl) ?_
            refine g_getRs (r := 36) hX (dk DX12_tape 26 rfl) KX12 fX12_220 (by decide) rfl (MLt hM (by decide)) (MC hM) (MR hM 69 (by decide) rfl) ?_
            refine g_iload_1 hX (dk DX12_tape 27 rfl) ?_
            refine g_iload_2 hX (dk DX12_tape 28 rfl) ?_
            refine i_iastore hX (dk DX12_tape 29 rfl) (MLt hM (q := 36) (by decide)) (MS hM 36 (by decide) rfl) (⟨rfl, by omega, by decide⟩) ?_
            refine g_aload_0 hX (dk DX12_tape 30 rfl) ?_
            refine g_getRs (r := 37) hX (dk DX12_tape 31 rfl) KX12 fX12_223 (by decide) rfl (MLt hM (by decide)) (MC hM) (MR hM 70 (by decide) rfl) ?_
            refine g_iload_1 hX (dk DX12_tape 32 rfl) ?_
            refine g_iload_2 hX (dk DX12_tape 33 rfl) ?_
            refine g_if_ge (tgt := 64) hX (dk DX12_tape 34 rfl) (by decide) (fun hc7 => ?_) (fun hc7 => ?_)
            · refine g_iload_3 hX (dk DX12_tape 37 rfl) ?_
              refine i_iastore hX (dk DX12_tape 38 rfl) (MLt hM (q := 37) (by decide)) (MS hM 37 (by decide) rfl) (⟨rfl, by omega, by decide⟩) ?_
              refine g_iconst (v := 0) hX (dk DX12_tape 39 rfl) (by decide) ?_
              refine g_istore_4 hX (dk DX12_tape 40 rfl) (by decide) rfl ?_
              first
              | (exfalso; first | exact absurd ‹s < 0› ‹¬ s < 0› | exact absurd ‹0 ≤ s› ‹¬ 0 ≤ s› | exact absurd ‹s < 0› (Int32.not_lt.mpr ‹0 ≤ s›) | exact absurd (Int32.not_lt.mp ‹¬ s < 0›) ‹¬ 0 ≤ s›)
              | exact loop69 t ht rfl _ _ 60 0 h (Nat.zero_add _) ⟨by unfold tapeS; rw [tN_nI (by omega)]; (try first | rw [if_pos hc1] | rw [if_neg hc1] | rw [if_neg (not_not_intro hc1)]); (try first | rw [if_pos hc2] | rw [if_neg hc2] | rw [if_neg (not_not_intro hc2)]); (try first | rw [if_pos hc3] | rw [if_neg hc3] | rw [if_neg (not_not_intro hc3)]); (try first | rw [if_pos hc4] | rw [if_neg hc4] | rw [if_neg (not_not_intro hc4)]); (try first | rw [if_pos hc6] | rw [if_neg hc6] | rw [if_neg (not_not_intro hc6)]); (try first | rw [if_pos hc7] | rw [if_neg hc7] | rw [if_neg (not_not_intro hc7)]); first | done | rfl, by unfold tapeL; rw [tN_nI (by omega)]; (try first | rw [if_pos hc1] | rw [if_neg hc1] | rw [if_neg (not_not_intro hc1)]); (try first | rw [if_pos hc2] | rw [if_neg hc2] | rw [if_neg (not_not_intro hc2)]); (try first | rw [if_pos hc3] | rw [if_neg hc3] | rw [if_neg (not_not_intro hc3)]); (try first | rw [if_pos hc4] | rw [if_neg hc4] | rw [if_neg (not_not_intro hc4)]); (try first | rw [if_pos hc6] | rw [if_neg hc6] | rw [if_neg (not_not_intro hc6)]); (try first | rw [if_pos hc7] | rw [if_neg hc7] | rw [if_neg (not_not_intro hc7)]); first | done | rfl⟩ (RM.upc (RM.upc hR (by decide)) (by decide)) hM (fun j => by rw [if_neg (by omega), hl])
            · refine g_iconst (v := 0) hX (dk DX12_tape 35 rfl) (by decide) ?_
              refine g_goto (tgt := 65) hX (dk DX12_tape 36 rfl) (by decide) ?_
              refine i_iastore hX (dk DX12_tape 38 rfl) (MLt hM (q := 37) (by decide)) (MS hM 37 (by decide) rfl) (⟨rfl, by omega, by decide⟩) ?_
              refine g_iconst (v := 0) hX (dk DX12_tape 39 rfl) (by decide) ?_
              refine g_istore_4 hX (dk DX12_tape 40 rfl) (by decide) rfl ?_
              first
              | (exfalso; first | exact absurd ‹s < 0› ‹¬ s < 0› | exact absurd ‹0 ≤ s› ‹¬ 0 ≤ s› | exact absurd ‹s < 0› (Int32.not_lt.mpr ‹0 ≤ s›) | exact absurd (Int32.not_lt.mp ‹¬ s < 0›) ‹¬ 0 ≤ s›)
              | exact loop69 t ht rfl _ _ 60 0 h (Nat.zero_add _) ⟨by unfold tapeS; rw [tN_nI (by omega)]; (try first | rw [if_pos hc1] | rw [if_neg hc1] | rw [if_neg (not_not_intro hc1)]); (try first | rw [if_pos hc2] | rw [if_neg hc2] | rw [if_neg (not_not_intro hc2)]); (try first | rw [if_pos hc3] | rw [if_neg hc3] | rw [if_neg (not_not_intro hc3)]); (try first | rw [if_pos hc4] | rw [if_neg hc4] | rw [if_neg (not_not_intro hc4)]); (try first | rw [if_pos hc6] | rw [if_neg hc6] | rw [if_neg (not_not_intro hc6)]); (try first | rw [if_pos hc7] | rw [if_neg hc7] | rw [if_neg (not_not_intro hc7)]); first | done | rfl, by unfold tapeL; rw [tN_nI (by omega)]; (try first | rw [if_pos hc1] | rw [if_neg hc1] | rw [if_neg (not_not_intro hc1)]); (try first | rw [if_pos hc2] | rw [if_neg hc2] | rw [if_neg (not_not_intro hc2)]); (try first | rw [if_pos hc3] | rw [if_neg hc3] | rw [if_neg (not_not_intro hc3)]); (try first | rw [if_pos hc4] | rw [if_neg hc4] | rw [if_neg (not_not_intro hc4)]); (try first | rw [if_pos hc6] | rw [if_neg hc6] | rw [if_neg (not_not_intro hc6)]); (try first | rw [if_pos hc7] | rw [if_neg hc7] | rw [if_neg (not_not_intro hc7)]); first | done | rfl⟩ (RM.upc (RM.upc hR (by decide)) (by decide)) hM (fun j => by rw [if_neg (by omega), hl])
          · refine g_bipush (v := -14) hX (dk DX12_tape 23 rfl) (by decide) ?_
            refine g_ireturn hX (dk DX12_tape 24 rfl) rfl (rfl) (by decide) (by decide) ?_
            first
            | (exfalso; first | exact absurd ‹s < 0› ‹¬ s < 0› | exact absurd ‹0 ≤ s› ‹¬ 0 ≤ s› | exact absurd ‹s < 0› (Int32.not_lt.mpr ‹0 ≤ s›) | exact absurd (Int32.not_lt.mp ‹¬ s < 0›) ‹¬ 0 ≤ s›)
            | exact qS_of hM (by unfold tapeL; (try first | rw [if_pos hc1] | rw [if_neg hc1] | rw [if_neg (not_not_intro hc1)]); (try first | rw [if_pos hc2] | rw [if_neg hc2] | rw [if_neg (not_not_intro hc2)]); (try first | rw [if_pos hc3] | rw [if_neg hc3] | rw [if_neg (not_not_intro hc3)]); (try first | rw [if_pos hc4] | rw [if_neg hc4] | rw [if_neg (not_not_intro hc4)]); (try first | rw [if_pos hc6] | rw [if_neg hc6] | rw [if_neg (not_not_intro hc6)]); exact hl) (by unfold tapeS; (try first | rw [if_pos hc1] | rw [if_neg hc1] | rw [if_neg (not_not_intro hc1)]); (try first | rw [if_pos hc2] | rw [if_neg hc2] | rw [if_neg (not_not_intro hc2)]); (try first | rw [if_pos hc3] | rw [if_neg hc3] | rw [if_neg (not_not_intro hc3)]); (try first | rw [if_pos hc4] | rw [if_neg hc4] | rw [if_neg (not_not_intro hc4)]); (try first | rw [if_pos hc6] | rw [if_neg hc6] | rw [if_neg (not_not_intro hc6)]); first | done | rfl) hR
      · refine g_iload_3 hX (dk DX12_tape 14 rfl) ?_
        refine g_bipush (v := 60) hX (dk DX12_tape 15 rfl) (by decide) ?_
        refine g_icmp_le (tgt := 33) hX (dk DX12_tape 16 rfl) (by decide) (fun hc8 => ?_) (fun hc8 => ?_)
        · refine g_iload_2 hX (dk DX12_tape 19 rfl) ?_
          refine g_if_lt (tgt := 44) hX (dk DX12_tape 20 rfl) (by decide) (fun hc9 => ?_) (fun hc9 => ?_)
          · refine g_aload_0 hX (dk DX12_tape 25 rfl) ?_
            refine g_getRs (r := 36) hX (dk DX12_tape 26 rfl) KX12 fX12_220 (by decide) rfl (MLt hM (by decide)) (MC hM) (MR hM 69 (by decide) rfl) ?_
            refine g_iload_1 hX (dk DX12_tape 27 rfl) ?_
            refine g_iload_2 hX (dk DX12_tape 28 rfl) ?_
            refine i_iastore hX (dk DX12_tape 29 rfl) (MLt hM (q := 36) (by decide)) (MS hM 36 (by decide) rfl) (⟨rfl, by omega, by decide⟩) ?_
            refine g_aload_0 hX (dk DX12_tape 30 rfl) ?_
            refine g_getRs (r := 37) hX (dk DX12_tape 31 rfl) KX12 fX12_223 (by decide) rfl (MLt hM (by decide)) (MC hM) (MR hM 70 (by decide) rfl) ?_
            refine g_iload_1 hX (dk DX12_tape 32 rfl) ?_
            refine g_iload_2 hX (dk DX12_tape 33 rfl) ?_
            refine g_if_ge (tgt := 64) hX (dk DX12_tape 34 rfl) (by decide) (fun hc10 => ?_) (fun hc10 => ?_)
            · refine g_iload_3 hX (dk DX12_tape 37 rfl) ?_
              refine i_iastore hX (dk DX12_tape 38 rfl) (MLt hM (q := 37) (by decide)) (MS hM 37 (by decide) rfl) (⟨rfl, by omega, by decide⟩) ?_
              refine g_iconst (v := 0) hX (dk DX12_tape 39 rfl) (by decide) ?_
              refine g_istore_4 hX (dk DX12_tape 40 rfl) (by decide) rfl ?_
              first
              | (exfalso; first | exact absurd ‹s < 0› ‹¬ s < 0› | exact absurd ‹0 ≤ s› ‹¬ 0 ≤ s› | exact absurd ‹s < 0› (Int32.not_lt.mpr ‹0 ≤ s›) | exact absurd (Int32.not_lt.mp ‹¬ s < 0›) ‹¬ 0 ≤ s›)
              | exact loop69 t ht rfl _ _ 60 0 h (Nat.zero_add _) ⟨by unfold tapeS; rw [tN_nI (by omega)]; (try first | rw [if_pos hc1] | rw [if_neg hc1] | rw [if_neg (not_not_intro hc1)]); (try first | rw [if_pos hc2] | rw [if_neg hc2] | rw [if_neg (not_not_intro hc2)]); (try first | rw [if_pos hc3] | rw [if_neg hc3] | rw [if_neg (not_not_intro hc3)]); (try first | rw [if_pos hc8] | rw [if_neg hc8] | rw [if_neg (not_not_intro hc8)]); (try first | rw [if_pos hc9] | rw [if_neg hc9] | rw [if_neg (not_not_intro hc9)]); (try first | rw [if_pos hc10] | rw [if_neg hc10] | rw [if_neg (not_not_intro hc10)]); first | done | rfl, by unfold tapeL; rw [tN_nI (by omega)]; (try first | rw [if_pos hc1] | rw [if_neg hc1] | rw [if_neg (not_not_intro hc1)]); (try first | rw [if_pos hc2] | rw [if_neg hc2] | rw [if_neg (not_not_intro hc2)]); (try first | rw [if_pos hc3] | rw [if_neg hc3] | rw [if_neg (not_not_intro hc3)]); (try first | rw [if_pos hc8] | rw [if_neg hc8] | rw [if_neg (not_not_intro hc8)]); (try first | rw [if_pos hc9] | rw [if_neg hc9] | rw [if_neg (not_not_intro hc9)]); (try first | rw [if_pos hc10] | rw [if_neg hc10] | rw [if_neg (not_not_intro hc10)]); first | done | rfl⟩ (RM.upc (RM.upc hR (by decide)) (by decide)) hM (fun j => by rw [if_neg (by omega), hl])
            · refine g_iconst (v := 0) hX (dk DX12_tape 35 rfl) (by decide) ?_
              refine g_goto (tgt := 65) hX (dk DX12_tape 36 rfl) (by decide) ?_
              refine i_iastore hX (dk DX12_tape 38 rfl) (MLt hM (q := 37) (by decide)) (MS hM 37 (by decide) rfl) (⟨rfl, by omega, by decide⟩) ?_
              refine g_iconst (v := 0) hX (dk DX12_tape 39 rfl) (by decide) ?_
              refine g_istore_4 hX (dk DX12_tape 40 rfl) (by decide) rfl ?_
              first
              | (exfalso; first | exact absurd ‹s < 0› ‹¬ s < 0› | exact absurd ‹0 ≤ s› ‹¬ 0 ≤ s› | exact absurd ‹s < 0› (Int32.not_lt.mpr ‹0 ≤ s›) | exact absurd (Int32.not_lt.mp ‹¬ s < 0›) ‹¬ 0 ≤ s›)
              | exact loop69 t ht rfl _ _ 60 0 h (Nat.zero_add _) ⟨by unfold tapeS; rw [tN_nI (by omega)]; (try first | rw [if_pos hc1] | rw [if_neg hc1] | rw [if_neg (not_not_intro hc1)]); (try first | rw [if_pos hc2] | rw [if_neg hc2] | rw [if_neg (not_not_intro hc2)]); (try first | rw [if_pos hc3] | rw [if_neg hc3] | rw [if_neg (not_not_intro hc3)]); (try first | rw [if_pos hc8] | rw [if_neg hc8] | rw [if_neg (not_not_intro hc8)]); (try first | rw [if_pos hc9] | rw [if_neg hc9] | rw [if_neg (not_not_intro hc9)]); (try first | rw [if_pos hc10] | rw [if_neg hc10] | rw [if_neg (not_not_intro hc10)]); first | done | rfl, by unfold tapeL; rw [tN_nI (by omega)]; (try first | rw [if_pos hc1] | rw [if_neg hc1] | rw [if_neg (not_not_intro hc1)]); (try first | rw [if_pos hc2] | rw [if_neg hc2] | rw [if_neg (not_not_intro hc2)]); (try first | rw [if_pos hc3] | rw [if_neg hc3] | rw [if_neg (not_not_intro hc3)]); (try first | rw [if_pos hc8] | rw [if_neg hc8] | rw [if_neg (not_not_intro hc8)]); (try first | rw [if_pos hc9] | rw [if_neg hc9] | rw [if_neg (not_not_intro hc9)]); (try first | rw [if_pos hc10] | rw [if_neg hc10] | rw [if_neg (not_not_intro hc10)]); first | done | rfl⟩ (RM.upc (RM.upc hR (by decide)) (by decide)) hM (fun j => by rw [if_neg (by omega), hl])
          · refine g_iload_3 hX (dk DX12_tape 21 rfl) ?_
            refine g_if_ge (tgt := 44) hX (dk DX12_tape 22 rfl) (by decide) (fun hc11 => ?_) (fun hc11 => ?_)
            · refine g_aload_0 hX (dk DX12_tape 25 rfl) ?_
              refine g_getRs (r := 36) hX (dk DX12_tape 26 rfl) KX12 fX12_220 (by decide) rfl (MLt hM (by decide)) (MC hM) (MR hM 69 (by decide) rfl) ?_
              refine g_iload_1 hX (dk DX12_tape 27 rfl) ?_
              refine g_iload_2 hX (dk DX12_tape 28 rfl) ?_
              refine i_iastore hX (dk DX12_tape 29 rfl) (MLt hM (q := 36) (by decide)) (MS hM 36 (by decide) rfl) (⟨rfl, by omega, by decide⟩) ?_
              refine g_aload_0 hX (dk DX12_tape 30 rfl) ?_
              refine g_getRs (r := 37) hX (dk DX12_tape 31 rfl) KX12 fX12_223 (by decide) rfl (MLt hM (by decide)) (MC hM) (MR hM 70 (by decide) rfl) ?_
              refine g_iload_1 hX (dk DX12_tape 32 rfl) ?_
              refine g_iload_2 hX (dk DX12_tape 33 rfl) ?_
              refine g_if_ge (tgt := 64) hX (dk DX12_tape 34 rfl) (by decide) (fun hc12 => ?_) (fun hc12 => ?_)
              · refine g_iload_3 hX (dk DX12_tape 37 rfl) ?_
                refine i_iastore hX (dk DX12_tape 38 rfl) (MLt hM (q := 37) (by decide)) (MS hM 37 (by decide) rfl) (⟨rfl, by omega, by decide⟩) ?_
                refine g_iconst (v := 0) hX (dk DX12_tape 39 rfl) (by decide) ?_
                refine g_istore_4 hX (dk DX12_tape 40 rfl) (by decide) rfl ?_
                first
                | (exfalso; first | exact absurd ‹s < 0› ‹¬ s < 0› | exact absurd ‹0 ≤ s› ‹¬ 0 ≤ s› | exact absurd ‹s < 0› (Int32.not_lt.mpr ‹0 ≤ s›) | exact absurd (Int32.not_lt.mp ‹¬ s < 0›) ‹¬ 0 ≤ s›)
                | exact loop69 t ht rfl _ _ 60 0 h (Nat.zero_add _) ⟨by unfold tapeS; rw [tN_nI (by omega)]; (try first | rw [if_pos hc1] | rw [if_neg hc1] | rw [if_neg (not_not_intro hc1)]); (try first | rw [if_pos hc2] | rw [if_neg hc2] | rw [if_neg (not_not_intro hc2)]); (try first | rw [if_pos hc3] | rw [if_neg hc3] | rw [if_neg (not_not_intro hc3)]); (try first | rw [if_pos hc8] | rw [if_neg hc8] | rw [if_neg (not_not_intro hc8)]); (try first | rw [if_pos hc9] | rw [if_neg hc9] | rw [if_neg (not_not_intro hc9)]); (try first | rw [if_pos hc11] | rw [if_neg hc11] | rw [if_neg (not_not_intro hc11)]); (try first | rw [if_pos hc12] | rw [if_neg hc12] | rw [if_neg (not_not_intro hc12)]); first | done | rfl, by unfold tapeL; rw [tN_nI (by omega)]; (try first | rw [if_pos hc1] | rw [if_neg hc1] | rw [if_neg (not_not_intro hc1)]); (try first | rw [if_pos hc2] | rw [if_neg hc2] | rw [if_neg (not_not_intro hc2)]); (try first | rw [if_pos hc3] | rw [if_neg hc3] | rw [if_neg (not_not_intro hc3)]); (try first | rw [if_pos hc8] | rw [if_neg hc8] | rw [if_neg (not_not_intro hc8)]); (try first | rw [if_pos hc9] | rw [if_neg hc9] | rw [if_neg (not_not_intro hc9)]); (try first | rw [if_pos hc11] | rw [if_neg hc11] | rw [if_neg (not_not_intro hc11)]); (try first | rw [if_pos hc12] | rw [if_neg hc12] | rw [if_neg (not_not_intro hc12)]); first | done | rfl⟩ (RM.upc (RM.upc hR (by decide)) (by decide)) hM (fun j => by rw [if_neg (by omega), hl])
              · refine g_iconst (v := 0) hX (dk DX12_tape 35 rfl) (by decide) ?_
                refine g_goto (tgt := 65) hX (dk DX12_tape 36 rfl) (by decide) ?_
                refine i_iastore hX (dk DX12_tape 38 rfl) (MLt hM (q := 37) (by decide)) (MS hM 37 (by decide) rfl) (⟨rfl, by omega, by decide⟩) ?_
                refine g_iconst (v := 0) hX (dk DX12_tape 39 rfl) (by decide) ?_
                refine g_istore_4 hX (dk DX12_tape 40 rfl) (by decide) rfl ?_
                first
                | (exfalso; first | exact absurd ‹s < 0› ‹¬ s < 0› | exact absurd ‹0 ≤ s› ‹¬ 0 ≤ s› | exact absurd ‹s < 0› (Int32.not_lt.mpr ‹0 ≤ s›) | exact absurd (Int32.not_lt.mp ‹¬ s < 0›) ‹¬ 0 ≤ s›)
                | exact loop69 t ht rfl _ _ 60 0 h (Nat.zero_add _) ⟨by unfold tapeS; rw [tN_nI (by omega)]; (try first | rw [if_pos hc1] | rw [if_neg hc1] | rw [if_neg (not_not_intro hc1)]); (try first | rw [if_pos hc2] | rw [if_neg hc2] | rw [if_neg (not_not_intro hc2)]); (try first | rw [if_pos hc3] | rw [if_neg hc3] | rw [if_neg (not_not_intro hc3)]); (try first | rw [if_pos hc8] | rw [if_neg hc8] | rw [if_neg (not_not_intro hc8)]); (try first | rw [if_pos hc9] | rw [if_neg hc9] | rw [if_neg (not_not_intro hc9)]); (try first | rw [if_pos hc11] | rw [if_neg hc11] | rw [if_neg (not_not_intro hc11)]); (try first | rw [if_pos hc12] | rw [if_neg hc12] | rw [if_neg (not_not_intro hc12)]); first | done | rfl, by unfold tapeL; rw [tN_nI (by omega)]; (try first | rw [if_pos hc1] | rw [if_neg hc1] | rw [if_neg (not_not_intro hc1)]); (try first | rw [if_pos hc2] | rw [if_neg hc2] | rw [if_neg (not_not_intro hc2)]); (try first | rw [if_pos hc3] | rw [if_neg hc3] | rw [if_neg (not_not_intro hc3)]); (try first | rw [if_pos hc8] | rw [if_neg hc8] | rw [if_neg (not_not_intro hc8)]); (try first | rw [if_pos hc9] | rw [if_neg hc9] | rw [if_neg (not_not_intro hc9)]); (try first | rw [if_pos hc11] | rw [if_neg hc11] | rw [if_neg (not_not_intro hc11)]); (try first | rw [if_pos hc12] | rw [if_neg hc12] | rw [if_neg (not_not_intro hc12)]); first | done | rfl⟩ (RM.upc (RM.upc hR (by decide)) (by decide)) hM (fun j => by rw [if_neg (by omega), hl])
            · refine g_bipush (v := -14) hX (dk DX12_tape 23 rfl) (by decide) ?_
              refine g_ireturn hX (dk DX12_tape 24 rfl) rfl (rfl) (by decide) (by decide) ?_
              first
              | (exfalso; first | exact absurd ‹s < 0› ‹¬ s < 0› | exact absurd ‹0 ≤ s› ‹¬ 0 ≤ s› | exact absurd ‹s < 0› (Int32.not_lt.mpr ‹0 ≤ s›) | exact absurd (Int32.not_lt.mp ‹¬ s < 0›) ‹¬ 0 ≤ s›)
              | exact qS_of hM (by unfold tapeL; (try first | rw [if_pos hc1] | rw [if_neg hc1] | rw [if_neg (not_not_intro hc1)]); (try first | rw [if_pos hc2] | rw [if_neg hc2] | rw [if_neg (not_not_intro hc2)]); (try first | rw [if_pos hc3] | rw [if_neg hc3] | rw [if_neg (not_not_intro hc3)]); (try first | rw [if_pos hc8] | rw [if_neg hc8] | rw [if_neg (not_not_intro hc8)]); (try first | rw [if_pos hc9] | rw [if_neg hc9] | rw [if_neg (not_not_intro hc9)]); (try first | rw [if_pos hc11] | rw [if_neg hc11] | rw [if_neg (not_not_intro hc11)]); exact hl) (by unfold tapeS; (try first | rw [if_pos hc1] | rw [if_neg hc1] | rw [if_neg (not_not_intro hc1)]); (try first | rw [if_pos hc2] | rw [if_neg hc2] | rw [if_neg (not_not_intro hc2)]); (try first | rw [if_pos hc3] | rw [if_neg hc3] | rw [if_neg (not_not_intro hc3)]); (try first | rw [if_pos hc8] | rw [if_neg hc8] | rw [if_neg (not_not_intro hc8)]); (try first | rw [if_pos hc9] | rw [if_neg hc9] | rw [if_neg (not_not_intro hc9)]); (try first | rw [if_pos hc11] | rw [if_neg hc11] | rw [if_neg (not_not_intro hc11)]); first | done | rfl) hR
        · refine g_bipush (v := -2) hX (dk DX12_tape 17 rfl) (by decide) ?_
          refine g_ireturn hX (dk DX12_tape 18 rfl) rfl (rfl) (by decide) (by decide) ?_
          exact qS_of hM (by unfold tapeL; (try first | rw [if_pos hc1] | rw [if_neg hc1] | rw [if_neg (not_not_intro hc1)]); (try first | rw [if_pos hc2] | rw [if_neg hc2] | rw [if_neg (not_not_intro hc2)]); (try first | rw [if_pos hc3] | rw [if_neg hc3] | rw [if_neg (not_not_intro hc3)]); (try first | rw [if_pos hc8] | rw [if_neg hc8] | rw [if_neg (not_not_intro hc8)]); exact hl) (by unfold tapeS; (try first | rw [if_pos hc1] | rw [if_neg hc1] | rw [if_neg (not_not_intro hc1)]); (try first | rw [if_pos hc2] | rw [if_neg hc2] | rw [if_neg (not_not_intro hc2)]); (try first | rw [if_pos hc3] | rw [if_neg hc3] | rw [if_neg (not_not_intro hc3)]); (try first | rw [if_pos hc8] | rw [if_neg hc8] | rw [if_neg (not_not_intro hc8)]); first | done | rfl) hR
  · refine g_iconst (v := -1) hX (dk DX12_tape 4 rfl) (by decide) ?_
    refine g_ireturn hX (dk DX12_tape 5 rfl) rfl (rfl) (by decide) (by decide) ?_
    exact qS_of hM (by unfold tapeL; (try first | rw [if_pos hc1] | rw [if_neg hc1] | rw [if_neg (not_not_intro hc1)]); exact hl) (by unfold tapeS; (try first | rw [if_pos hc1] | rw [if_neg hc1] | rw [if_neg (not_not_intro hc1)]); first | done | rfl) hR

