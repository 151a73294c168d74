set_option maxRecDepth 8000 in
set_option maxHeartbeats 4000000 in
theorem c_X3_holds {G : Gt} (hG : Gok G) {I : It} {h : Ht}  (hH : HX h) (hPO : PO I h) {p c0 q : Nat} {y w : Int32} (hp : p < 6) (hc0 : c0 < 10) (hq : q < hn h) (hdc : isDC (hs h q).1) : Con G (3) 0 0 mX3_holds [.ref (43 + 5 * p), .int (nI c0), .ref q, .int y, .int w] I h (rI (bI (hoC I h p c0 q y w)) I h) := by
  refine con_intro (own := RX3) (lo0 := [some (.ref (43 + 5 * p)), some (.int (nI c0)), some (.ref q), some (.int y), some (.int w), none, none, none]) hG rfl pl_X3 (Nat.le_of_ble_eq_true rfl) rfl (fun X hX => ?_)
  have hee := eE_eq hPO hp hc0
  have loop21 : ∀ (k c : Nat) (bt : Int32), k = eE I p c0 - c → c ≤ 100 → hbR I h p q y w k c bt = hbR I h p q y w (eE I p c0 - eB I p c0) (eB I p c0) 0 → GG G (3) 0 0 X (rI (bI (hoC I h p c0 q y w)) I h) 21 [some (.ref (43 + 5 * p)), some (.int (nI c0)), some (.ref q), some (.int y), some (.int w), some (.int bt), some (.int (nI c)), none] [] (I) (h) 0 0 := by
    intro k
    induction k using Nat.strongRecOn with | _ k ih => ?_
    intro c bt hk hc hv
    refine g_iload_6 hX (dk DX3_holds_0 13 rfl) ?_
    refine g_aload_0 hX (dk DX3_holds_0 14 rfl) ?_
    refine g_getRs (r := (46 + 5 * p)) hX (dk DX3_holds_0 15 rfl) KX3 fX3_18 (by decide) rfl (PL0 hH hp) (PSh hH hp) (PR5 hH hp) ?_
    refine g_iload_1 hX (dk DX3_holds_0 16 rfl) ?_
    refine v_iaload hX (dk DX3_holds_0 17 rfl) (PLt hH (j := 3) hp (by decide)) (PA6 hH hp) (⟨rfl, hc0, by decide⟩) (hee.1) ?_
    refine g_icmp_ge (tgt := 130) hX (dk DX3_holds_0 18 rfl) (by decide) (fun hc1 => ?_) (fun hc1 => ?_)
    · refine g_iload_5 hX (dk DX3_holds_1 12 rfl) ?_
      refine g_iconst (v := 1) hX (dk DX3_holds_1 13 rfl) (by decide) ?_
      refine g_iand hX (dk DX3_holds_1 14 rfl) ?_
      refine g_if_eq (tgt := 141) hX (dk DX3_holds_1 15 rfl) (by decide) (fun hc2 => ?_) (fun hc2 => ?_)
      · refine g_iconst (v := 0) hX (dk DX3_holds_1 18 rfl) (by decide) ?_
        refine g_ireturn hX (dk DX3_holds_1 19 rfl) rfl (by decide) (by decide) (by decide) ?_
        have hk0 : k = 0 := by have := (nI_leI (by omega) (by omega)).mp hc1; omega
        subst hk0
        first
        | exact rI_of (bI_t (by unfold hoC; rw [← hv]; assumption)).symm rfl rfl
        | exact rI_of (bI_f (by unfold hoC; rw [← hv]; exact not_not_intro (by assumption))).symm rfl rfl
      · refine g_iconst (v := 1) hX (dk DX3_holds_1 16 rfl) (by decide) ?_
        refine g_goto (tgt := 142) hX (dk DX3_holds_1 17 rfl) (by decide) ?_
        refine g_ireturn hX (dk DX3_holds_1 19 rfl) rfl (by decide) (by decide) (by decide) ?_
        have hk0 : k = 0 := by have := (nI_leI (by omega) (by omega)).mp hc1; omega
        subst hk0
        first
        | exact rI_of (bI_t (by unfold hoC; rw [← hv]; assumption)).symm rfl rfl
        | exact rI_of (bI_f (by unfold hoC; rw [← hv]; exact not_not_intro (by assumption))).symm rfl rfl
    · have hlt : c < eE I p c0 := by
        rcases Nat.lt_or_ge c (eE I p c0) with z | z
        · exact z
        · exact absurd (nI_le z (by omega)) hc1
      obtain ⟨k, rfl⟩ : ∃ z, k = z + 1 := ⟨k - 1, by omega⟩
      refine g_aload_0 hX (dk DX3_holds_0 19 rfl) ?_
      refine g_getRs (r := (47 + 5 * p)) hX (dk DX3_holds_0 20 rfl) KX3 fX3_21 (by decide) rfl (PL0 hH hp) (PSh hH hp) (PR6 hH hp) ?_
      refine g_iload_6 hX (dk DX3_holds_0 21 rfl) ?_
      refine i_iaload hX (dk DX3_holds_0 22 rfl) (PLt hH (j := 4) hp (by decide)) (PA7 hH hp) (⟨rfl, by omega, by decide⟩) ?_
      refine g_istore_7 hX (dk DX3_holds_0 23 rfl) (by decide) rfl ?_
      refine g_iload_7 hX (dk DX3_holds_0 24 rfl) ?_
      refine g_bipush (v := 33) hX (dk DX3_holds_0 25 rfl) (by decide) ?_
      refine g_icmp_ne (tgt := 57) hX (dk DX3_holds_0 26 rfl) (by decide) (fun hc3 => ?_) (fun hc3 => ?_)
      · refine g_iload_7 hX (dk DX3_holds_0 32 rfl) ?_
        refine g_bipush (v := 38) hX (dk DX3_holds_0 33 rfl) (by decide) ?_
        refine g_icmp_ne (tgt := 79) hX (dk DX3_holds_0 34 rfl) (by decide) (fun hc4 => ?_) (fun hc4 => ?_)
        · refine g_iload_7 hX (dk DX3_holds_0 44 rfl) ?_
          refine g_bipush (v := 124) hX (dk DX3_holds_0 45 rfl) (by decide) ?_
          refine g_icmp_ne (tgt := 100) hX (dk DX3_holds_0 46 rfl) (by decide) (fun hc5 => ?_) (fun hc5 => ?_)
          · refine g_iload_5 hX (dk DX3_holds_0 56 rfl) ?_
            refine g_iconst (v := 1) hX (dk DX3_holds_0 57 rfl) (by decide) ?_
            refine g_ishl hX (dk DX3_holds_0 58 rfl) ?_
            refine g_iload_7 hX (dk DX3_holds_0 59 rfl) ?_
            refine g_aload_2 hX (dk DX3_holds_1 0 rfl) ?_
            refine g_iload_3 hX (dk DX3_holds_1 1 rfl) ?_
            refine g_iload_4 hX (dk DX3_holds_1 2 rfl) ?_
            refine g_c4I hX sX3_holds_110 (by decide) (Nat.le_of_ble_eq_true rfl) rcN (by decide) (by decide) (c_X3_passes hG hq hdc) ?_
            refine g_if_eq (tgt := 120) hX (dk DX3_holds_1 4 rfl) (by decide) (fun hc6 => ?_) (fun hc6 => ?_)
            · have hps := hc6
              refine g_iconst (v := 0) hX (dk DX3_holds_1 7 rfl) (by decide) ?_
              refine g_ior hX (dk DX3_holds_1 8 rfl) ?_
              refine g_istore_5 hX (dk DX3_holds_1 9 rfl) (by decide) rfl ?_
              refine g_iinc_6 hX (dk DX3_holds_1 10 rfl) (nI_1 c) (by decide) rfl ?_
              refine g_goto (tgt := 21) hX (dk DX3_holds_1 11 rfl) (by decide) ?_
              exact g_fgt (ih k (by omega) (c + 1) _ (by omega) (by omega) (by rw [← hv, hbR_s]; unfold stC; (try first | rw [if_pos hc1] | rw [if_neg hc1] | rw [if_neg (not_not_intro hc1)]); (try first | rw [if_pos hc3] | rw [if_neg hc3] | rw [if_neg (not_not_intro hc3)]); (try first | rw [if_pos hc4] | rw [if_neg hc4] | rw [if_neg (not_not_intro hc4)]); (try first | rw [if_pos hc5] | rw [if_neg hc5] | rw [if_neg (not_not_intro hc5)]); (try first | rw [if_pos hc6] | rw [if_neg hc6] | rw [if_neg (not_not_intro hc6)]); first | done | rfl | rw [hps])) ⟨rfl, rfl, rfl, rfl, rfl, rfl, rfl, trivial⟩
            · have hps := psC_1 hc6
              refine g_iconst (v := 1) hX (dk DX3_holds_1 5 rfl) (by decide) ?_
              refine g_goto (tgt := 121) hX (dk DX3_holds_1 6 rfl) (by decide) ?_
              refine g_ior hX (dk DX3_holds_1 8 rfl) ?_
              refine g_istore_5 hX (dk DX3_holds_1 9 rfl) (by decide) rfl ?_
              refine g_iinc_6 hX (dk DX3_holds_1 10 rfl) (nI_1 c) (by decide) rfl ?_
              refine g_goto (tgt := 21) hX (dk DX3_holds_1 11 rfl) (by decide) ?_
              exact g_fgt (ih k (by omega) (c + 1) _ (by omega) (by omega) (by rw [← hv, hbR_s]; unfold stC; (try first | rw [if_pos hc1] | rw [if_neg hc1] | rw [if_neg (not_not_intro hc1)]); (try first | rw [if_pos hc3] | rw [if_neg hc3] | rw [if_neg (not_not_intro hc3)]); (try first | rw [if_pos hc4] | rw [if_neg hc4] | rw [if_neg (not_not_intro hc4)]); (try first | rw [if_pos hc5] | rw [if_neg hc5] | rw [if_neg (not_not_intro hc5)]); (try first | rw [if_pos hc6] | rw [if_neg hc6] | rw [if_neg (not_not_intro hc6)]); first | done | rfl | rw [hps])) ⟨rfl, rfl, rfl, rfl, rfl, rfl, rfl, trivial⟩
          · refine g_iload_5 hX (dk DX3_holds_0 47 rfl) ?_
            refine g_iconst (v := 1) hX (dk DX3_holds_0 48 rfl) (by decide) ?_
            refine g_ishr hX (dk DX3_holds_0 49 rfl) ?_
            refine g_iload_5 hX (dk DX3_holds_0 50 rfl) ?_
            refine g_iconst (v := 1) hX (dk DX3_holds_0 51 rfl) (by decide) ?_
            refine g_iand hX (dk DX3_holds_0 52 rfl) ?_
            refine g_ior hX (dk DX3_holds_0 53 rfl) ?_
            refine g_istore_5 hX (dk DX3_holds_0 54 rfl) (by decide) rfl ?_
            refine g_goto (tgt := 124) hX (dk DX3_holds_0 55 rfl) (by decide) ?_
            refine g_iinc_6 hX (dk DX3_holds_1 10 rfl) (nI_1 c) (by decide) rfl ?_
            refine g_goto (tgt := 21) hX (dk DX3_holds_1 11 rfl) (by decide) ?_
            exact g_fgt (ih k (by omega) (c + 1) _ (by omega) (by omega) (by rw [← hv, hbR_s]; unfold stC; (try first | rw [if_pos hc1] | rw [if_neg hc1] | rw [if_neg (not_not_intro hc1)]); (try first | rw [if_pos hc3] | rw [if_neg hc3] | rw [if_neg (not_not_intro hc3)]); (try first | rw [if_pos hc4] | rw [if_neg hc4] | rw [if_neg (not_not_intro hc4)]); (try first | rw [if_pos hc5] | rw [if_neg hc5] | rw [if_neg (not_not_intro hc5)]); first | done | rfl | rw [hps])) ⟨rfl, rfl, rfl, rfl, rfl, rfl, rfl, trivial⟩
        · refine g_iload_5 hX (dk DX3_holds_0 35 rfl) ?_
          refine g_iconst (v := 1) hX (dk DX3_holds_0 36 rfl) (by decide) ?_
          refine g_ishr hX (dk DX3_holds_0 37 rfl) ?_
          refine g_iload_5 hX (dk DX3_holds_0 38 rfl) ?_
          refine g_bipush (v := -2) hX (dk DX3_holds_0 39 rfl) (by decide) ?_
          refine g_ior hX (dk DX3_holds_0 40 rfl) ?_
          refine g_iand hX (dk DX3_holds_0 41 rfl) ?_
          refine g_istore_5 hX (dk DX3_holds_0 42 rfl) (by decide) rfl ?_
          refine g_goto (tgt := 124) hX (dk DX3_holds_0 43 rfl) (by decide) ?_
          refine g_iinc_6 hX (dk DX3_holds_1 10 rfl) (nI_1 c) (by decide) rfl ?_
          refine g_goto (tgt := 21) hX (dk DX3_holds_1 11 rfl) (by decide) ?_
          exact g_fgt (ih k (by omega) (c + 1) _ (by omega) (by omega) (by rw [← hv, hbR_s]; unfold stC; (try first | rw [if_pos hc1] | rw [if_neg hc1] | rw [if_neg (not_not_intro hc1)]); (try first | rw [if_pos hc3] | rw [if_neg hc3] | rw [if_neg (not_not_intro hc3)]); (try first | rw [if_pos hc4] | rw [if_neg hc4] | rw [if_neg (not_not_intro hc4)]); first | done | rfl | rw [hps])) ⟨rfl, rfl, rfl, rfl, rfl, rfl, rfl, trivial⟩
      · refine g_iload_5 hX (dk DX3_holds_0 27 rfl) ?_
        refine g_iconst (v := 1) hX (dk DX3_holds_0 28 rfl) (by decide) ?_
        refine g_ixor hX (dk DX3_holds_0 29 rfl) ?_
        refine g_istore_5 hX (dk DX3_holds_0 30 rfl) (by decide) rfl ?_
        refine g_goto (tgt := 124) hX (dk DX3_holds_0 31 rfl) (by decide) ?_
        refine g_iinc_6 hX (dk DX3_holds_1 10 rfl) (nI_1 c) (by decide) rfl ?_
        refine g_goto (tgt := 21) hX (dk DX3_holds_1 11 rfl) (by decide) ?_
        exact g_fgt (ih k (by omega) (c + 1) _ (by omega) (by omega) (by rw [← hv, hbR_s]; unfold stC; (try first | rw [if_pos hc1] | rw [if_neg hc1] | rw [if_neg (not_not_intro hc1)]); (try first | rw [if_pos hc3] | rw [if_neg hc3] | rw [if_neg (not_not_intro hc3)]); first | done | rfl | rw [hps])) ⟨rfl, rfl, rfl, rfl, rfl, rfl, rfl, trivial⟩
  refine g_iconst (v := 0) hX (dk DX3_holds_0 0 rfl) (by decide) ?_
  refine g_istore_5 hX (dk DX3_holds_0 1 rfl) (by decide) rfl ?_
  refine g_iload_1 hX (dk DX3_holds_0 2 rfl) ?_
  refine g_if_ne (tgt := 11) hX (dk DX3_holds_0 3 rfl) (by decide) (fun hc1 => ?_) (fun hc1 => ?_)
  · refine g_aload_0 hX (dk DX3_holds_0 6 rfl) ?_
    refine g_getRs (r := (46 + 5 * p)) hX (dk DX3_holds_0 7 rfl) KX3 fX3_18 (by decide) rfl (PL0 hH hp) (PSh hH hp) (PR5 hH hp) ?_
    refine g_iload_1 hX (dk DX3_holds_0 8 rfl) ?_
    refine g_iconst (v := 1) hX (dk DX3_holds_0 9 rfl) (by decide) ?_
    refine g_isub hX (dk DX3_holds_0 10 rfl) ?_
    refine i_iaload hX (dk DX3_holds_0 11 rfl) (PLt hH (j := 3) hp (by decide)) (PA6 hH hp) (k_1 hc0 hc1) ?_
    refine g_nmI (nI (eB I p c0)) (by first | exact eB_z hc0 (by assumption) | exact eB_z hc0 (Decidable.not_not.mp (by assumption)) | exact eB_n hPO hp hc0 (by assumption)) ?_
    refine g_istore_6 hX (dk DX3_holds_0 12 rfl) (by decide) rfl ?_
    exact g_fgt (loop21 _ (eB I p c0) 0 rfl (eB_le hPO hp hc0) rfl) ⟨rfl, rfl, rfl, rfl, rfl, rfl, rfl, trivial⟩
  · refine g_iconst (v := 0) hX (dk DX3_holds_0 4 rfl) (by decide) ?_
    refine g_goto (tgt := 19) hX (dk DX3_holds_0 5 rfl) (by decide) ?_
    refine g_nmI (nI (eB I p c0)) (by first | exact eB_z hc0 (by assumption) | exact eB_z hc0 (Decidable.not_not.mp (by assumption)) | exact eB_n hPO hp hc0 (by assumption)) ?_
    refine g_istore_6 hX (dk DX3_holds_0 12 rfl) (by decide) rfl ?_
    exact g_fgt (loop21 _ (eB I p c0) 0 rfl (eB_le hPO hp hc0) rfl) ⟨rfl, rfl, rfl, rfl, rfl, rfl, rfl, trivial⟩

set_option maxRecDepth 8000 in
set_option maxHeartbeats 4000000 in
theorem c_X3_together {G : Gt} (hG : Gok G) {I : It} {h : Ht}  (hH : HX h) (hPO : PO I h) {p q : Nat} {wd y w : Int32} (hp : p < 6) (hq : q < hn h) (hdc : isDC (hs h q).1) : Con G (4) 0 0 mX3_together [.ref (43 + 5 * p), .int wd, .ref q, .int y, .int w] I h (rI (tgR I h p wd q y w (tN (I (43 + 5 * p) 2)) 0 0) I h) := by
  refine con_intro (own := RX3) (lo0 := [some (.ref (43 + 5 * p)), some (.int wd), some (.ref q), some (.int y), some (.int w), none, none]) hG rfl pl_X3 (Nat.le_of_ble_eq_true rfl) rfl (fun X hX => ?_)
  obtain ⟨cl, hcl, ecl⟩ := (hPO.2 p hp).1
  have loop6 : ∀ (k c : Nat) (z : Int32), c + k = cl → tgR I h p wd q y w k c z = tgR I h p wd q y w cl 0 0 → GG G (4) 0 0 X (rI (tgR I h p wd q y w (tN (I (43 + 5 * p) 2)) 0 0) I h) 6 [some (.ref (43 + 5 * p)), some (.int wd), some (.ref q), some (.int y), some (.int w), some (.int z), some (.int (nI c))] [] (I) (h) 0 0 := by
    intro k
    induction k using Nat.strongRecOn with | _ k ih => ?_
    intro c z hk hv
    refine g_iload_6 hX (dk DX3_together 4 rfl) ?_
    refine g_aload_0 hX (dk DX3_together 5 rfl) ?_
    refine g_getIv hX (dk DX3_together 6 rfl) KX3 fX3_45 (by decide) rfl (PL0 hH hp) (PSh hH hp) (ecl) ?_
    refine g_icmp_ge (tgt := 57) hX (dk DX3_together 7 rfl) (by decide) (fun hc1 => ?_) (fun hc1 => ?_)
    · refine g_iload_5 hX (dk DX3_together 30 rfl) ?_
      refine g_ireturn hX (dk DX3_together 31 rfl) rfl (rfl) (by decide) (by decide) ?_
      have hk0 := cl_end hk (by omega) hc1
      subst hk0
      exact rI_of (by rw [ecl, tN_nI (by omega)]; exact hv) rfl rfl
    · obtain ⟨k, rfl⟩ := cl_go hk (by omega) hc1
      refine g_aload_0 hX (dk DX3_together 8 rfl) ?_
      refine g_getRs (r := (44 + 5 * p)) hX (dk DX3_together 9 rfl) KX3 fX3_11 (by decide) rfl (PL0 hH hp) (PSh hH hp) (PR3 hH hp) ?_
      refine g_iload_6 hX (dk DX3_together 10 rfl) ?_
      refine i_iaload hX (dk DX3_together 11 rfl) (PLt hH (j := 1) hp (by decide)) (PA4 hH hp) (⟨rfl, by omega, by decide⟩) ?_
      refine g_iload_1 hX (dk DX3_together 12 rfl) ?_
      refine g_icmp_ne (tgt := 51) hX (dk DX3_together 13 rfl) (by decide) (fun hc2 => ?_) (fun hc2 => ?_)
      · refine g_iinc_6 hX (dk DX3_together 28 rfl) (nI_1 c) (by decide) rfl ?_
        refine g_goto (tgt := 6) hX (dk DX3_together 29 rfl) (by decide) ?_
        first
        | exact g_fgt (ih k (by omega) (c + 1) (z + I (45 + 5 * p) c) (by omega) (by rw [← hv, tgR_s, if_pos (show I (44 + 5 * p) c = wd ∧ hoC I h p c q y w from ⟨by assumption, by assumption⟩)])) ⟨rfl, rfl, rfl, rfl, rfl, rfl, rfl, trivial⟩
        | exact g_fgt (ih k (by omega) (c + 1) z (by omega) (by rw [← hv, tgR_s, if_neg (show ¬ (I (44 + 5 * p) c = wd ∧ hoC I h p c q y w) from fun z => absurd z.1 (by assumption))])) ⟨rfl, rfl, rfl, rfl, rfl, rfl, rfl, trivial⟩
        | exact g_fgt (ih k (by omega) (c + 1) z (by omega) (by rw [← hv, tgR_s, if_neg (show ¬ (I (44 + 5 * p) c = wd ∧ hoC I h p c q y w) from fun z => absurd z.2 (by assumption))])) ⟨rfl, rfl, rfl, rfl, rfl, rfl, rfl, trivial⟩
      · have hA := hc2
        refine g_aload_0 hX (dk DX3_together 14 rfl) ?_
        refine g_iload_6 hX (dk DX3_together 15 rfl) ?_
        refine g_aload_2 hX (dk DX3_together 16 rfl) ?_
        refine g_iload_3 hX (dk DX3_together 17 rfl) ?_
        refine g_iload_4 hX (dk DX3_together 18 rfl) ?_
        refine g_c5I hX sX3_together_33 (by decide) (Nat.le_of_ble_eq_true rfl) (rc0 rfl (PL0 hH hp) (PSh hH hp)) (by decide) (by decide) (c_X3_holds hG hH hPO hp (by omega) hq hdc) ?_
        refine g_ifb_eq (tgt := 51) hX (dk DX3_together 20 rfl) (by decide) (fun hc3 => ?_) (fun hc3 => ?_)
        · refine g_iinc_6 hX (dk DX3_together 28 rfl) (nI_1 c) (by decide) rfl ?_
          refine g_goto (tgt := 6) hX (dk DX3_together 29 rfl) (by decide) ?_
          first
          | exact g_fgt (ih k (by omega) (c + 1) (z + I (45 + 5 * p) c) (by omega) (by rw [← hv, tgR_s, if_pos (show I (44 + 5 * p) c = wd ∧ hoC I h p c q y w from ⟨by assumption, by assumption⟩)])) ⟨rfl, rfl, rfl, rfl, rfl, rfl, rfl, trivial⟩
          | exact g_fgt (ih k (by omega) (c + 1) z (by omega) (by rw [← hv, tgR_s, if_neg (show ¬ (I (44 + 5 * p) c = wd ∧ hoC I h p c q y w) from fun z => absurd z.1 (by assumption))])) ⟨rfl, rfl, rfl, rfl, rfl, rfl, rfl, trivial⟩
          | exact g_fgt (ih k (by omega) (c + 1) z (by omega) (by rw [← hv, tgR_s, if_neg (show ¬ (I (44 + 5 * p) c = wd ∧ hoC I h p c q y w) from fun z => absurd z.2 (by assumption))])) ⟨rfl, rfl, rfl, rfl, rfl, rfl, rfl, trivial⟩
        · have hB := hc3
          refine g_iload_5 hX (dk DX3_together 21 rfl) ?_
          refine g_aload_0 hX (dk DX3_together 22 rfl) ?_
          refine g_getRs (r := (45 + 5 * p)) hX (dk DX3_together 23 rfl) KX3 fX3_15 (by decide) rfl (PL0 hH hp) (PSh hH hp) (PR4 hH hp) ?_
          refine g_iload_6 hX (dk DX3_together 24 rfl) ?_
          refine i_iaload hX (dk DX3_together 25 rfl) (PLt hH (j := 2) hp (by decide)) (PA5 hH hp) (⟨rfl, by omega, by decide⟩) ?_
          refine g_iadd hX (dk DX3_together 26 rfl) ?_
          refine g_istore_5 hX (dk DX3_together 27 rfl) (by decide) rfl ?_
          refine g_iinc_6 hX (dk DX3_together 28 rfl) (nI_1 c) (by decide) rfl ?_
          refine g_goto (tgt := 6) hX (dk DX3_together 29 rfl) (by decide) ?_
          first
          | exact g_fgt (ih k (by omega) (c + 1) (z + I (45 + 5 * p) c) (by omega) (by rw [← hv, tgR_s, if_pos (show I (44 + 5 * p) c = wd ∧ hoC I h p c q y w from ⟨by assumption, by assumption⟩)])) ⟨rfl, rfl, rfl, rfl, rfl, rfl, rfl, trivial⟩
          | exact g_fgt (ih k (by omega) (c + 1) z (by omega) (by rw [← hv, tgR_s, if_neg (show ¬ (I (44 + 5 * p) c = wd ∧ hoC I h p c q y w) from fun z => absurd z.1 (by assumption))])) ⟨rfl, rfl, rfl, rfl, rfl, rfl, rfl, trivial⟩
          | exact g_fgt (ih k (by omega) (c + 1) z (by omega) (by rw [← hv, tgR_s, if_neg (show ¬ (I (44 + 5 * p) c = wd ∧ hoC I h p c q y w) from fun z => absurd z.2 (by assumption))])) ⟨rfl, rfl, rfl, rfl, rfl, rfl, rfl, trivial⟩
  refine g_iconst (v := 0) hX (dk DX3_together 0 rfl) (by decide) ?_
  refine g_istore_5 hX (dk DX3_together 1 rfl) (by decide) rfl ?_
  refine g_iconst (v := 0) hX (dk DX3_together 2 rfl) (by decide) ?_
  refine g_istore_6 hX (dk DX3_together 3 rfl) (by decide) rfl ?_
  exact g_fgt (loop6 cl 0 0 (Nat.zero_add _) rfl) ⟨rfl, rfl, rfl, rfl, rfl, rfl, rfl, trivial⟩

