set_option maxRecDepth 8000 in
set_option maxHeartbeats 4000000 in
theorem x_judge {G : Gt} (hG : Gok G) {I : It} {h : Ht}  {E : It} {L : Nat → Int64} (hE : Inv E) (hY : RY E L I h) {a e : Int32} : Con G (3) 0 0 mX11_judge [.ref 0, .int a, .int e] I h (qW E L (hn h)) := by
  refine con_intro (own := RX11) (lo0 := [some (.ref 0), some (.int a), some (.int e), none]) hG rfl pl_X11 (Nat.le_of_ble_eq_true rfl) rfl (fun X hX => ?_)
  have hW := hY.wx hE
  have hH := hW.1
  have hc10 := hW.2.1.2
  have loop36 : ∀ t, t < 6 → ∀ (k d : Nat), d + k = cN I → GG G (3) 0 0 X (qW E L (hn h)) 36 [some (.ref 0), some (.int (nI t)), some (.int e), some (.int (nI d))] [] (I) (h) 0 0 := by
    intro t ht k
    induction k using Nat.strongRecOn with | _ k ih => ?_
    intro d hk
    have hT := hY.2.2.2.2.2.2.1 t ht
    obtain ⟨l, hl, el, -, -⟩ := tp_of hE ht
    refine g_iload_3 hX (dk DX11_judge_0 23 rfl) ?_
    refine g_aload_0 hX (dk DX11_judge_0 24 rfl) ?_
    refine g_getRs (r := 1) hX (dk DX11_judge_0 25 rfl) KX11 fX11_12 (by decide) rfl (CLt hH (q := 0) (by decide)) (CC hH 0 (by decide) rfl) (CR hH 0 0 1 (by decide)) ?_
    refine g_getIv hX (dk DX11_judge_0 26 rfl) KX5 fX11_72 (by decide) rfl (CLt hH (q := 1) (by decide)) (CC hH 1 (by decide) rfl) (hW.2.1.1) ?_
    refine g_icmp_ge (tgt := 102) hX (dk DX11_judge_0 27 rfl) (by decide) (fun hc1 => ?_) (fun hc1 => ?_)
    · refine g_bipush (v := -5) hX (dk DX11_judge_1 2 rfl) (by decide) ?_
      refine g_ireturn hX (dk DX11_judge_1 3 rfl) rfl (rfl) (by decide) (by decide) ?_
      exact qW_of hY
    · obtain ⟨k, rfl⟩ := cl_go hk (by omega) hc1
      refine g_iload_2 hX (dk DX11_judge_0 28 rfl) ?_
      refine g_if_lt (tgt := 63) hX (dk DX11_judge_0 29 rfl) (by decide) (fun hc2 => ?_) (fun hc2 => ?_)
      · refine g_bipush (v := 100) hX (dk DX11_judge_0 38 rfl) (by decide) ?_
        refine g_iload_3 hX (dk DX11_judge_0 39 rfl) ?_
        refine g_iadd hX (dk DX11_judge_0 40 rfl) ?_
        refine g_ireturn hX (dk DX11_judge_0 41 rfl) rfl (rfl) (by decide) (by decide) ?_
        exact qW_of hY
      · refine g_iload_2 hX (dk DX11_judge_0 30 rfl) ?_
        refine g_aload_0 hX (dk DX11_judge_0 31 rfl) ?_
        refine g_getRs (r := 35) hX (dk DX11_judge_0 32 rfl) KX11 fX11_51 (by decide) rfl (CLt hH (q := 0) (by decide)) (CC hH 0 (by decide) rfl) (CR hH 0 10 35 (by decide)) ?_
        refine g_iload_1 hX (dk DX11_judge_0 33 rfl) ?_
        refine v_iaload hX (dk DX11_judge_0 34 rfl) (CLt hH (q := 35) (by decide)) (CS hH 35 (by decide) rfl) (⟨rfl, ht, by decide⟩) (hT.2.1.trans el) ?_
        refine g_iload_3 hX (dk DX11_judge_0 35 rfl) ?_
        refine g_isub hX (dk DX11_judge_0 36 rfl) ?_
        refine g_icmp_lt (tgt := 68) hX (dk DX11_judge_0 37 rfl) (by decide) (fun hc3 => ?_) (fun hc3 => ?_)
        · obtain ⟨q, eq, hqd⟩ := jd_ix (by assumption) hc3 hl (by omega)
          refine g_aload_0 hX (dk DX11_judge_0 42 rfl) ?_
          refine g_getRs (r := 36) hX (dk DX11_judge_0 43 rfl) KX11 fX11_56 (by decide) rfl (CLt hH (q := 0) (by decide)) (CC hH 0 (by decide) rfl) (CR hH 0 11 36 (by decide)) ?_
          refine g_iload_1 hX (dk DX11_judge_0 44 rfl) ?_
          refine i_aaload (i0 := 7) hX (dk DX11_judge_0 45 rfl) (CLt hH (q := 36) (by decide)) (CS hH 36 (by decide) rfl) (by decide) rfl rfl (⟨rfl, ht, by decide⟩) (IT_r hH ht) ?_
          refine g_iload_2 hX (dk DX11_judge_0 46 rfl) ?_
          refine g_iload_3 hX (dk DX11_judge_0 47 rfl) ?_
          refine g_iadd hX (dk DX11_judge_0 48 rfl) ?_
          refine g_nmI (nI (q + d)) (by rw [eq]; exact nI_add _ _) ?_
          refine i_laload hX (dk DX11_judge_0 49 rfl) (IT_lt hH ht) (IT_sh hH ht) (⟨rfl, hqd, by decide⟩) ?_
          refine g_aload_0 hX (dk DX11_judge_0 50 rfl) ?_
          refine g_getRs (r := 1) hX (dk DX11_judge_0 51 rfl) KX11 fX11_12 (by decide) rfl (CLt hH (q := 0) (by decide)) (CC hH 0 (by decide) rfl) (CR hH 0 0 1 (by decide)) ?_
          refine g_getI hX (dk DX11_judge_0 52 rfl) KX5 fX11_116 (by decide) rfl (CLt hH (q := 1) (by decide)) (CC hH 1 (by decide) rfl) ?_
          refine g_iload_3 hX (dk DX11_judge_0 53 rfl) ?_
          refine g_c2I hX sX11_judge_86 (by decide) (Nat.le_of_ble_eq_true rfl) rcN (by decide) (by decide) (c_X11_bit hG ) ?_
          refine g_i2l hX (dk DX11_judge_0 55 rfl) ?_
          refine g_lcmp hX (dk DX11_judge_0 56 rfl) ?_
          refine g_if_eq (tgt := 96) hX (dk DX11_judge_0 57 rfl) (by decide) (fun hc4 => ?_) (fun hc4 => ?_)
          · refine g_iinc_3 hX (dk DX11_judge_1 0 rfl) (nI_1 d) (by decide) rfl ?_
            refine g_goto (tgt := 36) hX (dk DX11_judge_1 1 rfl) (by decide) ?_
            exact g_fgt (ih k (by omega) (d + 1) (by omega)) ⟨rfl, rfl, rfl, rfl, trivial⟩
          · refine g_iload_3 hX (dk DX11_judge_0 58 rfl) ?_
            refine g_ireturn hX (dk DX11_judge_0 59 rfl) rfl (rfl) (by decide) (by decide) ?_
            exact qW_of hY
        · refine g_bipush (v := 100) hX (dk DX11_judge_0 38 rfl) (by decide) ?_
          refine g_iload_3 hX (dk DX11_judge_0 39 rfl) ?_
          refine g_iadd hX (dk DX11_judge_0 40 rfl) ?_
          refine g_ireturn hX (dk DX11_judge_0 41 rfl) rfl (rfl) (by decide) (by decide) ?_
          exact qW_of hY
  refine g_iload_1 hX (dk DX11_judge_0 0 rfl) ?_
  refine g_iconst (v := 0) hX (dk DX11_judge_0 1 rfl) (by decide) ?_
  refine g_iconst (v := 5) hX (dk DX11_judge_0 2 rfl) (by decide) ?_
  refine g_c3I hX sX11_judge_3 (by decide) (Nat.le_of_ble_eq_true rfl) rcN (by decide) (by decide) (c_X11_isNot hG ) ?_
  refine g_ifb_eq (tgt := 11) hX (dk DX11_judge_0 4 rfl) (by decide) (fun hc1 => ?_) (fun hc1 => ?_)
  · obtain ⟨t, ht5, rfl⟩ := in_of (b := 5) (by decide) (Decidable.not_not.mp hc1)
    have ht : t < 6 := by omega
    have hT := hY.2.2.2.2.2.2.1 t ht
    refine g_aload_0 hX (dk DX11_judge_0 7 rfl) ?_
    refine g_getRs (r := 34) hX (dk DX11_judge_0 8 rfl) KX11 fX11_47 (by decide) rfl (CLt hH (q := 0) (by decide)) (CC hH 0 (by decide) rfl) (CR hH 0 9 34 (by decide)) ?_
    refine g_iload_1 hX (dk DX11_judge_0 9 rfl) ?_
    refine i_iaload hX (dk DX11_judge_0 10 rfl) (CLt hH (q := 34) (by decide)) (CS hH 34 (by decide) rfl) (⟨rfl, ht, by decide⟩) ?_
    refine g_iconst (v := -1) hX (dk DX11_judge_0 11 rfl) (by decide) ?_
    refine g_icmp_eq (tgt := 34) hX (dk DX11_judge_0 12 rfl) (by decide) (fun hc2 => ?_) (fun hc2 => ?_)
    · refine g_iconst (v := 0) hX (dk DX11_judge_0 21 rfl) (by decide) ?_
      refine g_istore_3 hX (dk DX11_judge_0 22 rfl) (by decide) rfl ?_
      exact g_fgt (loop36 t ht (cN I) 0 (Nat.zero_add _)) ⟨rfl, rfl, rfl, rfl, trivial⟩
    · refine g_aload_0 hX (dk DX11_judge_0 13 rfl) ?_
      refine g_getRs (r := 34) hX (dk DX11_judge_0 14 rfl) KX11 fX11_47 (by decide) rfl (CLt hH (q := 0) (by decide)) (CC hH 0 (by decide) rfl) (CR hH 0 9 34 (by decide)) ?_
      refine g_iload_1 hX (dk DX11_judge_0 15 rfl) ?_
      refine i_iaload hX (dk DX11_judge_0 16 rfl) (CLt hH (q := 34) (by decide)) (CS hH 34 (by decide) rfl) (⟨rfl, ht, by decide⟩) ?_
      refine g_iconst (v := 4) hX (dk DX11_judge_0 17 rfl) (by decide) ?_
      refine g_icmp_eq (tgt := 34) hX (dk DX11_judge_0 18 rfl) (by decide) (fun hc3 => ?_) (fun hc3 => ?_)
      · refine g_iconst (v := 0) hX (dk DX11_judge_0 21 rfl) (by decide) ?_
        refine g_istore_3 hX (dk DX11_judge_0 22 rfl) (by decide) rfl ?_
        exact g_fgt (loop36 t ht (cN I) 0 (Nat.zero_add _)) ⟨rfl, rfl, rfl, rfl, trivial⟩
      · refine g_bipush (v := -12) hX (dk DX11_judge_0 19 rfl) (by decide) ?_
        refine g_ireturn hX (dk DX11_judge_0 20 rfl) rfl (rfl) (by decide) (by decide) ?_
        exact qW_of hY
  · refine g_iconst (v := -1) hX (dk DX11_judge_0 5 rfl) (by decide) ?_
    refine g_ireturn hX (dk DX11_judge_0 6 rfl) rfl (rfl) (by decide) (by decide) ?_
    exact qW_of hY

