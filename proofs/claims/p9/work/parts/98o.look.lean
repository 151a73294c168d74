set_option maxRecDepth 8000 in
set_option maxHeartbeats 4000000 in
theorem e_lookDear {G : Gt} (hG : Gok G) {I : It} {h : Ht}  {E : It} {L : Nat → Int64} (hE : Inv E) (hZ : RZ E L I h) {u : Int32} {x : Nat} (hx : x ≤ 20000) (hDM : DM E I) : Con G (6) 0 0 mX0_lookDear [.ref 13, .int u, .int (nI x)] I h (qV (fun J h2 => LD E u x (cnt E) I J ∧ h2 = h)) := by
  refine con_intro (own := RX0) (lo0 := [some (.ref 13), some (.int u), some (.int (nI x)), none, none, none]) hG rfl pl_X0 (Nat.le_of_ble_eq_true rfl) rfl (fun X hX => ?_)
  have hW := hZ.1.wx hE
  have hH := hW.1
  have hc10 := (inv_cnt hE).2
  have hw9 := (inv_wk hE).2
  have loop2 : ∀ (k d : Nat) (J : It), d + k = cnt E → LD E u x d I J → GG G (6) 0 0 X (qV (fun J h2 => LD E u x (cnt E) I J ∧ h2 = h)) 2 [some (.ref 13), some (.int u), some (.int (nI x)), some (.int (nI d)), none, none] [] (J) (h) 0 0 := by
    intro k
    induction k using Nat.strongRecOn with | _ k ih => ?_
    intro d J hk hL
    have hS : Sc I J := Sc.of1 hL.1 (by decide)
    have hZJ := hZ.sc hE hS
    have hWJ := hZJ.1.wx hE
    refine g_iload_3 hX (dk DX0_lookDear 2 rfl) ?_
    refine g_aload_0 hX (dk DX0_lookDear 3 rfl) ?_
    refine g_getRs (r := 1) hX (dk DX0_lookDear 4 rfl) KX0 fX0_34 (by decide) rfl (CLt hH (q := 13) (by decide)) (CC hH 13 (by decide) rfl) (CR hH 13 0 1 (by decide)) ?_
    refine g_getIv hX (dk DX0_lookDear 5 rfl) KX5 fX0_69 (by decide) rfl (CLt hH (q := 1) (by decide)) (CC hH 1 (by decide) rfl) (hZJ.1.2.1.1.1.trans (inv_cnt hE).1) ?_
    refine g_icmp_ge (tgt := 76) hX (dk DX0_lookDear 6 rfl) (by decide) (fun hc1 => ?_) (fun hc1 => ?_)
    · refine g_return hX (dk DX0_lookDear 38 rfl) rfl (by decide) (by decide) ?_
      have hk0 := cl_end hk (by omega) hc1
      subst hk0
      exact qV_of ⟨by rw [show cnt E = d by omega]; exact hL, rfl⟩
    · obtain ⟨k, rfl⟩ := cl_go hk (by omega) hc1
      have hd : d < cnt E := by omega
      obtain ⟨g1, g2, g3, g4, g5, g6, g7, g8, g9, g10⟩ := hZJ.1.d hd
      refine g_iload_3 hX (dk DX0_lookDear 7 rfl) ?_
      refine g_iload_2 hX (dk DX0_lookDear 8 rfl) ?_
      refine g_c2I hX sX0_lookDear_15 (by decide) (Nat.le_of_ble_eq_true rfl) rcN (by decide) (by decide) (c_X0_dearCell hG) ?_
      refine g_nmI (nI (d * 60 + x % 60)) (dcell (by omega)) ?_
      refine g_istore_4 hX (dk DX0_lookDear 10 rfl) (by decide) rfl ?_
      refine g_aload_0 hX (dk DX0_lookDear 11 rfl) ?_
      refine g_getRs (r := 1) hX (dk DX0_lookDear 12 rfl) KX0 fX0_34 (by decide) rfl (CLt hH (q := 13) (by decide)) (CC hH 13 (by decide) rfl) (CR hH 13 0 1 (by decide)) ?_
      refine g_iload_3 hX (dk DX0_lookDear 13 rfl) ?_
      refine g_c2R hX sX0_lookDear_25 (by decide) (Nat.le_of_ble_eq_true rfl) (rc0 rfl (CLt hH (by decide)) (CC hH 1 (by decide) rfl)) (by decide) (by decide) (c_X5_find hG hWJ (by rw [hZJ.1.cn]; exact hd)) ?_
      refine g_astore_5 hX (dk DX0_lookDear 15 rfl) (by decide) rfl ?_
      refine g_aload_5 hX (dk DX0_lookDear 16 rfl) ?_
      refine g_ifnullR hX (dk DX0_lookDear 17 rfl) ?_
      refine g_iload_1 hX (dk DX0_lookDear 18 rfl) ?_
      refine g_iload_3 hX (dk DX0_lookDear 19 rfl) ?_
      refine g_c2I hX sX0_lookDear_37 (by decide) (Nat.le_of_ble_eq_true rfl) rcN (by decide) (by decide) (c_X11_bit hG) ?_
      refine g_if_eq (tgt := 70) hX (dk DX0_lookDear 21 rfl) (by decide) (fun hc2 => ?_) (fun hc2 => ?_)
      · refine g_iinc_3 hX (dk DX0_lookDear 36 rfl) (nI_1 d) (by decide) rfl ?_
        refine g_goto (tgt := 2) hX (dk DX0_lookDear 37 rfl) (by decide) ?_
        first
        | exact g_fgt (ih k (by omega) (d + 1) _ (by omega) (hL.a ((has_0 u (by omega)).mp (by assumption)))) ⟨rfl, rfl, rfl, rfl, trivial⟩
        | exact g_fgt (ih k (by omega) (d + 1) _ (by omega) (hL.b hd (by assumption))) ⟨rfl, rfl, rfl, rfl, trivial⟩
        | exact g_fgt (ih k (by omega) (d + 1) _ (by omega) hL.c) ⟨rfl, rfl, rfl, rfl, trivial⟩
      · refine g_aload_0 hX (dk DX0_lookDear 22 rfl) ?_
        refine g_getRs (r := 15) hX (dk DX0_lookDear 23 rfl) KX0 fX0_17 (by decide) rfl (CLt hH (q := 13) (by decide)) (CC hH 13 (by decide) rfl) (CR hH 13 3 15 (by decide)) ?_
        refine g_iload_4 hX (dk DX0_lookDear 24 rfl) ?_
        refine i_iaload hX (dk DX0_lookDear 25 rfl) (CLt hH (q := 15) (by decide)) (CS hH 15 (by decide) rfl) (⟨rfl, dcell_lt (by omega), by decide⟩) ?_
        refine g_if_ge (tgt := 70) hX (dk DX0_lookDear 26 rfl) (by decide) (fun hc3 => ?_) (fun hc3 => ?_)
        · refine g_iinc_3 hX (dk DX0_lookDear 36 rfl) (nI_1 d) (by decide) rfl ?_
          refine g_goto (tgt := 2) hX (dk DX0_lookDear 37 rfl) (by decide) ?_
          first
          | exact g_fgt (ih k (by omega) (d + 1) _ (by omega) (hL.a ((has_0 u (by omega)).mp (by assumption)))) ⟨rfl, rfl, rfl, rfl, trivial⟩
          | exact g_fgt (ih k (by omega) (d + 1) _ (by omega) (hL.b hd (by assumption))) ⟨rfl, rfl, rfl, rfl, trivial⟩
          | exact g_fgt (ih k (by omega) (d + 1) _ (by omega) hL.c) ⟨rfl, rfl, rfl, rfl, trivial⟩
        · refine g_aload_0 hX (dk DX0_lookDear 27 rfl) ?_
          refine g_getRs (r := 15) hX (dk DX0_lookDear 28 rfl) KX0 fX0_17 (by decide) rfl (CLt hH (q := 13) (by decide)) (CC hH 13 (by decide) rfl) (CR hH 13 3 15 (by decide)) ?_
          refine g_iload_4 hX (dk DX0_lookDear 29 rfl) ?_
          refine g_aload_0 hX (dk DX0_lookDear 30 rfl) ?_
          refine g_getRs (r := 1) hX (dk DX0_lookDear 31 rfl) KX0 fX0_34 (by decide) rfl (CLt hH (q := 13) (by decide)) (CC hH 13 (by decide) rfl) (CR hH 13 0 1 (by decide)) ?_
          refine g_aload_5 hX (dk DX0_lookDear 32 rfl) ?_
          refine g_iload_2 hX (dk DX0_lookDear 33 rfl) ?_
          refine g_c3I hX sX0_lookDear_66 (by decide) (Nat.le_of_ble_eq_true rfl) (rc0 rfl (CLt hH (by decide)) (CC hH 1 (by decide) rfl)) (by decide) (by decide) (c_X5_dearIn hG hWJ g3 (by rw [g4]; exact kcl_dc _)) ?_
          refine g_nmI (dearF E d (nI (x % 60))) ((dear_e hE hZJ hd).trans (dear_60 (by omega))) ?_
          refine i_iastore hX (dk DX0_lookDear 35 rfl) (CLt hH (q := 15) (by decide)) (CS hH 15 (by decide) rfl) (⟨rfl, dcell_lt (by omega), by decide⟩) ?_
          refine g_iinc_3 hX (dk DX0_lookDear 36 rfl) (nI_1 d) (by decide) rfl ?_
          refine g_goto (tgt := 2) hX (dk DX0_lookDear 37 rfl) (by decide) ?_
          first
          | exact g_fgt (ih k (by omega) (d + 1) _ (by omega) (hL.a ((has_0 u (by omega)).mp (by assumption)))) ⟨rfl, rfl, rfl, rfl, trivial⟩
          | exact g_fgt (ih k (by omega) (d + 1) _ (by omega) (hL.b hd (by assumption))) ⟨rfl, rfl, rfl, rfl, trivial⟩
          | exact g_fgt (ih k (by omega) (d + 1) _ (by omega) hL.c) ⟨rfl, rfl, rfl, rfl, trivial⟩
  refine g_iconst (v := 0) hX (dk DX0_lookDear 0 rfl) (by decide) ?_
  refine g_istore_3 hX (dk DX0_lookDear 1 rfl) (by decide) rfl ?_
  exact g_fgt (loop2 (cnt E) 0 I (Nat.zero_add _) ⟨fun _ _ => rfl, hDM, fun q hq => absurd hq (Nat.not_lt_zero q), fun _ _ _ _ e => e⟩) ⟨rfl, rfl, rfl, rfl, trivial⟩

