set_option maxRecDepth 8000 in
set_option maxHeartbeats 4000000 in
theorem zx_looked {G : Gt} (hG : Gok G) {I : It} {h : Ht}  {E : It} {L : Nat → Int64} (hE : Inv E) (hZ : RZ E L I h)  : Con G (8) 0 0 mX11_looked [.ref 0] I h (qWZ E L (hn h)) := by
  refine con_intro (own := RX11) (lo0 := [some (.ref 0)]) hG rfl pl_X11 (Nat.le_of_ble_eq_true rfl) rfl (fun X hX => ?_)
  have hY := hZ.1
  have hW := hY.wx hE
  have hH := hW.1
  have hc10 := hW.2.1.2
  have hcE := (inv_cnt hE).2
  refine g_aload_0 hX (dk DX11_looked 0 rfl) ?_
  refine g_getRs (r := 13) hX (dk DX11_looked 1 rfl) KX11 fX11_26 (by decide) rfl (CLt hH (q := 0) (by decide)) (CC hH 0 (by decide) rfl) (CR hH 0 3 13 (by decide)) ?_
  refine g_aload_0 hX (dk DX11_looked 2 rfl) ?_
  refine g_getRs (r := 1) hX (dk DX11_looked 3 rfl) KX11 fX11_12 (by decide) rfl (CLt hH (q := 0) (by decide)) (CC hH 0 (by decide) rfl) (CR hH 0 0 1 (by decide)) ?_
  refine g_c1q hX sX11_looked_8 (by decide) (Nat.le_of_ble_eq_true rfl) (rc0 rfl (CLt hH (by decide)) (CC hH 1 (by decide) rfl)) (by decide) (by decide) (c_X5_weeksToRows hG hW) ?_
  rintro _ _ _ ⟨rfl, rfl⟩
  refine g_c2v hX sX11_looked_11 (by decide) (Nat.le_of_ble_eq_true rfl) (rc0 rfl (CLt hH (by decide)) (CC hH 13 (by decide) rfl)) (by decide) (by decide) (w_X0_look hG hW) ?_
  rintro J _ ⟨hS, rfl, m, hm, hsp⟩
  have hW2 := hW.sc hS
  refine g_aload_0 hX (dk DX11_looked 6 rfl) ?_
  refine g_getRs (r := 13) hX (dk DX11_looked 7 rfl) KX11 fX11_26 (by decide) rfl (CLt hH (q := 0) (by decide)) (CC hH 0 (by decide) rfl) (CR hH 0 3 13 (by decide)) ?_
  refine g_aload_0 hX (dk DX11_looked 8 rfl) ?_
  refine g_getRs (r := 1) hX (dk DX11_looked 9 rfl) KX11 fX11_12 (by decide) rfl (CLt hH (q := 0) (by decide)) (CC hH 0 (by decide) rfl) (CR hH 0 0 1 (by decide)) ?_
  refine g_getI hX (dk DX11_looked 10 rfl) KX5 fX11_116 (by decide) rfl (CLt hH (q := 1) (by decide)) (CC hH 1 (by decide) rfl) ?_
  refine g_aload_0 hX (dk DX11_looked 11 rfl) ?_
  refine g_getRs (r := 1) hX (dk DX11_looked 12 rfl) KX11 fX11_12 (by decide) rfl (CLt hH (q := 0) (by decide)) (CC hH 0 (by decide) rfl) (CR hH 0 0 1 (by decide)) ?_
  refine g_getI hX (dk DX11_looked 13 rfl) KX5 fX11_109 (by decide) rfl (CLt hH (q := 1) (by decide)) (CC hH 1 (by decide) rfl) ?_
  refine g_c3q hX sX11_looked_32 (by decide) (Nat.le_of_ble_eq_true rfl) (rc0 rfl (CLt hH (by decide)) (CC hH 13 (by decide) rfl)) (by decide) (by decide) (w_X0_pass hG hW2 hm hsp) ?_
  rintro _ J2 _ ⟨hP2, rfl⟩
  have hS2 := hS.trans hP2.sc
  have hsp2 := hP2.2.trans hsp
  refine g_pop hX (dk DX11_looked 15 rfl) rfl ?_
  refine g_aload_0 hX (dk DX11_looked 16 rfl) ?_
  refine g_getRs (r := 13) hX (dk DX11_looked 17 rfl) KX11 fX11_26 (by decide) rfl (CLt hH (q := 0) (by decide)) (CC hH 0 (by decide) rfl) (CR hH 0 3 13 (by decide)) ?_
  refine g_c1q hX sX11_looked_40 (by decide) (Nat.le_of_ble_eq_true rfl) (rc0 rfl (CLt hH (by decide)) (CC hH 13 (by decide) rfl)) (by decide) (by decide) (w_X0_firstRowNotSo hG (hW.sc hS2) hm hsp2) ?_
  rintro _ _ _ ⟨rfl, rfl⟩
  refine g_ireturn hX (dk DX11_looked 19 rfl) rfl (rfl) (by decide) (by decide) ?_
  exact qWZ_of (hZ.sc hE hS2)

set_option maxRecDepth 8000 in
set_option maxHeartbeats 4000000 in
theorem zx_fits {G : Gt} (hG : Gok G) {I : It} {h : Ht}  {E : It} {L : Nat → Int64} (hE : Inv E) (hZ : RZ E L I h)  : Con G (8) 0 0 mX11_fits [.ref 0] I h (qWZ E L (hn h)) := by
  refine con_intro (own := RX11) (lo0 := [some (.ref 0), none, none]) hG rfl pl_X11 (Nat.le_of_ble_eq_true rfl) rfl (fun X hX => ?_)
  have hY := hZ.1
  have hW := hY.wx hE
  have hH := hW.1
  have hc10 := hW.2.1.2
  have hcE := (inv_cnt hE).2
  have loop33 : ∀ m, m ≤ 200 → cN I ≤ 8 → ∀ (k s : Nat) (f : Int32) (J : It), s + k = 2 ^ cN I → Sc I J → J 13 1 = nI m → GG G (8) 0 0 X (qWZ E L (hn h)) 33 [some (.ref 0), some (.int f), some (.int (nI s))] [] (J) (h) 0 0 := by
    intro m hm hc8 k
    induction k using Nat.strongRecOn with | _ k ih => ?_
    intro s f J hk hS hsp
    have h256 := p256 hc8
    have hWJ := hW.sc hS
    refine g_iload_2 hX (dk DX11_fits 17 rfl) ?_
    refine g_aload_0 hX (dk DX11_fits 18 rfl) ?_
    refine g_getRs (r := 1) hX (dk DX11_fits 19 rfl) KX11 fX11_12 (by decide) rfl (CLt hH (q := 0) (by decide)) (CC hH 0 (by decide) rfl) (CR hH 0 0 1 (by decide)) ?_
    refine g_c1I hX sX11_fits_38 (by decide) (Nat.le_of_ble_eq_true rfl) (rc0 rfl (CLt hH (by decide)) (CC hH 1 (by decide) rfl)) (by decide) (by decide) (c_X5_everyDoing hG hWJ) ?_
    refine g_nmI (nI (2 ^ cN I - 1)) (ev_e ((congrFun (hS 1 (by omega)) 2).trans hW.2.1.1) hc8) ?_
    refine g_icmp_gt (tgt := 81) hX (dk DX11_fits 21 rfl) (by decide) (fun hc1 => ?_) (fun hc1 => ?_)
    · refine g_iload_1 hX (dk DX11_fits 38 rfl) ?_
      refine g_ireturn hX (dk DX11_fits 39 rfl) rfl (rfl) (by decide) (by decide) ?_
      exact qWZ_of (hZ.sc hE hS)
    · have hlt := s_go hc8 (by omega) hc1
      obtain ⟨k, rfl⟩ : ∃ z, k = z + 1 := ⟨k - 1, by omega⟩
      refine g_aload_0 hX (dk DX11_fits 22 rfl) ?_
      refine g_getRs (r := 13) hX (dk DX11_fits 23 rfl) KX11 fX11_26 (by decide) rfl (CLt hH (q := 0) (by decide)) (CC hH 0 (by decide) rfl) (CR hH 0 3 13 (by decide)) ?_
      refine g_iload_2 hX (dk DX11_fits 24 rfl) ?_
      refine g_aload_0 hX (dk DX11_fits 25 rfl) ?_
      refine g_getRs (r := 1) hX (dk DX11_fits 26 rfl) KX11 fX11_12 (by decide) rfl (CLt hH (q := 0) (by decide)) (CC hH 0 (by decide) rfl) (CR hH 0 0 1 (by decide)) ?_
      refine g_getI hX (dk DX11_fits 27 rfl) KX5 fX11_109 (by decide) rfl (CLt hH (q := 1) (by decide)) (CC hH 1 (by decide) rfl) ?_
      refine g_c3q hX sX11_fits_56 (by decide) (Nat.le_of_ble_eq_true rfl) (rc0 rfl (CLt hH (by decide)) (CC hH 13 (by decide) rfl)) (by decide) (by decide) (w_X0_pass hG hWJ hm hsp) ?_
      rintro _ J2 _ ⟨hP2, rfl⟩
      refine g_pop hX (dk DX11_fits 29 rfl) rfl ?_
      refine g_aload_0 hX (dk DX11_fits 30 rfl) ?_
      refine g_getRs (r := 13) hX (dk DX11_fits 31 rfl) KX11 fX11_26 (by decide) rfl (CLt hH (q := 0) (by decide)) (CC hH 0 (by decide) rfl) (CR hH 0 3 13 (by decide)) ?_
      refine g_c1q hX sX11_fits_64 (by decide) (Nat.le_of_ble_eq_true rfl) (rc0 rfl (CLt hH (by decide)) (CC hH 13 (by decide) rfl)) (by decide) (by decide) (w_X0_firstRowNotSo hG (hWJ.sc hP2.sc) hm (hP2.2.trans hsp)) ?_
      rintro _ _ _ ⟨rfl, rfl⟩
      refine g_bipush (v := -5) hX (dk DX11_fits 33 rfl) (by decide) ?_
      refine g_icmp_ne (tgt := 75) hX (dk DX11_fits 34 rfl) (by decide) (fun hc2 => ?_) (fun hc2 => ?_)
      · refine g_iinc_2 hX (dk DX11_fits 36 rfl) (nI_1 s) (by decide) rfl ?_
        refine g_goto (tgt := 33) hX (dk DX11_fits 37 rfl) (by decide) ?_
        exact g_fgt (ih k (by omega) (s + 1) _ _ (by omega) (hS.trans hP2.sc) (hP2.2.trans hsp)) ⟨rfl, rfl, rfl, trivial⟩
      · refine g_iinc_1 hX (dk DX11_fits 35 rfl) (rfl) (by decide) rfl ?_
        refine g_iinc_2 hX (dk DX11_fits 36 rfl) (nI_1 s) (by decide) rfl ?_
        refine g_goto (tgt := 33) hX (dk DX11_fits 37 rfl) (by decide) ?_
        exact g_fgt (ih k (by omega) (s + 1) _ _ (by omega) (hS.trans hP2.sc) (hP2.2.trans hsp)) ⟨rfl, rfl, rfl, trivial⟩
  refine g_aload_0 hX (dk DX11_fits 0 rfl) ?_
  refine g_getRs (r := 1) hX (dk DX11_fits 1 rfl) KX11 fX11_12 (by decide) rfl (CLt hH (q := 0) (by decide)) (CC hH 0 (by decide) rfl) (CR hH 0 0 1 (by decide)) ?_
  refine g_getIv hX (dk DX11_fits 2 rfl) KX5 fX11_72 (by decide) rfl (CLt hH (q := 1) (by decide)) (CC hH 1 (by decide) rfl) (hW.2.1.1) ?_
  refine g_bipush (v := 8) hX (dk DX11_fits 3 rfl) (by decide) ?_
  refine g_icmp_le (tgt := 15) hX (dk DX11_fits 4 rfl) (by decide) (fun hc1 => ?_) (fun hc1 => ?_)
  · have hc8 : cN I ≤ 8 := (nI_leI (by omega) (by decide)).mp hc1
    refine g_aload_0 hX (dk DX11_fits 7 rfl) ?_
    refine g_getRs (r := 13) hX (dk DX11_fits 8 rfl) KX11 fX11_26 (by decide) rfl (CLt hH (q := 0) (by decide)) (CC hH 0 (by decide) rfl) (CR hH 0 3 13 (by decide)) ?_
    refine g_aload_0 hX (dk DX11_fits 9 rfl) ?_
    refine g_getRs (r := 1) hX (dk DX11_fits 10 rfl) KX11 fX11_12 (by decide) rfl (CLt hH (q := 0) (by decide)) (CC hH 0 (by decide) rfl) (CR hH 0 0 1 (by decide)) ?_
    refine g_c1q hX sX11_fits_23 (by decide) (Nat.le_of_ble_eq_true rfl) (rc0 rfl (CLt hH (by decide)) (CC hH 1 (by decide) rfl)) (by decide) (by decide) (c_X5_weeksToRows hG hW) ?_
    rintro _ _ _ ⟨rfl, rfl⟩
    refine g_c2v hX sX11_fits_26 (by decide) (Nat.le_of_ble_eq_true rfl) (rc0 rfl (CLt hH (by decide)) (CC hH 13 (by decide) rfl)) (by decide) (by decide) (w_X0_look hG hW) ?_
    rintro J _ ⟨hS, rfl, m, hm, hsp⟩
    have hW2 := hW.sc hS
    refine g_iconst (v := 0) hX (dk DX11_fits 13 rfl) (by decide) ?_
    refine g_istore_1 hX (dk DX11_fits 14 rfl) (by decide) rfl ?_
    refine g_iconst (v := 0) hX (dk DX11_fits 15 rfl) (by decide) ?_
    refine g_istore_2 hX (dk DX11_fits 16 rfl) (by decide) rfl ?_
    exact g_fgt (loop33 m hm hc8 _ 0 0 J (Nat.zero_add _) hS hsp) ⟨rfl, rfl, rfl, trivial⟩
  · refine g_bipush (v := -9) hX (dk DX11_fits 5 rfl) (by decide) ?_
    refine g_ireturn hX (dk DX11_fits 6 rfl) rfl (rfl) (by decide) (by decide) ?_
    exact qWZ_of hZ

