set_option maxRecDepth 8000 in
set_option maxHeartbeats 4000000 in
theorem e_stopAll {G : Gt} (hG : Gok G) {I : It} {h : Ht}  {E : It} {L : Nat → Int64} (hE : Inv E) (hZ : RZ E L I h) {u : Int32} {x : Nat} (hx : x ≤ 20000) {had kn co st ca fw fd idl : Int32} (hT : TAx I idl (had, kn, co, st, ca, fw, fd)) (hde : ∀ d, d < cnt E → gb u d = true → I 15 (d * 60 + x % 60) = dearF E d (nI x)) : Con G (5) 0 0 mX0_stopAll [.ref 13, .int u, .int (nI x)] I h (qV (fun J h2 => h2 = h ∧ TA6 J idl (csR E x (mayF E x) u (cnt E) 0 (0, kn, co, st, ca, fw, fd)) ∧ (∀ a, a ≠ 13 → J a = I a) ∧ J 13 1 = I 13 1)) := by
  refine con_intro (own := RX0) (lo0 := [some (.ref 13), some (.int u), some (.int (nI x)), none, none]) hG rfl pl_X0 (Nat.le_of_ble_eq_true rfl) rfl (fun X hX => ?_)
  have hW := hZ.1.wx hE
  have hH := hW.1
  have hc10 := (inv_cnt hE).2
  have hw9 := (inv_wk hE).2
  have loop7 : ∀ (k d : Nat) (A : WS) (J : It), d + k = cnt E → TA6 J idl A → (∀ a, a ≠ 13 → J a = I a) → J 13 1 = I 13 1 → csR E x (mayF E x) u k d A = csR E x (mayF E x) u (cnt E) 0 (0, kn, co, st, ca, fw, fd) → GG G (5) 0 0 X (qV (fun J h2 => h2 = h ∧ TA6 J idl (csR E x (mayF E x) u (cnt E) 0 (0, kn, co, st, ca, fw, fd)) ∧ (∀ a, a ≠ 13 → J a = I a) ∧ J 13 1 = I 13 1)) 7 [some (.ref 13), some (.int u), some (.int (nI x)), some (.int (nI d)), none] [] (J) (h) 0 0 := by
    intro k
    induction k using Nat.strongRecOn with | _ k ih => ?_
    intro d A J hk hA hJ hsp hv
    obtain ⟨had2, kn2, co2, st2, ca2, fw2, fd2⟩ := A
    have hS : Sc I J := Sc.of1 hJ (by decide)
    have hZJ := hZ.sc hE hS
    have hWJ := hZJ.1.wx hE
    refine g_iload_3 hX (dk DX0_stopAll 5 rfl) ?_
    refine g_aload_0 hX (dk DX0_stopAll 6 rfl) ?_
    refine g_getRs (r := 1) hX (dk DX0_stopAll 7 rfl) KX0 fX0_34 (by decide) rfl (CLt hH (q := 13) (by decide)) (CC hH 13 (by decide) rfl) (CR hH 13 0 1 (by decide)) ?_
    refine g_getIv hX (dk DX0_stopAll 8 rfl) KX5 fX0_69 (by decide) rfl (CLt hH (q := 1) (by decide)) (CC hH 1 (by decide) rfl) (hZJ.1.2.1.1.1.trans (inv_cnt hE).1) ?_
    refine g_icmp_ge (tgt := 54) hX (dk DX0_stopAll 9 rfl) (by decide) (fun hc1 => ?_) (fun hc1 => ?_)
    · refine g_return hX (dk DX0_stopAll 27 rfl) rfl (by decide) (by decide) ?_
      have hk0 := cl_end hk (by omega) hc1
      subst hk0
      exact qV_of ⟨rfl, by rw [← hv]; exact hA, hJ, hsp⟩
    · obtain ⟨k, rfl⟩ := cl_go hk (by omega) hc1
      have hd : d < cnt E := by omega
      obtain ⟨g1, g2, g3, g4, g5, g6, g7, g8, g9, g10⟩ := hZJ.1.d hd
      refine g_aload_0 hX (dk DX0_stopAll 10 rfl) ?_
      refine g_getRs (r := 1) hX (dk DX0_stopAll 11 rfl) KX0 fX0_34 (by decide) rfl (CLt hH (q := 13) (by decide)) (CC hH 13 (by decide) rfl) (CR hH 13 0 1 (by decide)) ?_
      refine g_iload_3 hX (dk DX0_stopAll 12 rfl) ?_
      refine g_c2R hX sX0_stopAll_23 (by decide) (Nat.le_of_ble_eq_true rfl) (rc0 rfl (CLt hH (by decide)) (CC hH 1 (by decide) rfl)) (by decide) (by decide) (c_X5_find hG hWJ (by rw [hZJ.1.cn]; exact hd)) ?_
      refine g_astore_4 hX (dk DX0_stopAll 14 rfl) (by decide) rfl ?_
      refine g_aload_4 hX (dk DX0_stopAll 15 rfl) ?_
      refine g_ifnullR hX (dk DX0_stopAll 16 rfl) ?_
      refine g_iload_1 hX (dk DX0_stopAll 17 rfl) ?_
      refine g_iload_3 hX (dk DX0_stopAll 18 rfl) ?_
      refine g_c2I hX sX0_stopAll_35 (by decide) (Nat.le_of_ble_eq_true rfl) rcN (by decide) (by decide) (c_X11_bit hG) ?_
      refine g_if_eq (tgt := 48) hX (dk DX0_stopAll 20 rfl) (by decide) (fun hc2 => ?_) (fun hc2 => ?_)
      · refine g_iinc_3 hX (dk DX0_stopAll 25 rfl) (nI_1 d) (by decide) rfl ?_
        refine g_goto (tgt := 7) hX (dk DX0_stopAll 26 rfl) (by decide) ?_
        first
        | exact g_fgt (ih k (by omega) (d + 1) _ J2 (by omega) q1 (fun a ha => (q2 a ha).trans (hJ a ha)) (q3.trans hsp) (by rw [← hv, csR_s, if_pos hg])) ⟨rfl, rfl, rfl, rfl, trivial⟩
        | exact g_fgt (ih k (by omega) (d + 1) _ J (by omega) hA hJ hsp (by rw [← hv, csR_s, if_neg (by rw [(has_0 u (by omega)).mp (by assumption)]; decide)])) ⟨rfl, rfl, rfl, rfl, trivial⟩
      · have hg : gb u d = true := by
          cases z : gb u d with
          | true => rfl
          | false => exact absurd ((has_0 u (by omega)).mpr z) hc2
        refine g_aload_0 hX (dk DX0_stopAll 21 rfl) ?_
        refine g_aload_4 hX (dk DX0_stopAll 22 rfl) ?_
        refine g_iload_2 hX (dk DX0_stopAll 23 rfl) ?_
        refine g_c3v hX sX0_stopAll_45 (by decide) (Nat.le_of_ble_eq_true rfl) (rc0 rfl (CLt hH (by decide)) (CC hH 13 (by decide) rfl)) (by decide) (by decide) (e_stop hG hE hZJ hd hx hA (by rw [hJ 15 (by decide)]; exact hde d hd hg)) ?_
        rintro J2 _ ⟨rfl, q1, q2, q3⟩
        refine g_iinc_3 hX (dk DX0_stopAll 25 rfl) (nI_1 d) (by decide) rfl ?_
        refine g_goto (tgt := 7) hX (dk DX0_stopAll 26 rfl) (by decide) ?_
        first
        | exact g_fgt (ih k (by omega) (d + 1) _ J2 (by omega) q1 (fun a ha => (q2 a ha).trans (hJ a ha)) (q3.trans hsp) (by rw [← hv, csR_s, if_pos hg])) ⟨rfl, rfl, rfl, rfl, trivial⟩
        | exact g_fgt (ih k (by omega) (d + 1) _ J (by omega) hA hJ hsp (by rw [← hv, csR_s, if_neg (by rw [(has_0 u (by omega)).mp (by assumption)]; decide)])) ⟨rfl, rfl, rfl, rfl, trivial⟩
  refine g_aload_0 hX (dk DX0_stopAll 0 rfl) ?_
  refine g_iconst (v := 0) hX (dk DX0_stopAll 1 rfl) (by decide) ?_
  refine g_putI hX (dk DX0_stopAll 2 rfl) KX0 fX0_140 (by decide) rfl (CLt hH (q := 13) (by decide)) (CC hH 13 (by decide) rfl) (Or.inl rfl) (rfl) (rfl) ?_
  refine g_iconst (v := 0) hX (dk DX0_stopAll 3 rfl) (by decide) ?_
  refine g_istore_3 hX (dk DX0_stopAll 4 rfl) (by decide) rfl ?_
  exact g_fgt (loop7 (cnt E) 0 _ _ (Nat.zero_add _) hT.start (fun a ha => upI_off ha) rfl rfl) ⟨rfl, rfl, rfl, rfl, trivial⟩

set_option maxRecDepth 8000 in
set_option maxHeartbeats 4000000 in
theorem e_pass {G : Gt} (hG : Gok G) {I : It} {h : Ht}  {E : It} {L : Nat → Int64} (hE : Inv E) (hZ : RZ E L I h) {a b : Int32} (ha : kb (cnt E) a) (hb : kb (cnt E) b) {m : Nat} (hm : m ≤ 200) (hsp : I 13 1 = nI m) (hAH : AH E I m) : Con G (6) 0 0 mX0_pass [.ref 13, .int a, .int b] I h (qI (fun v J h2 => v = costF E a b m ∧ TAx J b (runF E a b m) ∧ P2 I J ∧ h2 = h)) := by
  refine con_intro (own := RX0) (lo0 := [some (.ref 13), some (.int a), some (.int b), none]) hG rfl pl_X0 (Nat.le_of_ble_eq_true rfl) rfl (fun X hX => ?_)
  have hW := hZ.1.wx hE
  have hH := hW.1
  have hc10 := (inv_cnt hE).2
  have hw9 := (inv_wk hE).2
  have loop101 : ∀ (o mm : Nat) (D R : WS) (J : It), o < m → mm < 1024 → P2 I J → TAx J b D → cbF E (wk E + o) &&& b &&& D.2.1 = nI mm → R.2 = (D.2.1, D.2.2.1 + nI (onesN mm), D.2.2.2) → (∀ (J2 : It), P2 I J2 → TAx J2 b R → GG G 6 0 0 X (qI (fun v J h2 => v = costF E a b m ∧ TAx J b (runF E a b m) ∧ P2 I J ∧ h2 = h)) 39 [some (.ref 13), some (.int (a)), some (.int (b)), some (.int (nI (o + 1)))] [] J2 h 0 0) → GG G (6) 0 0 X (qI (fun v J h2 => v = costF E a b m ∧ TAx J b (runF E a b m) ∧ P2 I J ∧ h2 = h)) 101 [some (.ref 13), some (.int a), some (.int b), some (.int (nI o))] [] (J) (h) 0 0 := by
    intro o mm D R J hom hm10 hP hD emm eR kk
    obtain ⟨had3, kn3, co3, st3, ca3, fw3, fd3⟩ := D
    obtain ⟨u6, u9, u7, u10, u11, u12, u13⟩ := id hD
    refine g_aload_0 hX (dk DX0_pass_1 1 rfl) ?_
    refine g_dup hX (dk DX0_pass_1 2 rfl) rfl ?_
    refine g_getIv hX (dk DX0_pass_1 3 rfl) KX0 fX0_117 (by decide) rfl (CLt hH (q := 13) (by decide)) (CC hH 13 (by decide) rfl) (u7) ?_
    refine g_aload_0 hX (dk DX0_pass_1 4 rfl) ?_
    refine g_getRs (r := 14) hX (dk DX0_pass_1 5 rfl) KX0 fX0_9 (by decide) rfl (CLt hH (q := 13) (by decide)) (CC hH 13 (by decide) rfl) (CR hH 13 2 14 (by decide)) ?_
    refine g_iload_3 hX (dk DX0_pass_1 6 rfl) ?_
    refine v_iaload hX (dk DX0_pass_1 7 rfl) (CLt hH (q := 14) (by decide)) (CS hH 14 (by decide) rfl) (⟨rfl, by omega, by decide⟩) (((hAH.p2 hP).1 o hom)) ?_
    refine g_aload_0 hX (dk DX0_pass_1 8 rfl) ?_
    refine g_getIv hX (dk DX0_pass_1 9 rfl) KX0 fX0_114 (by decide) rfl (CLt hH (q := 13) (by decide)) (CC hH 13 (by decide) rfl) (u6) ?_
    refine g_iand hX (dk DX0_pass_1 10 rfl) ?_
    refine g_aload_0 hX (dk DX0_pass_1 11 rfl) ?_
    refine g_getIv hX (dk DX0_pass_1 12 rfl) KX0 fX0_111 (by decide) rfl (CLt hH (q := 13) (by decide)) (CC hH 13 (by decide) rfl) (u9) ?_
    refine g_iand hX (dk DX0_pass_1 13 rfl) ?_
    refine g_c1q hX sX0_pass_122 (by decide) (Nat.le_of_ble_eq_true rfl) rcN (by decide) (by decide) (c_J6_bitCount_0f7a4 hG) ?_
    rintro y I9 h9 ⟨hy, rfl, rfl⟩
    refine g_nmI (nI (onesN mm)) (hy mm hm10 emm) ?_
    refine g_iadd hX (dk DX0_pass_1 15 rfl) ?_
    refine g_putI hX (dk DX0_pass_1 16 rfl) KX0 fX0_117 (by decide) rfl (CLt hH (q := 13) (by decide)) (CC hH 13 (by decide) rfl) (Or.inl rfl) (rfl) (rfl) ?_
    refine g_iinc_3 hX (dk DX0_pass_1 17 rfl) (nI_1 o) (by decide) rfl ?_
    refine g_goto (tgt := 39) hX (dk DX0_pass_1 18 rfl) (by decide) ?_
    exact g_fgt (kk _ (hP.u13 (by decide)) (TAx.e (a := (had3, kn3, co3 + nI (onesN mm), st3, ca3, fw3, fd3)) ⟨u6, u9, rfl, u10, u11, u12, u13⟩ eR.symm)) ⟨rfl, rfl, rfl, rfl, trivial⟩
  have loop39 : ∀ (k o : Nat) (A : WS) (J : It), o + k = m → P2 I J → TAx J b A → kb (cnt E) A.2.1 → FW (10 * o) A.2.2.2.1 A.2.2.2.2.2.1 → wksF E b k (wk E + o) A = runF E a b m → GG G (6) 0 0 X (qI (fun v J h2 => v = costF E a b m ∧ TAx J b (runF E a b m) ∧ P2 I J ∧ h2 = h)) 39 [some (.ref 13), some (.int a), some (.int b), some (.int (nI o))] [] (J) (h) 0 0 := by
    intro k
    induction k using Nat.strongRecOn with | _ k ih => ?_
    intro o A J hk hP hA hkn hF hv
    obtain ⟨had2, kn2, co2, st2, ca2, fw2, fd2⟩ := A
    have hS := hP.sc
    have hZJ := hZ.sc hE hS
    have hWJ := hZJ.1.wx hE
    have hAJ := hAH.p2 hP
    obtain ⟨t6, t9, t7, t10, t11, t12, t13⟩ := id hA
    refine g_iload_3 hX (dk DX0_pass_0 23 rfl) ?_
    refine g_aload_0 hX (dk DX0_pass_0 24 rfl) ?_
    refine g_getIv hX (dk DX0_pass_0 25 rfl) KX0 fX0_47 (by decide) rfl (CLt hH (q := 13) (by decide)) (CC hH 13 (by decide) rfl) ((hP.2.trans hsp)) ?_
    refine g_icmp_ge (tgt := 135) hX (dk DX0_pass_0 26 rfl) (by decide) (fun hc1 => ?_) (fun hc1 => ?_)
    · refine g_aload_0 hX (dk DX0_pass_1 19 rfl) ?_
      refine g_getIv hX (dk DX0_pass_1 20 rfl) KX0 fX0_117 (by decide) rfl (CLt hH (q := 13) (by decide)) (CC hH 13 (by decide) rfl) (t7) ?_
      refine g_ireturn hX (dk DX0_pass_1 21 rfl) rfl (rfl) (by decide) (by decide) ?_
      have hk0 := ct_end hk (by omega) hc1
      subst hk0
      have hv2 : (had2, kn2, co2, st2, ca2, fw2, fd2) = runF E a b m := hv
      exact qI_of ⟨by unfold costF; rw [← hv2], by rw [← hv2]; exact hA, hP, rfl⟩
    · obtain ⟨k, rfl⟩ := ct_go hk (by omega) hc1
      have hom : o < m := by omega
      obtain ⟨mm, hm10, emm, ewk, hF2, hkb2⟩ := week_e hE (idl := b) (w := wk E + o) (N := 10 * o) (by omega) (by omega) (had := had2) (kn := kn2) (co := co2) (st := st2) (ca := ca2) (fw := fw2) (fd := fd2) hkn hb hF
      have hst : wksF E b (k + 1) (wk E + o) (had2, kn2, co2, st2, ca2, fw2, fd2) = wksF E b k (wk E + (o + 1)) (wkF E b (wk E + o) (had2, kn2, co2, st2, ca2, fw2, fd2)) := wksF_s E b k (wk E + o) _
      have kk := fun (J2 : It) (h1 : P2 I J2) (h2 : TAx J2 b (wkF E b (wk E + o) (had2, kn2, co2, st2, ca2, fw2, fd2))) => ih k (by omega) (o + 1) _ J2 (by omega) h1 h2 hkb2 (by rw [show 10 * (o + 1) = 10 * o + 10 by omega]; exact hF2) (by rw [← hst]; exact hv)
      refine g_aload_0 hX (dk DX0_pass_0 27 rfl) ?_
      refine g_getRs (r := 27) hX (dk DX0_pass_0 28 rfl) KX0 fX0_25 (by decide) rfl (CLt hH (q := 13) (by decide)) (CC hH 13 (by decide) rfl) (CR hH 13 5 27 (by decide)) ?_
      refine g_iload_3 hX (dk DX0_pass_0 29 rfl) ?_
      refine g_aload_0 hX (dk DX0_pass_0 30 rfl) ?_
      refine g_getRs (r := 14) hX (dk DX0_pass_0 31 rfl) KX0 fX0_9 (by decide) rfl (CLt hH (q := 13) (by decide)) (CC hH 13 (by decide) rfl) (CR hH 13 2 14 (by decide)) ?_
      refine g_iload_3 hX (dk DX0_pass_0 32 rfl) ?_
      refine v_iaload hX (dk DX0_pass_0 33 rfl) (CLt hH (q := 14) (by decide)) (CS hH 14 (by decide) rfl) (⟨rfl, by omega, by decide⟩) ((hAJ.1 o hom)) ?_
      refine g_aload_0 hX (dk DX0_pass_0 34 rfl) ?_
      refine g_getIv hX (dk DX0_pass_0 35 rfl) KX0 fX0_114 (by decide) rfl (CLt hH (q := 13) (by decide)) (CC hH 13 (by decide) rfl) (t6) ?_
      refine g_iconst (v := -1) hX (dk DX0_pass_0 36 rfl) (by decide) ?_
      refine g_ixor hX (dk DX0_pass_0 37 rfl) ?_
      refine g_iand hX (dk DX0_pass_0 38 rfl) ?_
      refine g_aload_0 hX (dk DX0_pass_0 39 rfl) ?_
      refine g_getIv hX (dk DX0_pass_0 40 rfl) KX0 fX0_111 (by decide) rfl (CLt hH (q := 13) (by decide)) (CC hH 13 (by decide) rfl) (t9) ?_
      refine g_iconst (v := -1) hX (dk DX0_pass_0 41 rfl) (by decide) ?_
      refine g_ixor hX (dk DX0_pass_0 42 rfl) ?_
      refine g_iand hX (dk DX0_pass_0 43 rfl) ?_
      refine i_iastore hX (dk DX0_pass_0 44 rfl) (CLt hH (q := 27) (by decide)) (CS hH 27 (by decide) rfl) (⟨rfl, by omega, by decide⟩) ?_
      refine g_aload_0 hX (dk DX0_pass_0 45 rfl) ?_
      refine g_getRs (r := 27) hX (dk DX0_pass_0 46 rfl) KX0 fX0_25 (by decide) rfl (CLt hH (q := 13) (by decide)) (CC hH 13 (by decide) rfl) (CR hH 13 5 27 (by decide)) ?_
      refine g_iload_3 hX (dk DX0_pass_0 47 rfl) ?_
      refine v_iaload hX (dk DX0_pass_0 48 rfl) (CLt hH (q := 27) (by decide)) (CS hH 27 (by decide) rfl) (⟨rfl, by omega, by decide⟩) ((show _ = whoF E b kn2 (wk E + o) from up0 _ _ _ _)) ?_
      refine g_if_eq (tgt := 101) hX (dk DX0_pass_0 49 rfl) (by decide) (fun hc2 => ?_) (fun hc2 => ?_)
      · first
        | exact g_fgt (loop101 o mm _ _ J2 hom hm10 (hP.u27.trans ⟨fun a z1 _ => q2 a z1, q3⟩) q1.x emm ewk kk) ⟨rfl, rfl, rfl, rfl, trivial⟩
        | (have e0 : whoF E b kn2 (wk E + o) = 0 := by assumption
           rw [e0, csR_none (cnt E) 0 _ (by omega)] at emm ewk
           exact g_fgt (loop101 o mm (0, kn2, co2, st2, ca2, fw2, fd2) _ _ hom hm10 hP.u27 (TAx.e (TAx.u27 hA) rfl) emm ewk kk) ⟨rfl, rfl, rfl, rfl, trivial⟩)
      · refine g_aload_0 hX (dk DX0_pass_0 50 rfl) ?_
        refine g_aload_0 hX (dk DX0_pass_0 51 rfl) ?_
        refine g_getRs (r := 27) hX (dk DX0_pass_0 52 rfl) KX0 fX0_25 (by decide) rfl (CLt hH (q := 13) (by decide)) (CC hH 13 (by decide) rfl) (CR hH 13 5 27 (by decide)) ?_
        refine g_iload_3 hX (dk DX0_pass_0 53 rfl) ?_
        refine v_iaload hX (dk DX0_pass_0 54 rfl) (CLt hH (q := 27) (by decide)) (CS hH 27 (by decide) rfl) (⟨rfl, by omega, by decide⟩) ((show _ = whoF E b kn2 (wk E + o) from up0 _ _ _ _)) ?_
        refine g_aload_0 hX (dk DX0_pass_0 55 rfl) ?_
        refine g_getRs (r := 1) hX (dk DX0_pass_0 56 rfl) KX0 fX0_34 (by decide) rfl (CLt hH (q := 13) (by decide)) (CC hH 13 (by decide) rfl) (CR hH 13 0 1 (by decide)) ?_
        refine g_getIv hX (dk DX0_pass_0 57 rfl) KX5 fX0_57 (by decide) rfl (CLt hH (q := 1) (by decide)) (CC hH 1 (by decide) rfl) (hZJ.1.2.1.1.2.1.trans (inv_wk hE).1) ?_
        refine g_iload_3 hX (dk DX0_pass_0 58 rfl) ?_
        refine g_iadd hX (dk DX0_pass_0 59 rfl) ?_
        refine g_nmI (nI (wk E + o)) (nI_add _ _) ?_
        refine g_c3v hX sX0_pass_98 (by decide) (Nat.le_of_ble_eq_true rfl) (rc0 rfl (CLt hH (by decide)) (CC hH 13 (by decide) rfl)) (by decide) (by decide) (e_stopAll hG hE (hZJ.sc hE (Sc.rf.up ⟨by decide, by decide⟩)) (x := wk E + o) (by omega) (TAx.u27 hA) (fun d hd hg => by rw [upI_off (by decide)]; exact hAJ.d hE hom hm hd hg)) ?_
        rintro J2 _ ⟨rfl, q1, q2, q3⟩
        first
        | exact g_fgt (loop101 o mm _ _ J2 hom hm10 (hP.u27.trans ⟨fun a z1 _ => q2 a z1, q3⟩) q1.x emm ewk kk) ⟨rfl, rfl, rfl, rfl, trivial⟩
        | (have e0 : whoF E b kn2 (wk E + o) = 0 := by assumption
           rw [e0, csR_none (cnt E) 0 _ (by omega)] at emm ewk
           exact g_fgt (loop101 o mm (0, kn2, co2, st2, ca2, fw2, fd2) _ _ hom hm10 hP.u27 (TAx.e (TAx.u27 hA) rfl) emm ewk kk) ⟨rfl, rfl, rfl, rfl, trivial⟩)
  refine g_aload_0 hX (dk DX0_pass_0 0 rfl) ?_
  refine g_iload_1 hX (dk DX0_pass_0 1 rfl) ?_
  refine g_putI hX (dk DX0_pass_0 2 rfl) KX0 fX0_111 (by decide) rfl (CLt hH (q := 13) (by decide)) (CC hH 13 (by decide) rfl) (Or.inl rfl) (rfl) (rfl) ?_
  refine g_aload_0 hX (dk DX0_pass_0 3 rfl) ?_
  refine g_iload_2 hX (dk DX0_pass_0 4 rfl) ?_
  refine g_putI hX (dk DX0_pass_0 5 rfl) KX0 fX0_114 (by decide) rfl (CLt hH (q := 13) (by decide)) (CC hH 13 (by decide) rfl) (Or.inl rfl) (rfl) (rfl) ?_
  refine g_aload_0 hX (dk DX0_pass_0 6 rfl) ?_
  refine g_iconst (v := 0) hX (dk DX0_pass_0 7 rfl) (by decide) ?_
  refine g_putI hX (dk DX0_pass_0 8 rfl) KX0 fX0_117 (by decide) rfl (CLt hH (q := 13) (by decide)) (CC hH 13 (by decide) rfl) (Or.inl rfl) (rfl) (rfl) ?_
  refine g_aload_0 hX (dk DX0_pass_0 9 rfl) ?_
  refine g_iconst (v := 0) hX (dk DX0_pass_0 10 rfl) (by decide) ?_
  refine g_putI hX (dk DX0_pass_0 11 rfl) KX0 fX0_120 (by decide) rfl (CLt hH (q := 13) (by decide)) (CC hH 13 (by decide) rfl) (Or.inl rfl) (rfl) (rfl) ?_
  refine g_aload_0 hX (dk DX0_pass_0 12 rfl) ?_
  refine g_iconst (v := 0) hX (dk DX0_pass_0 13 rfl) (by decide) ?_
  refine g_putI hX (dk DX0_pass_0 14 rfl) KX0 fX0_123 (by decide) rfl (CLt hH (q := 13) (by decide)) (CC hH 13 (by decide) rfl) (Or.inl rfl) (rfl) (rfl) ?_
  refine g_aload_0 hX (dk DX0_pass_0 15 rfl) ?_
  refine g_bipush (v := -5) hX (dk DX0_pass_0 16 rfl) (by decide) ?_
  refine g_putI hX (dk DX0_pass_0 17 rfl) KX0 fX0_126 (by decide) rfl (CLt hH (q := 13) (by decide)) (CC hH 13 (by decide) rfl) (Or.inl rfl) (rfl) (rfl) ?_
  refine g_aload_0 hX (dk DX0_pass_0 18 rfl) ?_
  refine g_bipush (v := -5) hX (dk DX0_pass_0 19 rfl) (by decide) ?_
  refine g_putI hX (dk DX0_pass_0 20 rfl) KX0 fX0_129 (by decide) rfl (CLt hH (q := 13) (by decide)) (CC hH 13 (by decide) rfl) (Or.inl rfl) (rfl) (rfl) ?_
  refine g_iconst (v := 0) hX (dk DX0_pass_0 21 rfl) (by decide) ?_
  refine g_istore_3 hX (dk DX0_pass_0 22 rfl) (by decide) rfl ?_
  exact g_fgt (loop39 m 0 (0, a, 0, 0, 0, -5, -5) _ (Nat.zero_add _) (((((((P2.rf.u13 (by decide)).u13 (by decide)).u13 (by decide)).u13 (by decide)).u13 (by decide)).u13 (by decide)).u13 (by decide)) ⟨rfl, rfl, rfl, rfl, rfl, rfl, rfl⟩ ha ⟨0, Nat.zero_le _, rfl, (show ((0 : Nat) = 0 ↔ (-5 : Int32) < 0) by decide)⟩ rfl) ⟨rfl, rfl, rfl, rfl, trivial⟩

