set_option maxRecDepth 8000 in
set_option maxHeartbeats 4000000 in
theorem e_look {G : Gt} (hG : Gok G) {I : It} {h : Ht}  {E : It} {L : Nat → Int64} (hE : Inv E) (hZ : RZ E L I h) {m : Nat} (hm : m ≤ 200) : Con G (7) 0 0 mX0_look [.ref 13, .int (nI m)] I h (qV (fun J h2 => Sc I J ∧ J 13 1 = nI m ∧ AH E J m ∧ h2 = h)) := by
  refine con_intro (own := RX0) (lo0 := [some (.ref 13), some (.int (nI m)), none]) hG rfl pl_X0 (Nat.le_of_ble_eq_true rfl) rfl (fun X hX => ?_)
  have hW := hZ.1.wx hE
  have hH := hW.1
  have hc10 := (inv_cnt hE).2
  have hw9 := (inv_wk hE).2
  have loop25 : ∀ (k o : Nat) (J : It), o + k = m → Sc I J → J 13 1 = nI m → DM E J → AH E J o → GG G (7) 0 0 X (qV (fun J h2 => Sc I J ∧ J 13 1 = nI m ∧ AH E J m ∧ h2 = h)) 25 [some (.ref 13), some (.int (nI m)), some (.int (nI o))] [] (J) (h) 0 0 := by
    intro k
    induction k using Nat.strongRecOn with | _ k ih => ?_
    intro o J hk hS hsp hDM hA
    have hZJ := hZ.sc hE hS
    have hWJ := hZJ.1.wx hE
    refine g_iload_2 hX (dk DX0_look 13 rfl) ?_
    refine g_aload_0 hX (dk DX0_look 14 rfl) ?_
    refine g_getIv hX (dk DX0_look 15 rfl) KX0 fX0_47 (by decide) rfl (CLt hH (q := 13) (by decide)) (CC hH 13 (by decide) rfl) (hsp) ?_
    refine g_icmp_ge (tgt := 80) hX (dk DX0_look 16 rfl) (by decide) (fun hc1 => ?_) (fun hc1 => ?_)
    · refine g_return hX (dk DX0_look 42 rfl) rfl (by decide) (by decide) ?_
      have hk0 := ct_end hk (by omega) hc1
      subst hk0
      exact qV_of ⟨hS, hsp, by rw [show m = o by omega]; exact hA, rfl⟩
    · obtain ⟨k, rfl⟩ := ct_go hk (by omega) hc1
      refine g_aload_0 hX (dk DX0_look 17 rfl) ?_
      refine g_getRs (r := 14) hX (dk DX0_look 18 rfl) KX0 fX0_9 (by decide) rfl (CLt hH (q := 13) (by decide)) (CC hH 13 (by decide) rfl) (CR hH 13 2 14 (by decide)) ?_
      refine g_iload_2 hX (dk DX0_look 19 rfl) ?_
      refine g_aload_0 hX (dk DX0_look 20 rfl) ?_
      refine g_getRs (r := 1) hX (dk DX0_look 21 rfl) KX0 fX0_34 (by decide) rfl (CLt hH (q := 13) (by decide)) (CC hH 13 (by decide) rfl) (CR hH 13 0 1 (by decide)) ?_
      refine g_aload_0 hX (dk DX0_look 22 rfl) ?_
      refine g_getRs (r := 1) hX (dk DX0_look 23 rfl) KX0 fX0_34 (by decide) rfl (CLt hH (q := 13) (by decide)) (CC hH 13 (by decide) rfl) (CR hH 13 0 1 (by decide)) ?_
      refine g_getIv hX (dk DX0_look 24 rfl) KX5 fX0_57 (by decide) rfl (CLt hH (q := 1) (by decide)) (CC hH 1 (by decide) rfl) (hZJ.1.2.1.1.2.1.trans (inv_wk hE).1) ?_
      refine g_iload_2 hX (dk DX0_look 25 rfl) ?_
      refine g_iadd hX (dk DX0_look 26 rfl) ?_
      refine g_nmI (nI (wk E + o)) (nI_add _ _) ?_
      refine g_c2I hX sX0_look_51 (by decide) (Nat.le_of_ble_eq_true rfl) (rc0 rfl (CLt hH (by decide)) (CC hH 1 (by decide) rfl)) (by decide) (by decide) (c_X5_coming hG hWJ) ?_
      refine g_nmI (cbF E (wk E + o)) (cb_m hE hZJ.1 (by omega)) ?_
      refine i_iastore hX (dk DX0_look 28 rfl) (CLt hH (q := 14) (by decide)) (CS hH 14 (by decide) rfl) (⟨rfl, by omega, by decide⟩) ?_
      refine g_aload_0 hX (dk DX0_look 29 rfl) ?_
      refine g_aload_0 hX (dk DX0_look 30 rfl) ?_
      refine g_getRs (r := 14) hX (dk DX0_look 31 rfl) KX0 fX0_9 (by decide) rfl (CLt hH (q := 13) (by decide)) (CC hH 13 (by decide) rfl) (CR hH 13 2 14 (by decide)) ?_
      refine g_iload_2 hX (dk DX0_look 32 rfl) ?_
      refine v_iaload hX (dk DX0_look 33 rfl) (CLt hH (q := 14) (by decide)) (CS hH 14 (by decide) rfl) (⟨rfl, by omega, by decide⟩) (up0 _ _ _ _) ?_
      refine g_aload_0 hX (dk DX0_look 34 rfl) ?_
      refine g_getRs (r := 1) hX (dk DX0_look 35 rfl) KX0 fX0_34 (by decide) rfl (CLt hH (q := 13) (by decide)) (CC hH 13 (by decide) rfl) (CR hH 13 0 1 (by decide)) ?_
      refine g_getIv hX (dk DX0_look 36 rfl) KX5 fX0_57 (by decide) rfl (CLt hH (q := 1) (by decide)) (CC hH 1 (by decide) rfl) ((show _ = nI (wk E) from hZJ.1.2.1.1.2.1.trans (inv_wk hE).1)) ?_
      refine g_iload_2 hX (dk DX0_look 37 rfl) ?_
      refine g_iadd hX (dk DX0_look 38 rfl) ?_
      refine g_nmI (nI (wk E + o)) (nI_add _ _) ?_
      refine g_c3v hX sX0_look_71 (by decide) (Nat.le_of_ble_eq_true rfl) (rc0 rfl (CLt hH (by decide)) (CC hH 13 (by decide) rfl)) (by decide) (by decide) (e_lookDear hG hE (hZJ.sc hE (Sc.rf.up (q := 14) (j := o) ⟨by decide, by decide⟩)) (x := wk E + o) (by omega) (hDM.o (upI_off (by decide)))) ?_
      rintro J3 _ ⟨hL, rfl⟩
      refine g_iinc_2 hX (dk DX0_look 40 rfl) (nI_1 o) (by decide) rfl ?_
      refine g_goto (tgt := 25) hX (dk DX0_look 41 rfl) (by decide) ?_
      exact g_fgt (ih k (by omega) (o + 1) J3 (by omega) (hS.trans ((Sc.rf.up ⟨by decide, by decide⟩).trans (Sc.of1 hL.1 ⟨by decide, by decide⟩))) (by rw [hL.1 13 (by decide), upI_off (by decide)]; exact hsp) hL.2.1 (hA.s hE rfl hL)) ⟨rfl, rfl, rfl, trivial⟩
  refine g_aload_0 hX (dk DX0_look 0 rfl) ?_
  refine g_iconst (v := 0) hX (dk DX0_look 1 rfl) (by decide) ?_
  refine g_iload_1 hX (dk DX0_look 2 rfl) ?_
  refine g_sipush (v := 200) hX (dk DX0_look 3 rfl) (by decide) ?_
  refine g_c2I hX sX0_look_6 (by decide) (Nat.le_of_ble_eq_true rfl) rcN (by decide) (by decide) (c_J9_min_7cf53 hG) ?_
  refine g_nmI (nI m) (if_neg (Int32.not_lt.mpr (nI_le (b := 200) hm (by decide)))) ?_
  refine g_c2I hX sX0_look_9 (by decide) (Nat.le_of_ble_eq_true rfl) rcN (by decide) (by decide) (c_J9_max_7cf53 hG) ?_
  refine g_nmI (nI m) (by
    by_cases z : (0 : Int32) < nI m
    · exact if_pos z
    · rw [if_neg z]; exact Int32.le_antisymm (nI_pos' (by omega)) (Int32.not_lt.mp z)) ?_
  refine g_putI hX (dk DX0_look 6 rfl) KX0 fX0_47 (by decide) rfl (CLt hH (q := 13) (by decide)) (CC hH 13 (by decide) rfl) (Or.inl rfl) (rfl) (rfl) ?_
  refine g_aload_0 hX (dk DX0_look 7 rfl) ?_
  refine g_getRs (r := 15) hX (dk DX0_look 8 rfl) KX0 fX0_17 (by decide) rfl (CLt hH (q := 13) (by decide)) (CC hH 13 (by decide) rfl) (CR hH 13 3 15 (by decide)) ?_
  refine g_iconst (v := -1) hX (dk DX0_look 9 rfl) (by decide) ?_
  refine g_c2v hX sX0_look_20 (by decide) (Nat.le_of_ble_eq_true rfl) rcN (by decide) (by decide) (c_J7_fill_53178 hG (len := 600) (CLt hH (q := 15) (by decide)) (CS hH 15 (by decide) rfl) (by decide)) ?_
  rintro J2 _ ⟨hf1, hf2, hf3, rfl⟩
  have hS2 : Sc I J2 := (Sc.rf.up ⟨by decide, by decide⟩).trans (Sc.of1 hf3 ⟨by decide, by decide⟩)
  have hsp2 : J2 13 1 = nI m := by rw [hf3 13 (by decide), up0]
  refine g_iconst (v := 0) hX (dk DX0_look 11 rfl) (by decide) ?_
  refine g_istore_2 hX (dk DX0_look 12 rfl) (by decide) rfl ?_
  exact g_fgt (loop25 m 0 J2 (Nat.zero_add _) hS2 hsp2 (fun d hd r hr => Or.inl (hf1 _ (by omega))) (AH.z E J2)) ⟨rfl, rfl, rfl, trivial⟩

set_option maxRecDepth 8000 in
set_option maxHeartbeats 4000000 in
theorem e_hearOf {G : Gt} (hG : Gok G) {I : It} {h : Ht}  {E : It} {L : Nat → Int64} (hE : Inv E) (hZ : RZ E L I h) {d : Nat} (hd : d < cnt E) : Con G (6) 0 0 mX0_hearOf [.ref 13, .ref (dn h d)] I h (qV (fun J h2 => (∀ a, a ≠ 17 + d → J a = I a) ∧ (∀ y, y < 4 → J (17 + d) y = sayF E d (nI y)) ∧ h2 = h)) := by
  refine con_intro (own := RX0) (lo0 := [some (.ref 13), some (.ref (dn h d)), none]) hG rfl pl_X0 (Nat.le_of_ble_eq_true rfl) rfl (fun X hX => ?_)
  have hW := hZ.1.wx hE
  have hH := hW.1
  have hc10 := (inv_cnt hE).2
  have hw9 := (inv_wk hE).2
  have loop2 : ∀ (k y : Nat) (J : It), y + k = 4 → (∀ a, a ≠ 17 + d → J a = I a) → (∀ z, z < y → J (17 + d) z = sayF E d (nI z)) → GG G (6) 0 0 X (qV (fun J h2 => (∀ a, a ≠ 17 + d → J a = I a) ∧ (∀ y, y < 4 → J (17 + d) y = sayF E d (nI y)) ∧ h2 = h)) 2 [some (.ref 13), some (.ref (dn h d)), some (.int (nI y))] [] (J) (h) 0 0 := by
    intro k
    induction k using Nat.strongRecOn with | _ k ih => ?_
    intro y J hk hf hs
    have hS : Sc I J := Sc.of1 hf ⟨by omega, by omega⟩
    have hZJ := hZ.sc hE hS
    have hWJ := hZJ.1.wx hE
    obtain ⟨g1, g2, g3, g4, g5, g6, g7, g8, g9, g10⟩ := hZJ.1.d hd
    refine g_iload_2 hX (dk DX0_hearOf 2 rfl) ?_
    refine g_iconst (v := 4) hX (dk DX0_hearOf 3 rfl) (by decide) ?_
    refine g_icmp_ge (tgt := 33) hX (dk DX0_hearOf 4 rfl) (by decide) (fun hc1 => ?_) (fun hc1 => ?_)
    · refine g_return hX (dk DX0_hearOf 19 rfl) rfl (by decide) (by decide) ?_
      have hk0 := cl_end (e := 4) hk (by decide) hc1
      subst hk0
      exact qV_of ⟨hf, fun y hy => hs y (by omega), rfl⟩
    · obtain ⟨k, rfl⟩ := cl_go (e := 4) hk (by decide) hc1
      refine g_aload_0 hX (dk DX0_hearOf 5 rfl) ?_
      refine g_getRs (r := 16) hX (dk DX0_hearOf 6 rfl) KX0 fX0_22 (by decide) rfl (CLt hH (q := 13) (by decide)) (CC hH 13 (by decide) rfl) (CR hH 13 4 16 (by decide)) ?_
      refine g_aload_1 hX (dk DX0_hearOf 7 rfl) ?_
      refine g_getD (v := (nI d)) hX (dk DX0_hearOf 8 rfl) fX0_93 (by decide) g3 (by rw [g4]; exact kcl_dc _) (g5) ?_
      refine i_aaload (i0 := 6) hX (dk DX0_hearOf 9 rfl) (CLt hH (q := 16) (by decide)) (CS hH 16 (by decide) rfl) (by decide) rfl rfl (⟨rfl, by omega, by decide⟩) (SR hH (by omega)) ?_
      refine g_iload_2 hX (dk DX0_hearOf 10 rfl) ?_
      refine g_aload_0 hX (dk DX0_hearOf 11 rfl) ?_
      refine g_getRs (r := 1) hX (dk DX0_hearOf 12 rfl) KX0 fX0_34 (by decide) rfl (CLt hH (q := 13) (by decide)) (CC hH 13 (by decide) rfl) (CR hH 13 0 1 (by decide)) ?_
      refine g_aload_1 hX (dk DX0_hearOf 13 rfl) ?_
      refine g_iload_2 hX (dk DX0_hearOf 14 rfl) ?_
      refine g_c3I hX sX0_hearOf_23 (by decide) (Nat.le_of_ble_eq_true rfl) (rc0 rfl (CLt hH (by decide)) (CC hH 1 (by decide) rfl)) (by decide) (by decide) (c_X5_saidBy hG hWJ g3 (by rw [g4]; exact kcl_dc _)) ?_
      refine g_nmI (sayF E d (nI y)) (say_e hE hZJ hd) ?_
      refine i_iastore hX (dk DX0_hearOf 16 rfl) (SL hH (by omega)) (SA hH (by omega)) (⟨rfl, by omega, by decide⟩) ?_
      refine g_iinc_2 hX (dk DX0_hearOf 17 rfl) (nI_1 y) (by decide) rfl ?_
      refine g_goto (tgt := 2) hX (dk DX0_hearOf 18 rfl) (by decide) ?_
      exact g_fgt (ih k (by omega) (y + 1) _ (by omega) (fun a ha => (upI_off ha).trans (hf a ha)) (fun z hz => by
        by_cases e : z = y
        · subst e; exact up0 _ _ _ _
        · rw [upn (fun q => e q.2)]; exact hs z (by omega))) ⟨rfl, rfl, rfl, trivial⟩
  refine g_iconst (v := 0) hX (dk DX0_hearOf 0 rfl) (by decide) ?_
  refine g_istore_2 hX (dk DX0_hearOf 1 rfl) (by decide) rfl ?_
  exact g_fgt (loop2 4 0 I (Nat.zero_add _) (fun _ _ => rfl) (fun y hy => absurd hy (Nat.not_lt_zero y))) ⟨rfl, rfl, rfl, trivial⟩

set_option maxRecDepth 8000 in
set_option maxHeartbeats 4000000 in
theorem e_hear {G : Gt} (hG : Gok G) {I : It} {h : Ht}  {E : It} {L : Nat → Int64} (hE : Inv E) (hZ : RZ E L I h)  : Con G (7) 0 0 mX0_hear [.ref 13] I h (qV (fun J h2 => (∀ a, ¬ (17 ≤ a ∧ a < 27) → J a = I a) ∧ HD E J ∧ h2 = h)) := by
  refine con_intro (own := RX0) (lo0 := [some (.ref 13), none, none]) hG rfl pl_X0 (Nat.le_of_ble_eq_true rfl) rfl (fun X hX => ?_)
  have hW := hZ.1.wx hE
  have hH := hW.1
  have hc10 := (inv_cnt hE).2
  have hw9 := (inv_wk hE).2
  have loop2 : ∀ (k d : Nat) (J : It), d + k = cnt E → (∀ a, ¬ (17 ≤ a ∧ a < 27) → J a = I a) → (∀ q, q < d → ∀ y, y < 4 → J (17 + q) y = sayF E q (nI y)) → GG G (7) 0 0 X (qV (fun J h2 => (∀ a, ¬ (17 ≤ a ∧ a < 27) → J a = I a) ∧ HD E J ∧ h2 = h)) 2 [some (.ref 13), some (.int (nI d)), none] [] (J) (h) 0 0 := by
    intro k
    induction k using Nat.strongRecOn with | _ k ih => ?_
    intro d J hk hf hs
    have hS : Sc I J := fun a ha => hf a (by omega)
    have hZJ := hZ.sc hE hS
    have hWJ := hZJ.1.wx hE
    refine g_iload_1 hX (dk DX0_hear 2 rfl) ?_
    refine g_aload_0 hX (dk DX0_hear 3 rfl) ?_
    refine g_getRs (r := 1) hX (dk DX0_hear 4 rfl) KX0 fX0_34 (by decide) rfl (CLt hH (q := 13) (by decide)) (CC hH 13 (by decide) rfl) (CR hH 13 0 1 (by decide)) ?_
    refine g_getIv hX (dk DX0_hear 5 rfl) KX5 fX0_69 (by decide) rfl (CLt hH (q := 1) (by decide)) (CC hH 1 (by decide) rfl) (hZJ.1.2.1.1.1.trans (inv_cnt hE).1) ?_
    refine g_icmp_ge (tgt := 37) hX (dk DX0_hear 6 rfl) (by decide) (fun hc1 => ?_) (fun hc1 => ?_)
    · refine g_return hX (dk DX0_hear 19 rfl) rfl (by decide) (by decide) ?_
      have hk0 := cl_end hk (by omega) hc1
      subst hk0
      exact qV_of ⟨hf, fun q hq => hs q (by omega), rfl⟩
    · obtain ⟨k, rfl⟩ := cl_go hk (by omega) hc1
      have hd : d < cnt E := by omega
      obtain ⟨g1, g2, g3, g4, g5, g6, g7, g8, g9, g10⟩ := hZJ.1.d hd
      refine g_aload_0 hX (dk DX0_hear 7 rfl) ?_
      refine g_getRs (r := 1) hX (dk DX0_hear 8 rfl) KX0 fX0_34 (by decide) rfl (CLt hH (q := 13) (by decide)) (CC hH 13 (by decide) rfl) (CR hH 13 0 1 (by decide)) ?_
      refine g_iload_1 hX (dk DX0_hear 9 rfl) ?_
      refine g_c2R hX sX0_hear_18 (by decide) (Nat.le_of_ble_eq_true rfl) (rc0 rfl (CLt hH (by decide)) (CC hH 1 (by decide) rfl)) (by decide) (by decide) (c_X5_find hG hWJ (by rw [hZJ.1.cn]; exact hd)) ?_
      refine g_astore_2 hX (dk DX0_hear 11 rfl) (by decide) rfl ?_
      refine g_aload_2 hX (dk DX0_hear 12 rfl) ?_
      refine g_ifnullR hX (dk DX0_hear 13 rfl) ?_
      refine g_aload_0 hX (dk DX0_hear 14 rfl) ?_
      refine g_aload_2 hX (dk DX0_hear 15 rfl) ?_
      refine g_c2v hX sX0_hear_28 (by decide) (Nat.le_of_ble_eq_true rfl) (rc0 rfl (CLt hH (by decide)) (CC hH 13 (by decide) rfl)) (by decide) (by decide) (e_hearOf hG hE hZJ hd) ?_
      rintro J2 _ ⟨q1, q2, rfl⟩
      refine g_iinc_1 hX (dk DX0_hear 17 rfl) (nI_1 d) (by decide) rfl ?_
      refine g_goto (tgt := 2) hX (dk DX0_hear 18 rfl) (by decide) ?_
      exact g_fgt (ih k (by omega) (d + 1) J2 (by omega) (fun a ha => (q1 a (by omega)).trans (hf a ha)) (fun q hq y hy => by
        by_cases e : q = d
        · subst e; exact q2 y hy
        · rw [q1 _ (by omega)]; exact hs q (by omega) y hy)) ⟨rfl, rfl, trivial⟩
  refine g_iconst (v := 0) hX (dk DX0_hear 0 rfl) (by decide) ?_
  refine g_istore_1 hX (dk DX0_hear 1 rfl) (by decide) rfl ?_
  exact g_fgt (loop2 (cnt E) 0 I (Nat.zero_add _) (fun _ _ => rfl) (fun q hq => absurd hq (Nat.not_lt_zero q))) ⟨rfl, rfl, trivial⟩

set_option maxRecDepth 8000 in
set_option maxHeartbeats 4000000 in
theorem e_goingOver {G : Gt} (hG : Gok G) {I : It} {h : Ht}  {E : It} {L : Nat → Int64} (hE : Inv E) (hZ : RZ E L I h)  {hq2 : Nat} (hh : hq2 < hn h) (hhs : hs h hq2 = (20, 4)) (hHD : HD E I) : Con G (5) 0 0 mX0_goingOver [.ref 13, .ref hq2] I h (rI (overF E (I hq2)) I h) := by
  refine con_intro (own := RX0) (lo0 := [some (.ref 13), some (.ref hq2), none, none, none]) hG rfl pl_X0 (Nat.le_of_ble_eq_true rfl) rfl (fun X hX => ?_)
  have hW := hZ.1.wx hE
  have hH := hW.1
  have hc10 := (inv_cnt hE).2
  have hw9 := (inv_wk hE).2
  have loop4 : ∀ (k d : Nat) (z : Int32), d + k = cnt E → overR E (I hq2) k d z = overF E (I hq2) → GG G (5) 0 0 X (rI (overF E (I hq2)) I h) 4 [some (.ref 13), some (.ref hq2), some (.int z), some (.int (nI d)), none] [] (I) (h) 0 0 := by
    intro k
    induction k using Nat.strongRecOn with | _ k ih => ?_
    intro d z hk hv
    have hZJ := hZ
    have hWJ := hW
    refine g_iload_3 hX (dk DX0_goingOver 4 rfl) ?_
    refine g_aload_0 hX (dk DX0_goingOver 5 rfl) ?_
    refine g_getRs (r := 1) hX (dk DX0_goingOver 6 rfl) KX0 fX0_34 (by decide) rfl (CLt hH (q := 13) (by decide)) (CC hH 13 (by decide) rfl) (CR hH 13 0 1 (by decide)) ?_
    refine g_getIv hX (dk DX0_goingOver 7 rfl) KX5 fX0_69 (by decide) rfl (CLt hH (q := 1) (by decide)) (CC hH 1 (by decide) rfl) (hZ.1.2.1.1.1.trans (inv_cnt hE).1) ?_
    refine g_icmp_ge (tgt := 62) hX (dk DX0_goingOver 8 rfl) (by decide) (fun hc1 => ?_) (fun hc1 => ?_)
    · refine g_iload_2 hX (dk DX0_goingOver 34 rfl) ?_
      refine g_ireturn hX (dk DX0_goingOver 35 rfl) rfl (rfl) (by decide) (by decide) ?_
      have hk0 := cl_end hk (by omega) hc1
      subst hk0
      exact rI_of hv rfl rfl
    · obtain ⟨k, rfl⟩ := cl_go hk (by omega) hc1
      have hd : d < cnt E := by omega
      obtain ⟨g1, g2, g3, g4, g5, g6, g7, g8, g9, g10⟩ := hZJ.1.d hd
      refine g_aload_0 hX (dk DX0_goingOver 9 rfl) ?_
      refine g_getRs (r := 1) hX (dk DX0_goingOver 10 rfl) KX0 fX0_34 (by decide) rfl (CLt hH (q := 13) (by decide)) (CC hH 13 (by decide) rfl) (CR hH 13 0 1 (by decide)) ?_
      refine g_iload_3 hX (dk DX0_goingOver 11 rfl) ?_
      refine g_c2R hX sX0_goingOver_20 (by decide) (Nat.le_of_ble_eq_true rfl) (rc0 rfl (CLt hH (by decide)) (CC hH 1 (by decide) rfl)) (by decide) (by decide) (c_X5_find hG hWJ (by rw [hZJ.1.cn]; exact hd)) ?_
      refine g_astore_4 hX (dk DX0_goingOver 13 rfl) (by decide) rfl ?_
      refine g_aload_4 hX (dk DX0_goingOver 14 rfl) ?_
      refine g_ifnullR hX (dk DX0_goingOver 15 rfl) ?_
      refine g_aload_4 hX (dk DX0_goingOver 16 rfl) ?_
      refine g_aload_0 hX (dk DX0_goingOver 17 rfl) ?_
      refine g_getRs (r := 16) hX (dk DX0_goingOver 18 rfl) KX0 fX0_22 (by decide) rfl (CLt hH (q := 13) (by decide)) (CC hH 13 (by decide) rfl) (CR hH 13 4 16 (by decide)) ?_
      refine g_iload_3 hX (dk DX0_goingOver 19 rfl) ?_
      refine i_aaload (i0 := 6) hX (dk DX0_goingOver 20 rfl) (CLt hH (q := 16) (by decide)) (CS hH 16 (by decide) rfl) (by decide) rfl rfl (⟨rfl, by omega, by decide⟩) (SR hH (by omega)) ?_
      refine g_aload_1 hX (dk DX0_goingOver 21 rfl) ?_
      refine g_c3I hX (sD_X0_goingOver_39 _ (by rw [g4]; exact kcl_dc _)) (by decide) (Nat.le_of_ble_eq_true rfl) (rc0 rfl g3 rfl) (by decide) (by decide) (cD_saidOver hG g3 (by rw [g4]; exact kcl_dc _) (SL hH (by omega)) (SA hH (by omega)) hh hhs) ?_
      refine g_nmI (saidF E (I hq2) d) (by rw [g4, g6]; exact sv_e hE hd (fun y hy => hHD d hd y hy)) ?_
      refine g_aload_4 hX (dk DX0_goingOver 23 rfl) ?_
      refine g_getD (v := _) hX (dk DX0_goingOver 24 rfl) fX0_108 (by decide) g3 (by rw [g4]; exact kcl_dc _) (g10) ?_
      refine g_icmp_lt (tgt := 56) hX (dk DX0_goingOver 25 rfl) (by decide) (fun hc2 => ?_) (fun hc2 => ?_)
      · refine g_iinc_3 hX (dk DX0_goingOver 32 rfl) (nI_1 d) (by decide) rfl ?_
        refine g_goto (tgt := 4) hX (dk DX0_goingOver 33 rfl) (by decide) ?_
        first
        | exact g_fgt (ih k (by omega) (d + 1) _ (by omega) (by rw [← hv, overR_s, if_neg (Int32.not_le.mpr (show saidF E (I hq2) d < E 6 d by assumption)), Int32.or_zero])) ⟨rfl, rfl, rfl, rfl, trivial⟩
        | exact g_fgt (ih k (by omega) (d + 1) _ (by omega) (by rw [← hv, overR_s, if_pos (Int32.not_lt.mp (show ¬ saidF E (I hq2) d < E 6 d by assumption))]; rfl)) ⟨rfl, rfl, rfl, rfl, trivial⟩
      · refine g_iload_2 hX (dk DX0_goingOver 26 rfl) ?_
        refine g_iconst (v := 1) hX (dk DX0_goingOver 27 rfl) (by decide) ?_
        refine g_iload_3 hX (dk DX0_goingOver 28 rfl) ?_
        refine g_ishl hX (dk DX0_goingOver 29 rfl) ?_
        refine g_ior hX (dk DX0_goingOver 30 rfl) ?_
        refine g_istore_2 hX (dk DX0_goingOver 31 rfl) (by decide) rfl ?_
        refine g_iinc_3 hX (dk DX0_goingOver 32 rfl) (nI_1 d) (by decide) rfl ?_
        refine g_goto (tgt := 4) hX (dk DX0_goingOver 33 rfl) (by decide) ?_
        first
        | exact g_fgt (ih k (by omega) (d + 1) _ (by omega) (by rw [← hv, overR_s, if_neg (Int32.not_le.mpr (show saidF E (I hq2) d < E 6 d by assumption)), Int32.or_zero])) ⟨rfl, rfl, rfl, rfl, trivial⟩
        | exact g_fgt (ih k (by omega) (d + 1) _ (by omega) (by rw [← hv, overR_s, if_pos (Int32.not_lt.mp (show ¬ saidF E (I hq2) d < E 6 d by assumption))]; rfl)) ⟨rfl, rfl, rfl, rfl, trivial⟩
  refine g_iconst (v := 0) hX (dk DX0_goingOver 0 rfl) (by decide) ?_
  refine g_istore_2 hX (dk DX0_goingOver 1 rfl) (by decide) rfl ?_
  refine g_iconst (v := 0) hX (dk DX0_goingOver 2 rfl) (by decide) ?_
  refine g_istore_3 hX (dk DX0_goingOver 3 rfl) (by decide) rfl ?_
  exact g_fgt (loop4 (cnt E) 0 0 (Nat.zero_add _) rfl) ⟨rfl, rfl, rfl, rfl, trivial⟩

