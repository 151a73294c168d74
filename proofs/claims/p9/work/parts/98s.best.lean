set_option maxRecDepth 8000 in
set_option maxHeartbeats 4000000 in
theorem e_costHanded {G : Gt} (hG : Gok G) {I : It} {h : Ht}  {E : It} {L : Nat → Int64} (hE : Inv E) (hZ : RZ E L I h)  {hq2 : Nat} (hh : hq2 < hn h) (hhs : hs h hq2 = (20, 4)) (hHD : HD E I) {m : Nat} (hm : m ≤ 200) (hsp : I 13 1 = nI m) (hAH : AH E I m) : Con G (7) 0 0 mX0_costHanded [.ref 13, .ref hq2] I h (qI (fun v J h2 => v = hcF E (I hq2) m ∧ P2 I J ∧ h2 = h)) := by
  refine con_intro (own := RX0) (lo0 := [some (.ref 13), some (.ref hq2)]) hG rfl pl_X0 (Nat.le_of_ble_eq_true rfl) rfl (fun X hX => ?_)
  have hW := hZ.1.wx hE
  have hH := hW.1
  have hc10 := (inv_cnt hE).2
  have hw9 := (inv_wk hE).2
  refine g_aload_0 hX (dk DX0_costHanded 0 rfl) ?_
  refine g_aload_0 hX (dk DX0_costHanded 1 rfl) ?_
  refine g_getRs (r := 1) hX (dk DX0_costHanded 2 rfl) KX0 fX0_34 (by decide) rfl (CLt hH (q := 13) (by decide)) (CC hH 13 (by decide) rfl) (CR hH 13 0 1 (by decide)) ?_
  refine g_getIv hX (dk DX0_costHanded 3 rfl) KX5 fX0_161 (by decide) rfl (CLt hH (q := 1) (by decide)) (CC hH 1 (by decide) rfl) (hZ.2.1.1) ?_
  refine g_aload_0 hX (dk DX0_costHanded 4 rfl) ?_
  refine g_aload_1 hX (dk DX0_costHanded 5 rfl) ?_
  refine g_c2I hX sX0_costHanded_10 (by decide) (Nat.le_of_ble_eq_true rfl) (rc0 rfl (CLt hH (by decide)) (CC hH 13 (by decide) rfl)) (by decide) (by decide) (e_goingOver hG hE hZ hh hhs hHD) ?_
  refine g_ior hX (dk DX0_costHanded 7 rfl) ?_
  refine g_aload_0 hX (dk DX0_costHanded 8 rfl) ?_
  refine g_getRs (r := 1) hX (dk DX0_costHanded 9 rfl) KX0 fX0_34 (by decide) rfl (CLt hH (q := 13) (by decide)) (CC hH 13 (by decide) rfl) (CR hH 13 0 1 (by decide)) ?_
  refine g_getIv hX (dk DX0_costHanded 10 rfl) KX5 fX0_166 (by decide) rfl (CLt hH (q := 1) (by decide)) (CC hH 1 (by decide) rfl) (hZ.1.2.1.1.2.2.1) ?_
  refine g_c3q hX sX0_costHanded_21 (by decide) (Nat.le_of_ble_eq_true rfl) (rc0 rfl (CLt hH (by decide)) (CC hH 13 (by decide) rfl)) (by decide) (by decide) (e_pass hG hE hZ (kb_or (inv_kn hE) (kb_over _ hc10)) (inv_id hE) hm hsp hAH) ?_
  rintro _ J2 _ ⟨rfl, -, hP2, rfl⟩
  refine g_ireturn hX (dk DX0_costHanded 12 rfl) rfl (rfl) (by decide) (by decide) ?_
  exact qI_of ⟨rfl, hP2, rfl⟩

set_option maxRecDepth 8000 in
set_option maxHeartbeats 4000000 in
theorem e_hourMore {G : Gt} (hG : Gok G) {I : It} {h : Ht}  {E : It} {L : Nat → Int64} (hE : Inv E) (hZ : RZ E L I h) {y : Nat} (hy : y < 4) : Con G (3) 0 0 mX0_hourMore [.ref 13, .int (nI y)] I h (fun r J h2 => r = some (.ref 28) ∧ (∀ a, a ≠ 28 → J a = I a) ∧ (∀ n, n < 4 → J 28 n = upH (E 8) y n) ∧ h2 = h) := by
  refine con_intro (own := RX0) (lo0 := [some (.ref 13), some (.int (nI y)), none]) hG rfl pl_X0 (Nat.le_of_ble_eq_true rfl) rfl (fun X hX => ?_)
  have hW := hZ.1.wx hE
  have hH := hW.1
  have hc10 := (inv_cnt hE).2
  have hw9 := (inv_wk hE).2
  have loop2 : ∀ (k n : Nat) (J : It), n + k = 4 → (∀ a, a ≠ 28 → J a = I a) → (∀ j, j < n → J 28 j = upH (E 8) y j) → GG G (3) 0 0 X (fun r J h2 => r = some (.ref 28) ∧ (∀ a, a ≠ 28 → J a = I a) ∧ (∀ n, n < 4 → J 28 n = upH (E 8) y n) ∧ h2 = h) 2 [some (.ref 13), some (.int (nI y)), some (.int (nI n))] [] (J) (h) 0 0 := by
    intro k
    induction k using Nat.strongRecOn with | _ k ih => ?_
    intro n J hk hf hs
    have h4n : n < 4 → J 4 n = E 8 n := fun q => by rw [hf 4 (by decide)]; exact hZ.1.2.1.2.2.1 n q
    refine g_iload_2 hX (dk DX0_hourMore 2 rfl) ?_
    refine g_iconst (v := 4) hX (dk DX0_hourMore 3 rfl) (by decide) ?_
    refine g_icmp_ge (tgt := 39) hX (dk DX0_hourMore 4 rfl) (by decide) (fun hc1 => ?_) (fun hc1 => ?_)
    · refine g_aload_0 hX (dk DX0_hourMore 23 rfl) ?_
      refine g_getRs (r := 28) hX (dk DX0_hourMore 24 rfl) KX0 fX0_28 (by decide) rfl (CLt hH (q := 13) (by decide)) (CC hH 13 (by decide) rfl) (CR hH 13 14 28 (by decide)) ?_
      refine g_areturn (r := some 28) hX (dk DX0_hourMore 25 rfl) rfl rfl (Or.inr ⟨_, rfl⟩) (by decide) (by decide) ?_
      have hk0 := cl_end (e := 4) hk (by decide) hc1
      subst hk0
      exact ⟨rfl, hf, fun j hj => hs j (by omega), rfl⟩
    · obtain ⟨k, rfl⟩ := cl_go (e := 4) hk (by decide) hc1
      refine g_aload_0 hX (dk DX0_hourMore 5 rfl) ?_
      refine g_getRs (r := 28) hX (dk DX0_hourMore 6 rfl) KX0 fX0_28 (by decide) rfl (CLt hH (q := 13) (by decide)) (CC hH 13 (by decide) rfl) (CR hH 13 14 28 (by decide)) ?_
      refine g_iload_2 hX (dk DX0_hourMore 7 rfl) ?_
      refine g_aload_0 hX (dk DX0_hourMore 8 rfl) ?_
      refine g_getRs (r := 1) hX (dk DX0_hourMore 9 rfl) KX0 fX0_34 (by decide) rfl (CLt hH (q := 13) (by decide)) (CC hH 13 (by decide) rfl) (CR hH 13 0 1 (by decide)) ?_
      refine g_getRs (r := 4) hX (dk DX0_hourMore 10 rfl) KX5 fX0_101 (by decide) rfl (CLt hH (q := 1) (by decide)) (CC hH 1 (by decide) rfl) (CR hH 1 5 4 (by decide)) ?_
      refine g_iload_2 hX (dk DX0_hourMore 11 rfl) ?_
      refine v_iaload hX (dk DX0_hourMore 12 rfl) (CLt hH (q := 4) (by decide)) (CS hH 4 (by decide) rfl) (⟨rfl, by omega, by decide⟩) ((h4n (by omega))) ?_
      refine g_iload_2 hX (dk DX0_hourMore 13 rfl) ?_
      refine g_iload_1 hX (dk DX0_hourMore 14 rfl) ?_
      refine g_icmp_ne (tgt := 30) hX (dk DX0_hourMore 15 rfl) (by decide) (fun hc2 => ?_) (fun hc2 => ?_)
      · refine g_iconst (v := 0) hX (dk DX0_hourMore 18 rfl) (by decide) ?_
        refine g_iadd hX (dk DX0_hourMore 19 rfl) ?_
        refine i_iastore hX (dk DX0_hourMore 20 rfl) (CLt hH (q := 28) (by decide)) (CS hH 28 (by decide) rfl) (⟨rfl, by omega, by decide⟩) ?_
        refine g_iinc_2 hX (dk DX0_hourMore 21 rfl) (nI_1 n) (by decide) rfl ?_
        refine g_goto (tgt := 2) hX (dk DX0_hourMore 22 rfl) (by decide) ?_
        first
        | (have e : n = y := (nI_eq (by omega) (by omega)).mp (by assumption)
           exact g_fgt (ih k (by omega) (n + 1) _ (by omega) (fun a ha => (upI_off ha).trans (hf a ha)) (fun j hj => by
             by_cases z : j = n
             · subst z; rw [up0]; subst e; exact (show E 8 j + 1 = upd (E 8) j (E 8 j + 1) j by simp [upd])
             · rw [upn (fun q => z q.2)]; exact hs j (by omega))) ⟨rfl, rfl, rfl, trivial⟩)
        | (have e : n ≠ y := fun z => absurd (show nI n = nI y by rw [z]) (by assumption)
           exact g_fgt (ih k (by omega) (n + 1) _ (by omega) (fun a ha => (upI_off ha).trans (hf a ha)) (fun j hj => by
             by_cases z : j = n
             · subst z; rw [up0]; exact (show E 8 j + 0 = upd (E 8) y (E 8 y + 1) j by simp [upd, e])
             · rw [upn (fun q => z q.2)]; exact hs j (by omega))) ⟨rfl, rfl, rfl, trivial⟩)
      · refine g_iconst (v := 1) hX (dk DX0_hourMore 16 rfl) (by decide) ?_
        refine g_goto (tgt := 31) hX (dk DX0_hourMore 17 rfl) (by decide) ?_
        refine g_iadd hX (dk DX0_hourMore 19 rfl) ?_
        refine i_iastore hX (dk DX0_hourMore 20 rfl) (CLt hH (q := 28) (by decide)) (CS hH 28 (by decide) rfl) (⟨rfl, by omega, by decide⟩) ?_
        refine g_iinc_2 hX (dk DX0_hourMore 21 rfl) (nI_1 n) (by decide) rfl ?_
        refine g_goto (tgt := 2) hX (dk DX0_hourMore 22 rfl) (by decide) ?_
        first
        | (have e : n = y := (nI_eq (by omega) (by omega)).mp (by assumption)
           exact g_fgt (ih k (by omega) (n + 1) _ (by omega) (fun a ha => (upI_off ha).trans (hf a ha)) (fun j hj => by
             by_cases z : j = n
             · subst z; rw [up0]; subst e; exact (show E 8 j + 1 = upd (E 8) j (E 8 j + 1) j by simp [upd])
             · rw [upn (fun q => z q.2)]; exact hs j (by omega))) ⟨rfl, rfl, rfl, trivial⟩)
        | (have e : n ≠ y := fun z => absurd (show nI n = nI y by rw [z]) (by assumption)
           exact g_fgt (ih k (by omega) (n + 1) _ (by omega) (fun a ha => (upI_off ha).trans (hf a ha)) (fun j hj => by
             by_cases z : j = n
             · subst z; rw [up0]; exact (show E 8 j + 0 = upd (E 8) y (E 8 y + 1) j by simp [upd, e])
             · rw [upn (fun q => z q.2)]; exact hs j (by omega))) ⟨rfl, rfl, rfl, trivial⟩)
  refine g_iconst (v := 0) hX (dk DX0_hourMore 0 rfl) (by decide) ?_
  refine g_istore_2 hX (dk DX0_hourMore 1 rfl) (by decide) rfl ?_
  exact g_fgt (loop2 4 0 I (Nat.zero_add _) (fun _ _ => rfl) (fun n hn => absurd hn (Nat.not_lt_zero n))) ⟨rfl, rfl, rfl, trivial⟩

set_option maxRecDepth 8000 in
set_option maxHeartbeats 4000000 in
theorem e_bestA {G : Gt} (hG : Gok G) {I : It} {h : Ht}  {E : It} {L : Nat → Int64} (hE : Inv E) (hZ : RZ E L I h) {m : Nat} (hm : m ≤ 200) (hsp : I 13 1 = nI m) (hAH : AH E I m) : Con G (7) 0 0 mX0_bestOf [.ref 13, .int (E 0 5 ^^^ (-1)), .int 1] I h (qI (fun v J h2 => v = askF E m ∧ P2 I J ∧ h2 = h)) := by
  refine con_intro (own := RX0) (lo0 := [some (.ref 13), some (.int (E 0 5 ^^^ (-1))), some (.int 1), none, none, none, none, none]) hG rfl pl_X0 (Nat.le_of_ble_eq_true rfl) rfl (fun X hX => ?_)
  have hW := hZ.1.wx hE
  have hH := hW.1
  have hc10 := (inv_cnt hE).2
  have hw9 := (inv_wk hE).2
  have loop10 : ∀ (k d : Nat) (f l ls : Int32) (J : It), d + k = cnt E → P2 I J → lsI f l ls → pickR E m (fun i => hasI (E 0 5) (nI i)) (fun i => costF E (withI (E 0 5) (nI i) 1) (E 0 6) m) k d f ls = askF E m → GG G (7) 0 0 X (qI (fun v J h2 => v = askF E m ∧ P2 I J ∧ h2 = h)) 10 [some (.ref 13), some (.int (E 0 5 ^^^ (-1))), some (.int 1), some (.int f), some (.int l), some (.int (nI d)), none, none] [] (J) (h) 0 0 := by
    intro k
    induction k using Nat.strongRecOn with | _ k ih => ?_
    intro d f l ls J hk hP hls hv
    have hS := hP.sc
    have hZJ := hZ.sc hE hS
    have hWJ := hZJ.1.wx hE
    refine g_iload_5 hX (dk DX0_bestOf 6 rfl) ?_
    refine g_aload_0 hX (dk DX0_bestOf 7 rfl) ?_
    refine g_getRs (r := 1) hX (dk DX0_bestOf 8 rfl) KX0 fX0_34 (by decide) rfl (CLt hH (q := 13) (by decide)) (CC hH 13 (by decide) rfl) (CR hH 13 0 1 (by decide)) ?_
    refine g_getIv hX (dk DX0_bestOf 9 rfl) KX5 fX0_69 (by decide) rfl (CLt hH (q := 1) (by decide)) (CC hH 1 (by decide) rfl) (hZJ.1.2.1.1.1.trans (inv_cnt hE).1) ?_
    refine g_icmp_ge (tgt := 108) hX (dk DX0_bestOf 10 rfl) (by decide) (fun hc1 => ?_) (fun hc1 => ?_)
    · refine g_iload_3 hX (dk DX0_bestOf 52 rfl) ?_
      refine g_ireturn hX (dk DX0_bestOf 53 rfl) rfl (rfl) (by decide) (by decide) ?_
      have hk0 := cl_end hk (by omega) hc1
      subst hk0
      exact qI_of ⟨hv, hP, rfl⟩
    · obtain ⟨k, rfl⟩ := cl_go hk (by omega) hc1
      have hd : d < cnt E := by omega
      have hnd := has_n (E 0 5) (d := d) (by omega)
      refine g_iload_1 hX (dk DX0_bestOf 11 rfl) ?_
      refine g_iload_5 hX (dk DX0_bestOf 12 rfl) ?_
      refine g_c2I hX sX0_bestOf_25 (by decide) (Nat.le_of_ble_eq_true rfl) rcN (by decide) (by decide) (c_X11_bit hG) ?_
      refine g_if_eq (tgt := 102) hX (dk DX0_bestOf 14 rfl) (by decide) (fun hc2 => ?_) (fun hc2 => ?_)
      · refine g_iinc_5 hX (dk DX0_bestOf 50 rfl) (nI_1 d) (by decide) rfl ?_
        refine g_goto (tgt := 10) hX (dk DX0_bestOf 51 rfl) (by decide) ?_
        first
        | exact g_fgt (ih k (by omega) (d + 1) _ _ _ _ (by omega) hP hls (by rw [← hv, pickR_s, if_pos (hnd.mp (by assumption))])) ⟨rfl, rfl, rfl, rfl, rfl, rfl, trivial⟩
        | (rw [with_1] at hcl
           exact g_fgt (ih k (by omega) (d + 1) _ _ (_) _ (by omega) (hP.trans hP2) (Or.inr ⟨nI_pos (by omega), rfl⟩) (by rw [← hv, pick_1 hls (by rw [with_1]; exact hcl.1) hno, with_1, if_pos (Int32.not_le.mp (by assumption))])) ⟨rfl, rfl, rfl, rfl, rfl, rfl, trivial⟩)
        | (rw [with_1] at hcl
           exact g_fgt (ih k (by omega) (d + 1) _ _ _ _ (by omega) (hP.trans hP2) hls (by rw [← hv, pick_1 hls (by rw [with_1]; exact hcl.1) hno, with_1, if_neg (Int32.not_lt.mpr (by assumption))])) ⟨rfl, rfl, rfl, rfl, rfl, rfl, trivial⟩)
      · have hno : ¬ hasI (E 0 5) (nI d) = 1 := fun q => hc2 (hnd.mpr q)
        have hcl := cost_lt hE (kn := withI (E 0 5) (nI d) 1) (idl := E 0 6) hm
        refine g_iconst (v := 1) hX (dk DX0_bestOf 15 rfl) (by decide) ?_
        refine g_iload_5 hX (dk DX0_bestOf 16 rfl) ?_
        refine g_ishl hX (dk DX0_bestOf 17 rfl) ?_
        refine g_istore_6 hX (dk DX0_bestOf 18 rfl) (by decide) rfl ?_
        refine g_iload_2 hX (dk DX0_bestOf 19 rfl) ?_
        refine g_if_eq (tgt := 65) hX (dk DX0_bestOf 20 rfl) (by decide) (fun hc3 => absurd hc3 (by decide)) (fun hc3 => ?_)
        refine g_aload_0 hX (dk DX0_bestOf 21 rfl) ?_
        refine g_aload_0 hX (dk DX0_bestOf 22 rfl) ?_
        refine g_getRs (r := 1) hX (dk DX0_bestOf 23 rfl) KX0 fX0_34 (by decide) rfl (CLt hH (q := 13) (by decide)) (CC hH 13 (by decide) rfl) (CR hH 13 0 1 (by decide)) ?_
        refine g_getIv hX (dk DX0_bestOf 24 rfl) KX5 fX0_161 (by decide) rfl (CLt hH (q := 1) (by decide)) (CC hH 1 (by decide) rfl) (hZJ.2.1.1) ?_
        refine g_iload_6 hX (dk DX0_bestOf 25 rfl) ?_
        refine g_ior hX (dk DX0_bestOf 26 rfl) ?_
        refine g_aload_0 hX (dk DX0_bestOf 27 rfl) ?_
        refine g_getRs (r := 1) hX (dk DX0_bestOf 28 rfl) KX0 fX0_34 (by decide) rfl (CLt hH (q := 13) (by decide)) (CC hH 13 (by decide) rfl) (CR hH 13 0 1 (by decide)) ?_
        refine g_getIv hX (dk DX0_bestOf 29 rfl) KX5 fX0_166 (by decide) rfl (CLt hH (q := 1) (by decide)) (CC hH 1 (by decide) rfl) (hZJ.1.2.1.1.2.2.1) ?_
        refine g_c3q hX sX0_bestOf_59 (by decide) (Nat.le_of_ble_eq_true rfl) (rc0 rfl (CLt hH (by decide)) (CC hH 13 (by decide) rfl)) (by decide) (by decide) (e_pass hG hE hZJ (kb_or (inv_kn hE) (kb_bit hd hc10)) (inv_id hE) hm (hP.2.trans hsp) (hAH.p2 hP)) ?_
        rintro _ J2 _ ⟨rfl, -, hP2, rfl⟩
        refine g_goto (tgt := 86) hX (dk DX0_bestOf 31 rfl) (by decide) ?_
        refine g_istore_7 hX (dk DX0_bestOf 42 rfl) (by decide) rfl ?_
        refine g_iload_7 hX (dk DX0_bestOf 43 rfl) ?_
        refine g_iload_4 hX (dk DX0_bestOf 44 rfl) ?_
        refine g_icmp_ge (tgt := 102) hX (dk DX0_bestOf 45 rfl) (by decide) (fun hc4 => ?_) (fun hc4 => ?_)
        · refine g_iinc_5 hX (dk DX0_bestOf 50 rfl) (nI_1 d) (by decide) rfl ?_
          refine g_goto (tgt := 10) hX (dk DX0_bestOf 51 rfl) (by decide) ?_
          first
          | exact g_fgt (ih k (by omega) (d + 1) _ _ _ _ (by omega) hP hls (by rw [← hv, pickR_s, if_pos (hnd.mp (by assumption))])) ⟨rfl, rfl, rfl, rfl, rfl, rfl, trivial⟩
          | (rw [with_1] at hcl
             exact g_fgt (ih k (by omega) (d + 1) _ _ (_) _ (by omega) (hP.trans hP2) (Or.inr ⟨nI_pos (by omega), rfl⟩) (by rw [← hv, pick_1 hls (by rw [with_1]; exact hcl.1) hno, with_1, if_pos (Int32.not_le.mp (by assumption))])) ⟨rfl, rfl, rfl, rfl, rfl, rfl, trivial⟩)
          | (rw [with_1] at hcl
             exact g_fgt (ih k (by omega) (d + 1) _ _ _ _ (by omega) (hP.trans hP2) hls (by rw [← hv, pick_1 hls (by rw [with_1]; exact hcl.1) hno, with_1, if_neg (Int32.not_lt.mpr (by assumption))])) ⟨rfl, rfl, rfl, rfl, rfl, rfl, trivial⟩)
        · refine g_iload_7 hX (dk DX0_bestOf 46 rfl) ?_
          refine g_istore_4 hX (dk DX0_bestOf 47 rfl) (by decide) rfl ?_
          refine g_iload_5 hX (dk DX0_bestOf 48 rfl) ?_
          refine g_istore_3 hX (dk DX0_bestOf 49 rfl) (by decide) rfl ?_
          refine g_iinc_5 hX (dk DX0_bestOf 50 rfl) (nI_1 d) (by decide) rfl ?_
          refine g_goto (tgt := 10) hX (dk DX0_bestOf 51 rfl) (by decide) ?_
          first
          | exact g_fgt (ih k (by omega) (d + 1) _ _ _ _ (by omega) hP hls (by rw [← hv, pickR_s, if_pos (hnd.mp (by assumption))])) ⟨rfl, rfl, rfl, rfl, rfl, rfl, trivial⟩
          | (rw [with_1] at hcl
             exact g_fgt (ih k (by omega) (d + 1) _ _ (_) _ (by omega) (hP.trans hP2) (Or.inr ⟨nI_pos (by omega), rfl⟩) (by rw [← hv, pick_1 hls (by rw [with_1]; exact hcl.1) hno, with_1, if_pos (Int32.not_le.mp (by assumption))])) ⟨rfl, rfl, rfl, rfl, rfl, rfl, trivial⟩)
          | (rw [with_1] at hcl
             exact g_fgt (ih k (by omega) (d + 1) _ _ _ _ (by omega) (hP.trans hP2) hls (by rw [← hv, pick_1 hls (by rw [with_1]; exact hcl.1) hno, with_1, if_neg (Int32.not_lt.mpr (by assumption))])) ⟨rfl, rfl, rfl, rfl, rfl, rfl, trivial⟩)
  refine g_bipush (v := -5) hX (dk DX0_bestOf 0 rfl) (by decide) ?_
  refine g_istore_3 hX (dk DX0_bestOf 1 rfl) (by decide) rfl ?_
  refine g_ldc (v := 2147483647) hX (dk DX0_bestOf 2 rfl) (tg_3 231 rfl rfl) ?_
  refine g_istore_4 hX (dk DX0_bestOf 3 rfl) (by decide) rfl ?_
  refine g_iconst (v := 0) hX (dk DX0_bestOf 4 rfl) (by decide) ?_
  refine g_istore_5 hX (dk DX0_bestOf 5 rfl) (by decide) rfl ?_
  exact g_fgt (loop10 (cnt E) 0 (-5) 2147483647 0 I (Nat.zero_add _) P2.rf (Or.inl ⟨by decide, rfl⟩) rfl) ⟨rfl, rfl, rfl, rfl, rfl, rfl, trivial⟩

set_option maxRecDepth 8000 in
set_option maxHeartbeats 4000000 in
theorem e_bestD {G : Gt} (hG : Gok G) {I : It} {h : Ht}  {E : It} {L : Nat → Int64} (hE : Inv E) (hZ : RZ E L I h) {m : Nat} (hm : m ≤ 200) (hsp : I 13 1 = nI m) (hAH : AH E I m) : Con G (7) 0 0 mX0_bestOf [.ref 13, .int (E 0 6 ^^^ (-1)), .int 0] I h (qI (fun v J h2 => v = dropF E m ∧ P2 I J ∧ h2 = h)) := by
  refine con_intro (own := RX0) (lo0 := [some (.ref 13), some (.int (E 0 6 ^^^ (-1))), some (.int 0), none, none, none, none, none]) hG rfl pl_X0 (Nat.le_of_ble_eq_true rfl) rfl (fun X hX => ?_)
  have hW := hZ.1.wx hE
  have hH := hW.1
  have hc10 := (inv_cnt hE).2
  have hw9 := (inv_wk hE).2
  have loop10 : ∀ (k d : Nat) (f l ls : Int32) (J : It), d + k = cnt E → P2 I J → lsI f l ls → pickR E m (fun i => hasI (E 0 6) (nI i)) (fun i => costF E (E 0 5) (withI (E 0 6) (nI i) 1) m) k d f ls = dropF E m → GG G (7) 0 0 X (qI (fun v J h2 => v = dropF E m ∧ P2 I J ∧ h2 = h)) 10 [some (.ref 13), some (.int (E 0 6 ^^^ (-1))), some (.int 0), some (.int f), some (.int l), some (.int (nI d)), none, none] [] (J) (h) 0 0 := by
    intro k
    induction k using Nat.strongRecOn with | _ k ih => ?_
    intro d f l ls J hk hP hls hv
    have hS := hP.sc
    have hZJ := hZ.sc hE hS
    have hWJ := hZJ.1.wx hE
    refine g_iload_5 hX (dk DX0_bestOf 6 rfl) ?_
    refine g_aload_0 hX (dk DX0_bestOf 7 rfl) ?_
    refine g_getRs (r := 1) hX (dk DX0_bestOf 8 rfl) KX0 fX0_34 (by decide) rfl (CLt hH (q := 13) (by decide)) (CC hH 13 (by decide) rfl) (CR hH 13 0 1 (by decide)) ?_
    refine g_getIv hX (dk DX0_bestOf 9 rfl) KX5 fX0_69 (by decide) rfl (CLt hH (q := 1) (by decide)) (CC hH 1 (by decide) rfl) (hZJ.1.2.1.1.1.trans (inv_cnt hE).1) ?_
    refine g_icmp_ge (tgt := 108) hX (dk DX0_bestOf 10 rfl) (by decide) (fun hc1 => ?_) (fun hc1 => ?_)
    · refine g_iload_3 hX (dk DX0_bestOf 52 rfl) ?_
      refine g_ireturn hX (dk DX0_bestOf 53 rfl) rfl (rfl) (by decide) (by decide) ?_
      have hk0 := cl_end hk (by omega) hc1
      subst hk0
      exact qI_of ⟨hv, hP, rfl⟩
    · obtain ⟨k, rfl⟩ := cl_go hk (by omega) hc1
      have hd : d < cnt E := by omega
      have hnd := has_n (E 0 6) (d := d) (by omega)
      refine g_iload_1 hX (dk DX0_bestOf 11 rfl) ?_
      refine g_iload_5 hX (dk DX0_bestOf 12 rfl) ?_
      refine g_c2I hX sX0_bestOf_25 (by decide) (Nat.le_of_ble_eq_true rfl) rcN (by decide) (by decide) (c_X11_bit hG) ?_
      refine g_if_eq (tgt := 102) hX (dk DX0_bestOf 14 rfl) (by decide) (fun hc2 => ?_) (fun hc2 => ?_)
      · refine g_iinc_5 hX (dk DX0_bestOf 50 rfl) (nI_1 d) (by decide) rfl ?_
        refine g_goto (tgt := 10) hX (dk DX0_bestOf 51 rfl) (by decide) ?_
        first
        | exact g_fgt (ih k (by omega) (d + 1) _ _ _ _ (by omega) hP hls (by rw [← hv, pickR_s, if_pos (hnd.mp (by assumption))])) ⟨rfl, rfl, rfl, rfl, rfl, rfl, trivial⟩
        | (rw [with_1] at hcl
           exact g_fgt (ih k (by omega) (d + 1) _ _ (_) _ (by omega) (hP.trans hP2) (Or.inr ⟨nI_pos (by omega), rfl⟩) (by rw [← hv, pick_1 hls (by rw [with_1]; exact hcl.1) hno, with_1, if_pos (Int32.not_le.mp (by assumption))])) ⟨rfl, rfl, rfl, rfl, rfl, rfl, trivial⟩)
        | (rw [with_1] at hcl
           exact g_fgt (ih k (by omega) (d + 1) _ _ _ _ (by omega) (hP.trans hP2) hls (by rw [← hv, pick_1 hls (by rw [with_1]; exact hcl.1) hno, with_1, if_neg (Int32.not_lt.mpr (by assumption))])) ⟨rfl, rfl, rfl, rfl, rfl, rfl, trivial⟩)
      · have hno : ¬ hasI (E 0 6) (nI d) = 1 := fun q => hc2 (hnd.mpr q)
        have hcl := cost_lt hE (kn := E 0 5) (idl := withI (E 0 6) (nI d) 1) hm
        refine g_iconst (v := 1) hX (dk DX0_bestOf 15 rfl) (by decide) ?_
        refine g_iload_5 hX (dk DX0_bestOf 16 rfl) ?_
        refine g_ishl hX (dk DX0_bestOf 17 rfl) ?_
        refine g_istore_6 hX (dk DX0_bestOf 18 rfl) (by decide) rfl ?_
        refine g_iload_2 hX (dk DX0_bestOf 19 rfl) ?_
        refine g_if_eq (tgt := 65) hX (dk DX0_bestOf 20 rfl) (by decide) (fun hc3 => ?_) (fun hc3 => absurd (by decide) hc3)
        refine g_aload_0 hX (dk DX0_bestOf 32 rfl) ?_
        refine g_aload_0 hX (dk DX0_bestOf 33 rfl) ?_
        refine g_getRs (r := 1) hX (dk DX0_bestOf 34 rfl) KX0 fX0_34 (by decide) rfl (CLt hH (q := 13) (by decide)) (CC hH 13 (by decide) rfl) (CR hH 13 0 1 (by decide)) ?_
        refine g_getIv hX (dk DX0_bestOf 35 rfl) KX5 fX0_161 (by decide) rfl (CLt hH (q := 1) (by decide)) (CC hH 1 (by decide) rfl) (hZJ.2.1.1) ?_
        refine g_aload_0 hX (dk DX0_bestOf 36 rfl) ?_
        refine g_getRs (r := 1) hX (dk DX0_bestOf 37 rfl) KX0 fX0_34 (by decide) rfl (CLt hH (q := 13) (by decide)) (CC hH 13 (by decide) rfl) (CR hH 13 0 1 (by decide)) ?_
        refine g_getIv hX (dk DX0_bestOf 38 rfl) KX5 fX0_166 (by decide) rfl (CLt hH (q := 1) (by decide)) (CC hH 1 (by decide) rfl) (hZJ.1.2.1.1.2.2.1) ?_
        refine g_iload_6 hX (dk DX0_bestOf 39 rfl) ?_
        refine g_ior hX (dk DX0_bestOf 40 rfl) ?_
        refine g_c3q hX sX0_bestOf_83 (by decide) (Nat.le_of_ble_eq_true rfl) (rc0 rfl (CLt hH (by decide)) (CC hH 13 (by decide) rfl)) (by decide) (by decide) (e_pass hG hE hZJ (inv_kn hE) (kb_or (inv_id hE) (kb_bit hd hc10)) hm (hP.2.trans hsp) (hAH.p2 hP)) ?_
        rintro _ J2 _ ⟨rfl, -, hP2, rfl⟩
        refine g_istore_7 hX (dk DX0_bestOf 42 rfl) (by decide) rfl ?_
        refine g_iload_7 hX (dk DX0_bestOf 43 rfl) ?_
        refine g_iload_4 hX (dk DX0_bestOf 44 rfl) ?_
        refine g_icmp_ge (tgt := 102) hX (dk DX0_bestOf 45 rfl) (by decide) (fun hc4 => ?_) (fun hc4 => ?_)
        · refine g_iinc_5 hX (dk DX0_bestOf 50 rfl) (nI_1 d) (by decide) rfl ?_
          refine g_goto (tgt := 10) hX (dk DX0_bestOf 51 rfl) (by decide) ?_
          first
          | exact g_fgt (ih k (by omega) (d + 1) _ _ _ _ (by omega) hP hls (by rw [← hv, pickR_s, if_pos (hnd.mp (by assumption))])) ⟨rfl, rfl, rfl, rfl, rfl, rfl, trivial⟩
          | (rw [with_1] at hcl
             exact g_fgt (ih k (by omega) (d + 1) _ _ (_) _ (by omega) (hP.trans hP2) (Or.inr ⟨nI_pos (by omega), rfl⟩) (by rw [← hv, pick_1 hls (by rw [with_1]; exact hcl.1) hno, with_1, if_pos (Int32.not_le.mp (by assumption))])) ⟨rfl, rfl, rfl, rfl, rfl, rfl, trivial⟩)
          | (rw [with_1] at hcl
             exact g_fgt (ih k (by omega) (d + 1) _ _ _ _ (by omega) (hP.trans hP2) hls (by rw [← hv, pick_1 hls (by rw [with_1]; exact hcl.1) hno, with_1, if_neg (Int32.not_lt.mpr (by assumption))])) ⟨rfl, rfl, rfl, rfl, rfl, rfl, trivial⟩)
        · refine g_iload_7 hX (dk DX0_bestOf 46 rfl) ?_
          refine g_istore_4 hX (dk DX0_bestOf 47 rfl) (by decide) rfl ?_
          refine g_iload_5 hX (dk DX0_bestOf 48 rfl) ?_
          refine g_istore_3 hX (dk DX0_bestOf 49 rfl) (by decide) rfl ?_
          refine g_iinc_5 hX (dk DX0_bestOf 50 rfl) (nI_1 d) (by decide) rfl ?_
          refine g_goto (tgt := 10) hX (dk DX0_bestOf 51 rfl) (by decide) ?_
          first
          | exact g_fgt (ih k (by omega) (d + 1) _ _ _ _ (by omega) hP hls (by rw [← hv, pickR_s, if_pos (hnd.mp (by assumption))])) ⟨rfl, rfl, rfl, rfl, rfl, rfl, trivial⟩
          | (rw [with_1] at hcl
             exact g_fgt (ih k (by omega) (d + 1) _ _ (_) _ (by omega) (hP.trans hP2) (Or.inr ⟨nI_pos (by omega), rfl⟩) (by rw [← hv, pick_1 hls (by rw [with_1]; exact hcl.1) hno, with_1, if_pos (Int32.not_le.mp (by assumption))])) ⟨rfl, rfl, rfl, rfl, rfl, rfl, trivial⟩)
          | (rw [with_1] at hcl
             exact g_fgt (ih k (by omega) (d + 1) _ _ _ _ (by omega) (hP.trans hP2) hls (by rw [← hv, pick_1 hls (by rw [with_1]; exact hcl.1) hno, with_1, if_neg (Int32.not_lt.mpr (by assumption))])) ⟨rfl, rfl, rfl, rfl, rfl, rfl, trivial⟩)
  refine g_bipush (v := -5) hX (dk DX0_bestOf 0 rfl) (by decide) ?_
  refine g_istore_3 hX (dk DX0_bestOf 1 rfl) (by decide) rfl ?_
  refine g_ldc (v := 2147483647) hX (dk DX0_bestOf 2 rfl) (tg_3 231 rfl rfl) ?_
  refine g_istore_4 hX (dk DX0_bestOf 3 rfl) (by decide) rfl ?_
  refine g_iconst (v := 0) hX (dk DX0_bestOf 4 rfl) (by decide) ?_
  refine g_istore_5 hX (dk DX0_bestOf 5 rfl) (by decide) rfl ?_
  exact g_fgt (loop10 (cnt E) 0 (-5) 2147483647 0 I (Nat.zero_add _) P2.rf (Or.inl ⟨by decide, rfl⟩) rfl) ⟨rfl, rfl, rfl, rfl, rfl, rfl, trivial⟩

