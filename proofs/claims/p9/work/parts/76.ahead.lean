/-! looking ahead: what is written, not yet what comes of it -/
theorem nI_xor (a b : Nat) : nI a ^^^ nI b = nI (a ^^^ b) := by
  apply Int32.toBitVec.inj
  rw [Int32.toBitVec_xor, nI_bv, nI_bv, nI_bv]
  apply BitVec.eq_of_toNat_eq
  simp [Nat.xor_mod_two_pow]
theorem fm_nI {x r : Nat} (hx : x < 2 ^ 31) (h0 : 0 < r) (hr : r < 2 ^ 31) : fmI (nI x) (nI r) = nI (x % r) := by
  unfold fmI
  rw [nI_xor, if_pos (nI_pos' (Nat.xor_lt_two_pow hx hr)), rem_nI hx h0 hr]
theorem dcell {d x : Nat} (hx : x < 2 ^ 31) : nI d * 60 + fmI (nI x) 60 = nI (d * 60 + x % 60) := by
  rw [show (60 : Int32) = nI 60 from rfl, fm_nI hx (by decide) (by decide), pk_mul, nI_add]
theorem dcell_lt {d x : Nat} (hd : d < 10) : d * 60 + x % 60 < 600 := by
  have := Nat.mod_lt x (show 0 < 60 by decide)
  omega
theorem clamp (n : Int32) : ∃ m, m ≤ 200 ∧ (if (0 : Int32) < (if (200 : Int32) < n then 200 else n) then (if (200 : Int32) < n then 200 else n) else 0) = nI m := by
  by_cases h : (200 : Int32) < n
  · rw [if_pos h, if_pos (by decide)]
    exact ⟨200, by decide, rfl⟩
  · rw [if_neg h]
    by_cases h0 : 0 < n
    · rw [if_pos h0]
      obtain ⟨m, hm, rfl⟩ := in_of (b := 200) (by decide) ⟨Int32.le_of_lt h0, Int32.not_lt.mp h⟩
      exact ⟨m, hm, rfl⟩
    · rw [if_neg h0]
      exact ⟨0, by decide, rfl⟩
theorem SR {h : Ht} (hH : HX h) {d : Nat} (hd : d < 10) : hR h 16 d = some (17 + d) := by
  rcases (by omega : d = 0 ∨ d = 1 ∨ d = 2 ∨ d = 3 ∨ d = 4 ∨ d = 5 ∨ d = 6 ∨ d = 7 ∨ d = 8 ∨ d = 9) with rfl | rfl | rfl | rfl | rfl | rfl | rfl | rfl | rfl | rfl <;> exact CR hH 16 _ _ (by decide)
theorem SA {h : Ht} (hH : HX h) {d : Nat} (hd : d < 10) : hs h (17 + d) = (20, 4) := by
  rcases (by omega : d = 0 ∨ d = 1 ∨ d = 2 ∨ d = 3 ∨ d = 4 ∨ d = 5 ∨ d = 6 ∨ d = 7 ∨ d = 8 ∨ d = 9) with rfl | rfl | rfl | rfl | rfl | rfl | rfl | rfl | rfl | rfl <;> exact CS hH _ (by decide) rfl
theorem SL {h : Ht} (hH : HX h) {d : Nat} (hd : d < 10) : 17 + d < hn h := CLt hH (by omega)
/-- cells 13 and 27 alone, and span stands -/
def P2 (I J : It) : Prop := (∀ a, a ≠ 13 → a ≠ 27 → J a = I a) ∧ J 13 1 = I 13 1
theorem P2.rf {I : It} : P2 I I := ⟨fun _ _ _ => rfl, rfl⟩
theorem P2.trans {I J K : It} (h1 : P2 I J) (h2 : P2 J K) : P2 I K := ⟨fun a z1 z2 => (h2.1 a z1 z2).trans (h1.1 a z1 z2), h2.2.trans h1.2⟩
theorem P2.sc {I J : It} (h : P2 I J) : Sc I J := fun a ha => h.1 a (by omega) (by omega)
theorem P2.u13 {I J : It} {j : Nat} {x : Int32} (h : P2 I J) (hj : j ≠ 1) : P2 I (upI J 13 j x) := ⟨fun a z1 z2 => (upI_off z1).trans (h.1 a z1 z2), (upn (by omega)).trans h.2⟩
theorem P2.u27 {I J : It} {j : Nat} {x : Int32} (h : P2 I J) : P2 I (upI J 27 j x) := ⟨fun a z1 z2 => (upI_off z2).trans (h.1 a z1 z2), (upn (by omega)).trans h.2⟩
theorem on_ix {x : Int32} {m : Nat} (h0 : ¬ x < 0) (h1 : ¬ nI m ≤ x) (hm : m ≤ 200) : idx x (tN x) 200 := by
  obtain ⟨j, hj, rfl⟩ := nI_of h0
  have : j < m := by
    rcases Nat.lt_or_ge j m with z | z
    · exact z
    · exact absurd (nI_le z hj) h1
  exact ⟨by rw [tN_nI hj], by rw [tN_nI hj]; omega, by decide⟩

set_option maxRecDepth 8000 in
set_option maxHeartbeats 4000000 in
theorem c_X0_dearCell {G : Gt} (hG : Gok G) {I : It} {h : Ht}  {a w : Int32} : Con G (2) 0 0 mX0_dearCell [.int a, .int w] I h (rI (a * 60 + fmI w 60) I h) := by
  refine con_intro (own := RX0) (lo0 := [some (.int a), some (.int w)]) hG rfl pl_X0 (Nat.le_of_ble_eq_true rfl) rfl (fun X hX => ?_)
  refine g_iload_0 hX (dk DX0_dearCell 0 rfl) ?_
  refine g_bipush (v := 60) hX (dk DX0_dearCell 1 rfl) (by decide) ?_
  refine g_imul hX (dk DX0_dearCell 2 rfl) ?_
  refine g_iload_1 hX (dk DX0_dearCell 3 rfl) ?_
  refine g_bipush (v := 60) hX (dk DX0_dearCell 4 rfl) (by decide) ?_
  refine g_c2I hX sX0_dearCell_7 (by decide) (Nat.le_of_ble_eq_true rfl) rcN (by decide) (by decide) (c_J9_floorMod_7cf53 hG (by decide)) ?_
  refine g_iadd hX (dk DX0_dearCell 6 rfl) ?_
  refine g_ireturn hX (dk DX0_dearCell 7 rfl) rfl (rfl) (by decide) (by decide) ?_
  exact rI_of rfl rfl rfl

set_option maxRecDepth 8000 in
set_option maxHeartbeats 4000000 in
theorem w_X0_lookDear {G : Gt} (hG : Gok G) {I : It} {h : Ht}  (hW : WX I h) {u : Int32} {x : Nat} (hx : x < 2 ^ 31) : Con G (6) 0 0 mX0_lookDear [.ref 13, .int u, .int (nI x)] I h (qV (fun I2 h2 => (∀ a, a ≠ 15 → I2 a = I a) ∧ h2 = h)) := by
  refine con_intro (own := RX0) (lo0 := [some (.ref 13), some (.int u), some (.int (nI x)), none, none, none]) hG rfl pl_X0 (Nat.le_of_ble_eq_true rfl) rfl (fun X hX => ?_)
  have hH := hW.1
  have hc10 := hW.2.1.2
  have loop2 : ∀ (k d : Nat) (J : It), d + k = cN I → (∀ a, a ≠ 15 → J a = I a) → GG G (6) 0 0 X (qV (fun I2 h2 => (∀ a, a ≠ 15 → I2 a = I a) ∧ h2 = h)) 2 [some (.ref 13), some (.int u), some (.int (nI x)), some (.int (nI d)), none, none] [] (J) (h) 0 0 := by
    intro k
    induction k using Nat.strongRecOn with | _ k ih => ?_
    intro d J hk hJ
    have hS : Sc I J := Sc.of1 hJ (by decide)
    have hWI := hW
    have hW := hW.sc hS
    have eJ : J 1 = I 1 := hS 1 (by omega)
    have ec : cN J = cN I := by unfold cN; rw [eJ]
    refine g_iload_3 hX (dk DX0_lookDear 2 rfl) ?_
    refine g_aload_0 hX (dk DX0_lookDear 3 rfl) ?_
    refine g_getRs (r := 1) hX (dk DX0_lookDear 4 rfl) KX0 fX0_34 (by decide) rfl (CLt hH (q := 13) (by decide)) (CC hH 13 (by decide) rfl) (CR hH 13 0 1 (by decide)) ?_
    refine g_getIv hX (dk DX0_lookDear 5 rfl) KX5 fX0_69 (by decide) rfl (CLt hH (q := 1) (by decide)) (CC hH 1 (by decide) rfl) ((show J 1 2 = nI (cN I) from by rw [eJ]; exact hWI.2.1.1)) ?_
    refine g_icmp_ge (tgt := 76) hX (dk DX0_lookDear 6 rfl) (by decide) (fun hc1 => ?_) (fun hc1 => ?_)
    · refine g_return hX (dk DX0_lookDear 38 rfl) rfl (by decide) (by decide) ?_
      exact qV_of ⟨hJ, rfl⟩
    · obtain ⟨k, rfl⟩ := cl_go hk (by omega) hc1
      obtain ⟨g1, g2, g3, g4, g5, g6⟩ := hW.2.2.1 d (by omega)
      refine g_iload_3 hX (dk DX0_lookDear 7 rfl) ?_
      refine g_iload_2 hX (dk DX0_lookDear 8 rfl) ?_
      refine g_c2I hX sX0_lookDear_15 (by decide) (Nat.le_of_ble_eq_true rfl) rcN (by decide) (by decide) (c_X0_dearCell hG) ?_
      refine g_nmI (nI (d * 60 + x % 60)) (dcell (by omega)) ?_
      refine g_istore_4 hX (dk DX0_lookDear 10 rfl) (by decide) rfl ?_
      refine g_aload_0 hX (dk DX0_lookDear 11 rfl) ?_
      refine g_getRs (r := 1) hX (dk DX0_lookDear 12 rfl) KX0 fX0_34 (by decide) rfl (CLt hH (q := 13) (by decide)) (CC hH 13 (by decide) rfl) (CR hH 13 0 1 (by decide)) ?_
      refine g_iload_3 hX (dk DX0_lookDear 13 rfl) ?_
      refine g_c2R hX sX0_lookDear_25 (by decide) (Nat.le_of_ble_eq_true rfl) (rc0 rfl (CLt hH (by decide)) (CC hH 1 (by decide) rfl)) (by decide) (by decide) (c_X5_find hG hW (by omega)) ?_
      refine g_astore_5 hX (dk DX0_lookDear 15 rfl) (by decide) rfl ?_
      refine g_aload_5 hX (dk DX0_lookDear 16 rfl) ?_
      refine g_ifnullR hX (dk DX0_lookDear 17 rfl) ?_
      refine g_iload_1 hX (dk DX0_lookDear 18 rfl) ?_
      refine g_iload_3 hX (dk DX0_lookDear 19 rfl) ?_
      refine g_c2I hX sX0_lookDear_37 (by decide) (Nat.le_of_ble_eq_true rfl) rcN (by decide) (by decide) (c_X11_bit hG ) ?_
      refine g_if_eq (tgt := 70) hX (dk DX0_lookDear 21 rfl) (by decide) (fun hc2 => ?_) (fun hc2 => ?_)
      · refine g_iinc_3 hX (dk DX0_lookDear 36 rfl) (nI_1 d) (by decide) rfl ?_
        refine g_goto (tgt := 2) hX (dk DX0_lookDear 37 rfl) (by decide) ?_
        exact g_fgt (ih k (by omega) (d + 1) _ (by omega) (fun a ha => by first | exact hJ a ha | (rw [upI_off ha]; exact hJ a ha))) ⟨rfl, rfl, rfl, rfl, trivial⟩
      · refine g_aload_0 hX (dk DX0_lookDear 22 rfl) ?_
        refine g_getRs (r := 15) hX (dk DX0_lookDear 23 rfl) KX0 fX0_17 (by decide) rfl (CLt hH (q := 13) (by decide)) (CC hH 13 (by decide) rfl) (CR hH 13 3 15 (by decide)) ?_
        refine g_iload_4 hX (dk DX0_lookDear 24 rfl) ?_
        refine i_iaload hX (dk DX0_lookDear 25 rfl) (CLt hH (q := 15) (by decide)) (CS hH 15 (by decide) rfl) (⟨rfl, dcell_lt (by omega), by decide⟩) ?_
        refine g_if_ge (tgt := 70) hX (dk DX0_lookDear 26 rfl) (by decide) (fun hc3 => ?_) (fun hc3 => ?_)
        · refine g_iinc_3 hX (dk DX0_lookDear 36 rfl) (nI_1 d) (by decide) rfl ?_
          refine g_goto (tgt := 2) hX (dk DX0_lookDear 37 rfl) (by decide) ?_
          exact g_fgt (ih k (by omega) (d + 1) _ (by omega) (fun a ha => by first | exact hJ a ha | (rw [upI_off ha]; exact hJ a ha))) ⟨rfl, rfl, rfl, rfl, trivial⟩
        · refine g_aload_0 hX (dk DX0_lookDear 27 rfl) ?_
          refine g_getRs (r := 15) hX (dk DX0_lookDear 28 rfl) KX0 fX0_17 (by decide) rfl (CLt hH (q := 13) (by decide)) (CC hH 13 (by decide) rfl) (CR hH 13 3 15 (by decide)) ?_
          refine g_iload_4 hX (dk DX0_lookDear 29 rfl) ?_
          refine g_aload_0 hX (dk DX0_lookDear 30 rfl) ?_
          refine g_getRs (r := 1) hX (dk DX0_lookDear 31 rfl) KX0 fX0_34 (by decide) rfl (CLt hH (q := 13) (by decide)) (CC hH 13 (by decide) rfl) (CR hH 13 0 1 (by decide)) ?_
          refine g_aload_5 hX (dk DX0_lookDear 32 rfl) ?_
          refine g_iload_2 hX (dk DX0_lookDear 33 rfl) ?_
          refine g_c3I hX sX0_lookDear_66 (by decide) (Nat.le_of_ble_eq_true rfl) (rc0 rfl (CLt hH (by decide)) (CC hH 1 (by decide) rfl)) (by decide) (by decide) (c_X5_dearIn hG hW g3 g4) ?_
          refine i_iastore hX (dk DX0_lookDear 35 rfl) (CLt hH (q := 15) (by decide)) (CS hH 15 (by decide) rfl) (⟨rfl, dcell_lt (by omega), by decide⟩) ?_
          refine g_iinc_3 hX (dk DX0_lookDear 36 rfl) (nI_1 d) (by decide) rfl ?_
          refine g_goto (tgt := 2) hX (dk DX0_lookDear 37 rfl) (by decide) ?_
          exact g_fgt (ih k (by omega) (d + 1) _ (by omega) (fun a ha => by first | exact hJ a ha | (rw [upI_off ha]; exact hJ a ha))) ⟨rfl, rfl, rfl, rfl, trivial⟩
  refine g_iconst (v := 0) hX (dk DX0_lookDear 0 rfl) (by decide) ?_
  refine g_istore_3 hX (dk DX0_lookDear 1 rfl) (by decide) rfl ?_
  exact g_fgt (loop2 (cN I) 0 I (Nat.zero_add _) (fun _ _ => rfl)) ⟨rfl, rfl, rfl, rfl, trivial⟩

set_option maxRecDepth 8000 in
set_option maxHeartbeats 4000000 in
theorem w_X0_look {G : Gt} (hG : Gok G) {I : It} {h : Ht}  (hW : WX I h) {n : Int32} : Con G (7) 0 0 mX0_look [.ref 13, .int n] I h (qV (fun I2 h2 => Sc I I2 ∧ h2 = h ∧ ∃ m, m ≤ 200 ∧ I2 13 1 = nI m)) := by
  refine con_intro (own := RX0) (lo0 := [some (.ref 13), some (.int n), none]) hG rfl pl_X0 (Nat.le_of_ble_eq_true rfl) rfl (fun X hX => ?_)
  have hH := hW.1
  have hc10 := hW.2.1.2
  have loop25 : ∀ m, m ≤ 200 → ∀ (k j : Nat) (J : It), Sc I J → J 13 1 = nI m → j + k = m → GG G (7) 0 0 X (qV (fun I2 h2 => Sc I I2 ∧ h2 = h ∧ ∃ m, m ≤ 200 ∧ I2 13 1 = nI m)) 25 [some (.ref 13), some (.int n), some (.int (nI j))] [] (J) (h) 0 0 := by
    intro m hm k
    induction k using Nat.strongRecOn with | _ k ih => ?_
    intro j J hS hsp hk
    have hw9 := hW.2.2.2.2.1.2
    have hWI := hW
    have hW := hW.sc hS
    have eJ : J 1 = I 1 := hS 1 (by omega)
    have ec : cN J = cN I := by unfold cN; rw [eJ]
    refine g_iload_2 hX (dk DX0_look 13 rfl) ?_
    refine g_aload_0 hX (dk DX0_look 14 rfl) ?_
    refine g_getIv hX (dk DX0_look 15 rfl) KX0 fX0_47 (by decide) rfl (CLt hH (q := 13) (by decide)) (CC hH 13 (by decide) rfl) (hsp) ?_
    refine g_icmp_ge (tgt := 80) hX (dk DX0_look 16 rfl) (by decide) (fun hc1 => ?_) (fun hc1 => ?_)
    · refine g_return hX (dk DX0_look 42 rfl) rfl (by decide) (by decide) ?_
      exact qV_of ⟨hS, rfl, m, hm, hsp⟩
    · obtain ⟨k, rfl⟩ := ct_go hk (by omega) hc1
      refine g_aload_0 hX (dk DX0_look 17 rfl) ?_
      refine g_getRs (r := 14) hX (dk DX0_look 18 rfl) KX0 fX0_9 (by decide) rfl (CLt hH (q := 13) (by decide)) (CC hH 13 (by decide) rfl) (CR hH 13 2 14 (by decide)) ?_
      refine g_iload_2 hX (dk DX0_look 19 rfl) ?_
      refine g_aload_0 hX (dk DX0_look 20 rfl) ?_
      refine g_getRs (r := 1) hX (dk DX0_look 21 rfl) KX0 fX0_34 (by decide) rfl (CLt hH (q := 13) (by decide)) (CC hH 13 (by decide) rfl) (CR hH 13 0 1 (by decide)) ?_
      refine g_aload_0 hX (dk DX0_look 22 rfl) ?_
      refine g_getRs (r := 1) hX (dk DX0_look 23 rfl) KX0 fX0_34 (by decide) rfl (CLt hH (q := 13) (by decide)) (CC hH 13 (by decide) rfl) (CR hH 13 0 1 (by decide)) ?_
      refine g_getIv hX (dk DX0_look 24 rfl) KX5 fX0_57 (by decide) rfl (CLt hH (q := 1) (by decide)) (CC hH 1 (by decide) rfl) ((show J 1 6 = nI (weN I) from by rw [eJ]; exact hWI.2.2.2.2.1.1)) ?_
      refine g_iload_2 hX (dk DX0_look 25 rfl) ?_
      refine g_iadd hX (dk DX0_look 26 rfl) ?_
      refine g_nmI (nI (weN I + j)) (nI_add _ _) ?_
      refine g_c2I hX sX0_look_51 (by decide) (Nat.le_of_ble_eq_true rfl) (rc0 rfl (CLt hH (by decide)) (CC hH 1 (by decide) rfl)) (by decide) (by decide) (c_X5_coming hG hW) ?_
      refine i_iastore hX (dk DX0_look 28 rfl) (CLt hH (q := 14) (by decide)) (CS hH 14 (by decide) rfl) (⟨rfl, by omega, by decide⟩) ?_
      refine g_aload_0 hX (dk DX0_look 29 rfl) ?_
      refine g_aload_0 hX (dk DX0_look 30 rfl) ?_
      refine g_getRs (r := 14) hX (dk DX0_look 31 rfl) KX0 fX0_9 (by decide) rfl (CLt hH (q := 13) (by decide)) (CC hH 13 (by decide) rfl) (CR hH 13 2 14 (by decide)) ?_
      refine g_iload_2 hX (dk DX0_look 32 rfl) ?_
      refine i_iaload hX (dk DX0_look 33 rfl) (CLt hH (q := 14) (by decide)) (CS hH 14 (by decide) rfl) (⟨rfl, by omega, by decide⟩) ?_
      refine g_aload_0 hX (dk DX0_look 34 rfl) ?_
      refine g_getRs (r := 1) hX (dk DX0_look 35 rfl) KX0 fX0_34 (by decide) rfl (CLt hH (q := 13) (by decide)) (CC hH 13 (by decide) rfl) (CR hH 13 0 1 (by decide)) ?_
      refine g_getIv hX (dk DX0_look 36 rfl) KX5 fX0_57 (by decide) rfl (CLt hH (q := 1) (by decide)) (CC hH 1 (by decide) rfl) ((show J 1 6 = nI (weN I) from by rw [eJ]; exact hWI.2.2.2.2.1.1)) ?_
      refine g_iload_2 hX (dk DX0_look 37 rfl) ?_
      refine g_iadd hX (dk DX0_look 38 rfl) ?_
      refine g_nmI (nI (weN I + j)) (nI_add _ _) ?_
      refine g_c3v hX sX0_look_71 (by decide) (Nat.le_of_ble_eq_true rfl) (rc0 rfl (CLt hH (by decide)) (CC hH 13 (by decide) rfl)) (by decide) (by decide) (w_X0_lookDear hG (hW.sc (Sc.rf.up ⟨by decide, by decide⟩)) (x := weN I + j) (by omega)) ?_
      rintro J3 _ ⟨hf, rfl⟩
      refine g_iinc_2 hX (dk DX0_look 40 rfl) (nI_1 j) (by decide) rfl ?_
      refine g_goto (tgt := 25) hX (dk DX0_look 41 rfl) (by decide) ?_
      exact g_fgt (ih k (by omega) (j + 1) J3 (hS.trans ((Sc.rf.up ⟨by decide, by decide⟩).trans (Sc.of1 hf ⟨by decide, by decide⟩))) (by rw [hf 13 (by decide)]; exact hsp) (by omega)) ⟨rfl, rfl, rfl, trivial⟩
  refine g_aload_0 hX (dk DX0_look 0 rfl) ?_
  refine g_iconst (v := 0) hX (dk DX0_look 1 rfl) (by decide) ?_
  refine g_iload_1 hX (dk DX0_look 2 rfl) ?_
  refine g_sipush (v := 200) hX (dk DX0_look 3 rfl) (by decide) ?_
  refine g_c2I hX sX0_look_6 (by decide) (Nat.le_of_ble_eq_true rfl) rcN (by decide) (by decide) (c_J9_min_7cf53 hG) ?_
  refine g_c2I hX sX0_look_9 (by decide) (Nat.le_of_ble_eq_true rfl) rcN (by decide) (by decide) (c_J9_max_7cf53 hG) ?_
  obtain ⟨m, hm, em⟩ := clamp n
  refine g_nmI (nI m) em ?_
  refine g_putI hX (dk DX0_look 6 rfl) KX0 fX0_47 (by decide) rfl (CLt hH (q := 13) (by decide)) (CC hH 13 (by decide) rfl) (Or.inl rfl) (rfl) (rfl) ?_
  refine g_aload_0 hX (dk DX0_look 7 rfl) ?_
  refine g_getRs (r := 15) hX (dk DX0_look 8 rfl) KX0 fX0_17 (by decide) rfl (CLt hH (q := 13) (by decide)) (CC hH 13 (by decide) rfl) (CR hH 13 3 15 (by decide)) ?_
  refine g_iconst (v := -1) hX (dk DX0_look 9 rfl) (by decide) ?_
  refine g_c2v hX sX0_look_20 (by decide) (Nat.le_of_ble_eq_true rfl) rcN (by decide) (by decide) (c_J7_fill_53178 hG (len := 600) (CLt hH (q := 15) (by decide)) (CS hH 15 (by decide) rfl) (by decide)) ?_
  rintro J2 _ ⟨hf1, hf2, hf3, rfl⟩
  have hS : Sc I J2 := (Sc.rf.up ⟨by decide, by decide⟩).trans (Sc.of1 hf3 ⟨by decide, by decide⟩)
  have hsp : J2 13 1 = nI m := by rw [hf3 13 (by decide), up0]
  refine g_iconst (v := 0) hX (dk DX0_look 11 rfl) (by decide) ?_
  refine g_istore_2 hX (dk DX0_look 12 rfl) (by decide) rfl ?_
  exact g_fgt (loop25 m hm m 0 J2 hS hsp (Nat.zero_add _)) ⟨rfl, rfl, rfl, trivial⟩

set_option maxRecDepth 8000 in
set_option maxHeartbeats 4000000 in
theorem w_X0_hearOf {G : Gt} (hG : Gok G) {I : It} {h : Ht}  (hW : WX I h) {q : Nat} {d : Nat} (hd : d < 10) (hq : q < hn h) (h73 : 73 ≤ q) (hdc : isDC (hs h q).1) (hi : I q 0 = nI d) : Con G (6) 0 0 mX0_hearOf [.ref 13, .ref q] I h (qV (fun I2 h2 => Sc I I2 ∧ I2 13 = I 13 ∧ h2 = h)) := by
  refine con_intro (own := RX0) (lo0 := [some (.ref 13), some (.ref q), none]) hG rfl pl_X0 (Nat.le_of_ble_eq_true rfl) rfl (fun X hX => ?_)
  have hH := hW.1
  have hc10 := hW.2.1.2
  have loop2 : ∀ (k y : Nat) (J : It), y + k = 4 → Sc I J → J 13 = I 13 → GG G (6) 0 0 X (qV (fun I2 h2 => Sc I I2 ∧ I2 13 = I 13 ∧ h2 = h)) 2 [some (.ref 13), some (.ref q), some (.int (nI y))] [] (J) (h) 0 0 := by
    intro k
    induction k using Nat.strongRecOn with | _ k ih => ?_
    intro y J hk hS h13
    have hWI := hW
    have hW := hW.sc hS
    have eJ : J 1 = I 1 := hS 1 (by omega)
    have ec : cN J = cN I := by unfold cN; rw [eJ]
    refine g_iload_2 hX (dk DX0_hearOf 2 rfl) ?_
    refine g_iconst (v := 4) hX (dk DX0_hearOf 3 rfl) (by decide) ?_
    refine g_icmp_ge (tgt := 33) hX (dk DX0_hearOf 4 rfl) (by decide) (fun hc1 => ?_) (fun hc1 => ?_)
    · refine g_return hX (dk DX0_hearOf 19 rfl) rfl (by decide) (by decide) ?_
      exact qV_of ⟨hS, h13, rfl⟩
    · obtain ⟨k, rfl⟩ := cl_go (e := 4) hk (by decide) hc1
      refine g_aload_0 hX (dk DX0_hearOf 5 rfl) ?_
      refine g_getRs (r := 16) hX (dk DX0_hearOf 6 rfl) KX0 fX0_22 (by decide) rfl (CLt hH (q := 13) (by decide)) (CC hH 13 (by decide) rfl) (CR hH 13 4 16 (by decide)) ?_
      refine g_aload_1 hX (dk DX0_hearOf 7 rfl) ?_
      refine g_getD (v := (nI d)) hX (dk DX0_hearOf 8 rfl) fX0_93 (by decide) hq hdc ((by rw [hS q (by omega)]; exact hi)) ?_
      refine i_aaload (i0 := 6) hX (dk DX0_hearOf 9 rfl) (CLt hH (q := 16) (by decide)) (CS hH 16 (by decide) rfl) (by decide) rfl rfl (⟨rfl, hd, by decide⟩) (SR hH hd) ?_
      refine g_iload_2 hX (dk DX0_hearOf 10 rfl) ?_
      refine g_aload_0 hX (dk DX0_hearOf 11 rfl) ?_
      refine g_getRs (r := 1) hX (dk DX0_hearOf 12 rfl) KX0 fX0_34 (by decide) rfl (CLt hH (q := 13) (by decide)) (CC hH 13 (by decide) rfl) (CR hH 13 0 1 (by decide)) ?_
      refine g_aload_1 hX (dk DX0_hearOf 13 rfl) ?_
      refine g_iload_2 hX (dk DX0_hearOf 14 rfl) ?_
      refine g_c3I hX sX0_hearOf_23 (by decide) (Nat.le_of_ble_eq_true rfl) (rc0 rfl (CLt hH (by decide)) (CC hH 1 (by decide) rfl)) (by decide) (by decide) (c_X5_saidBy hG hW hq hdc) ?_
      refine i_iastore hX (dk DX0_hearOf 16 rfl) (SL hH hd) (SA hH hd) (⟨rfl, by omega, by decide⟩) ?_
      refine g_iinc_2 hX (dk DX0_hearOf 17 rfl) (nI_1 y) (by decide) rfl ?_
      refine g_goto (tgt := 2) hX (dk DX0_hearOf 18 rfl) (by decide) ?_
      exact g_fgt (ih k (by omega) (y + 1) _ (by omega) (hS.up ⟨by omega, by omega⟩) ((upI_off (by omega)).trans h13)) ⟨rfl, rfl, rfl, trivial⟩
  refine g_iconst (v := 0) hX (dk DX0_hearOf 0 rfl) (by decide) ?_
  refine g_istore_2 hX (dk DX0_hearOf 1 rfl) (by decide) rfl ?_
  exact g_fgt (loop2 4 0 I (Nat.zero_add _) Sc.rf rfl) ⟨rfl, rfl, rfl, trivial⟩

set_option maxRecDepth 8000 in
set_option maxHeartbeats 4000000 in
theorem w_X0_hear {G : Gt} (hG : Gok G) {I : It} {h : Ht}  (hW : WX I h)  : Con G (7) 0 0 mX0_hear [.ref 13] I h (qV (fun I2 h2 => Sc I I2 ∧ I2 13 = I 13 ∧ h2 = h)) := by
  refine con_intro (own := RX0) (lo0 := [some (.ref 13), none, none]) hG rfl pl_X0 (Nat.le_of_ble_eq_true rfl) rfl (fun X hX => ?_)
  have hH := hW.1
  have hc10 := hW.2.1.2
  have loop2 : ∀ (k d : Nat) (J : It), d + k = cN I → Sc I J → J 13 = I 13 → GG G (7) 0 0 X (qV (fun I2 h2 => Sc I I2 ∧ I2 13 = I 13 ∧ h2 = h)) 2 [some (.ref 13), some (.int (nI d)), none] [] (J) (h) 0 0 := by
    intro k
    induction k using Nat.strongRecOn with | _ k ih => ?_
    intro d J hk hS h13
    have hWI := hW
    have hW := hW.sc hS
    have eJ : J 1 = I 1 := hS 1 (by omega)
    have ec : cN J = cN I := by unfold cN; rw [eJ]
    refine g_iload_1 hX (dk DX0_hear 2 rfl) ?_
    refine g_aload_0 hX (dk DX0_hear 3 rfl) ?_
    refine g_getRs (r := 1) hX (dk DX0_hear 4 rfl) KX0 fX0_34 (by decide) rfl (CLt hH (q := 13) (by decide)) (CC hH 13 (by decide) rfl) (CR hH 13 0 1 (by decide)) ?_
    refine g_getIv hX (dk DX0_hear 5 rfl) KX5 fX0_69 (by decide) rfl (CLt hH (q := 1) (by decide)) (CC hH 1 (by decide) rfl) ((show J 1 2 = nI (cN I) from by rw [eJ]; exact hWI.2.1.1)) ?_
    refine g_icmp_ge (tgt := 37) hX (dk DX0_hear 6 rfl) (by decide) (fun hc1 => ?_) (fun hc1 => ?_)
    · refine g_return hX (dk DX0_hear 19 rfl) rfl (by decide) (by decide) ?_
      exact qV_of ⟨hS, h13, rfl⟩
    · obtain ⟨k, rfl⟩ := cl_go hk (by omega) hc1
      obtain ⟨g1, g2, g3, g4, g5, g6⟩ := hW.2.2.1 d (by omega)
      refine g_aload_0 hX (dk DX0_hear 7 rfl) ?_
      refine g_getRs (r := 1) hX (dk DX0_hear 8 rfl) KX0 fX0_34 (by decide) rfl (CLt hH (q := 13) (by decide)) (CC hH 13 (by decide) rfl) (CR hH 13 0 1 (by decide)) ?_
      refine g_iload_1 hX (dk DX0_hear 9 rfl) ?_
      refine g_c2R hX sX0_hear_18 (by decide) (Nat.le_of_ble_eq_true rfl) (rc0 rfl (CLt hH (by decide)) (CC hH 1 (by decide) rfl)) (by decide) (by decide) (c_X5_find hG hW (by omega)) ?_
      refine g_astore_2 hX (dk DX0_hear 11 rfl) (by decide) rfl ?_
      refine g_aload_2 hX (dk DX0_hear 12 rfl) ?_
      refine g_ifnullR hX (dk DX0_hear 13 rfl) ?_
      refine g_aload_0 hX (dk DX0_hear 14 rfl) ?_
      refine g_aload_2 hX (dk DX0_hear 15 rfl) ?_
      refine g_c2v hX sX0_hear_28 (by decide) (Nat.le_of_ble_eq_true rfl) (rc0 rfl (CLt hH (by decide)) (CC hH 13 (by decide) rfl)) (by decide) (by decide) (w_X0_hearOf hG hW (d := d) (by omega) g3 g2 g4 g5) ?_
      rintro J2 _ ⟨hS2, h132, rfl⟩
      refine g_iinc_1 hX (dk DX0_hear 17 rfl) (nI_1 d) (by decide) rfl ?_
      refine g_goto (tgt := 2) hX (dk DX0_hear 18 rfl) (by decide) ?_
      exact g_fgt (ih k (by omega) (d + 1) _ (by omega) (hS.trans hS2) (h132.trans h13)) ⟨rfl, rfl, trivial⟩
  refine g_iconst (v := 0) hX (dk DX0_hear 0 rfl) (by decide) ?_
  refine g_istore_1 hX (dk DX0_hear 1 rfl) (by decide) rfl ?_
  exact g_fgt (loop2 (cN I) 0 I (Nat.zero_add _) Sc.rf rfl) ⟨rfl, rfl, trivial⟩

set_option maxRecDepth 8000 in
set_option maxHeartbeats 4000000 in
theorem w_X0_goingOver {G : Gt} (hG : Gok G) {I : It} {h : Ht}  (hW : WX I h) {hq2 : Nat} (hh : hq2 < hn h) (hhs : hs h hq2 = (20, 4)) : Con G (5) 0 0 mX0_goingOver [.ref 13, .ref hq2] I h (qI (fun _ I2 h2 => I2 = I ∧ h2 = h)) := by
  refine con_intro (own := RX0) (lo0 := [some (.ref 13), some (.ref hq2), none, none, none]) hG rfl pl_X0 (Nat.le_of_ble_eq_true rfl) rfl (fun X hX => ?_)
  have hH := hW.1
  have hc10 := hW.2.1.2
  have loop4 : ∀ (k d : Nat) (z : Int32), d + k = cN I → GG G (5) 0 0 X (qI (fun _ I2 h2 => I2 = I ∧ h2 = h)) 4 [some (.ref 13), some (.ref hq2), some (.int z), some (.int (nI d)), none] [] (I) (h) 0 0 := by
    intro k
    induction k using Nat.strongRecOn with | _ k ih => ?_
    intro d z hk
    refine g_iload_3 hX (dk DX0_goingOver 4 rfl) ?_
    refine g_aload_0 hX (dk DX0_goingOver 5 rfl) ?_
    refine g_getRs (r := 1) hX (dk DX0_goingOver 6 rfl) KX0 fX0_34 (by decide) rfl (CLt hH (q := 13) (by decide)) (CC hH 13 (by decide) rfl) (CR hH 13 0 1 (by decide)) ?_
    refine g_getIv hX (dk DX0_goingOver 7 rfl) KX5 fX0_69 (by decide) rfl (CLt hH (q := 1) (by decide)) (CC hH 1 (by decide) rfl) (hW.2.1.1) ?_
    refine g_icmp_ge (tgt := 62) hX (dk DX0_goingOver 8 rfl) (by decide) (fun hc1 => ?_) (fun hc1 => ?_)
    · refine g_iload_2 hX (dk DX0_goingOver 34 rfl) ?_
      refine g_ireturn hX (dk DX0_goingOver 35 rfl) rfl (rfl) (by decide) (by decide) ?_
      exact qI_of ⟨rfl, rfl⟩
    · obtain ⟨k, rfl⟩ := cl_go hk (by omega) hc1
      obtain ⟨g1, g2, g3, g4, g5, g6⟩ := hW.2.2.1 d (by omega)
      refine g_aload_0 hX (dk DX0_goingOver 9 rfl) ?_
      refine g_getRs (r := 1) hX (dk DX0_goingOver 10 rfl) KX0 fX0_34 (by decide) rfl (CLt hH (q := 13) (by decide)) (CC hH 13 (by decide) rfl) (CR hH 13 0 1 (by decide)) ?_
      refine g_iload_3 hX (dk DX0_goingOver 11 rfl) ?_
      refine g_c2R hX sX0_goingOver_20 (by decide) (Nat.le_of_ble_eq_true rfl) (rc0 rfl (CLt hH (by decide)) (CC hH 1 (by decide) rfl)) (by decide) (by decide) (c_X5_find hG hW (by omega)) ?_
      refine g_astore_4 hX (dk DX0_goingOver 13 rfl) (by decide) rfl ?_
      refine g_aload_4 hX (dk DX0_goingOver 14 rfl) ?_
      refine g_ifnullR hX (dk DX0_goingOver 15 rfl) ?_
      refine g_aload_4 hX (dk DX0_goingOver 16 rfl) ?_
      refine g_aload_0 hX (dk DX0_goingOver 17 rfl) ?_
      refine g_getRs (r := 16) hX (dk DX0_goingOver 18 rfl) KX0 fX0_22 (by decide) rfl (CLt hH (q := 13) (by decide)) (CC hH 13 (by decide) rfl) (CR hH 13 4 16 (by decide)) ?_
      refine g_iload_3 hX (dk DX0_goingOver 19 rfl) ?_
      refine i_aaload (i0 := 6) hX (dk DX0_goingOver 20 rfl) (CLt hH (q := 16) (by decide)) (CS hH 16 (by decide) rfl) (by decide) rfl rfl (⟨rfl, by omega, by decide⟩) (SR hH (by omega)) ?_
      refine g_aload_1 hX (dk DX0_goingOver 21 rfl) ?_
      refine g_c3I hX (sD_X0_goingOver_39 _ g4) (by decide) (Nat.le_of_ble_eq_true rfl) (rc0 rfl g3 rfl) (by decide) (by decide) (cD_saidOver hG g3 g4 (SL hH (by omega)) (SA hH (by omega)) hh hhs) ?_
      refine g_aload_4 hX (dk DX0_goingOver 23 rfl) ?_
      refine g_getD (v := _) hX (dk DX0_goingOver 24 rfl) fX0_108 (by decide) g3 g4 (rfl) ?_
      refine g_icmp_lt (tgt := 56) hX (dk DX0_goingOver 25 rfl) (by decide) (fun hc2 => ?_) (fun hc2 => ?_)
      · refine g_iinc_3 hX (dk DX0_goingOver 32 rfl) (nI_1 d) (by decide) rfl ?_
        refine g_goto (tgt := 4) hX (dk DX0_goingOver 33 rfl) (by decide) ?_
        exact g_fgt (ih k (by omega) (d + 1) _ (by omega)) ⟨rfl, rfl, rfl, rfl, trivial⟩
      · refine g_iload_2 hX (dk DX0_goingOver 26 rfl) ?_
        refine g_iconst (v := 1) hX (dk DX0_goingOver 27 rfl) (by decide) ?_
        refine g_iload_3 hX (dk DX0_goingOver 28 rfl) ?_
        refine g_ishl hX (dk DX0_goingOver 29 rfl) ?_
        refine g_ior hX (dk DX0_goingOver 30 rfl) ?_
        refine g_istore_2 hX (dk DX0_goingOver 31 rfl) (by decide) rfl ?_
        refine g_iinc_3 hX (dk DX0_goingOver 32 rfl) (nI_1 d) (by decide) rfl ?_
        refine g_goto (tgt := 4) hX (dk DX0_goingOver 33 rfl) (by decide) ?_
        exact g_fgt (ih k (by omega) (d + 1) _ (by omega)) ⟨rfl, rfl, rfl, rfl, trivial⟩
  refine g_iconst (v := 0) hX (dk DX0_goingOver 0 rfl) (by decide) ?_
  refine g_istore_2 hX (dk DX0_goingOver 1 rfl) (by decide) rfl ?_
  refine g_iconst (v := 0) hX (dk DX0_goingOver 2 rfl) (by decide) ?_
  refine g_istore_3 hX (dk DX0_goingOver 3 rfl) (by decide) rfl ?_
  exact g_fgt (loop4 (cN I) 0 0 (Nat.zero_add _)) ⟨rfl, rfl, rfl, rfl, trivial⟩

