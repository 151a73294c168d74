/-! looking ahead: what is written, not yet what comes of it -/
theorem nI_xor (a b : Nat) : nI a ^^^ nI b = nI (a ^^^ b) := by
  apply Int32.toBitVec.inj
  rw [Int32.toBitVec_xor, nI_bv, nI_bv, nI_bv]
  apply BitVec.eq_of_toNat_eq
  simp [Nat.xor_mod_two_pow]
theorem fm_nI {x r : Nat} (hx : x < 2 ^ 31) (h0 : 0 < r) (hr : r < 2 ^ 31) : fmI (nI x) (nI r) = nI (x % r) := by
  unfold fmI
  rw [nI_xor, if_pos (nI_pos' (Nat.xor_lt_two_pow hx hr)), rem_nI hx h0 hr]
theorem dcell {d x : Nat} (hx : x < 2 ^ 31) : nI d * 60 + fmI (nI x) 60 = nI (d * 60 + x % 60) := by
  rw [show (60 : Int32) = nI 60 from rfl, fm_nI hx (by decide) (by decide), pk_mul, nI_add]
theorem dcell_lt {d x : Nat} (hd : d < 10) : d * 60 + x % 60 < 600 := by
  have := Nat.mod_lt x (show 0 < 60 by decide)
  omega
theorem clamp (n : Int32) : ∃ m, m ≤ 200 ∧ (if (0 : Int32) < (if (200 : Int32) < n then 200 else n) then (if (200 : Int32) < n then 200 else n) else 0) = nI m := by
  by_cases h : (200 : Int32) < n
  · rw [if_pos h, if_pos (by decide)]
    exact ⟨200, by decide, rfl⟩
  · rw [if_neg h]
    by_cases h0 : 0 < n
    · rw [if_pos h0]
      obtain ⟨m, hm, rfl⟩ := in_of (b := 200) (by decide) ⟨Int32.le_of_lt h0, Int32.not_lt.mp h⟩
      exact ⟨m, hm, rfl⟩
    · rw [if_neg h0]
      exact ⟨0, by decide, rfl⟩
theorem SR {h : Ht} (hH : HX h) {d : Nat} (hd : d < 10) : hR h 16 d = some (17 + d) := by
  rcases (by omega : d = 0 ∨ d = 1 ∨ d = 2 ∨ d = 3 ∨ d = 4 ∨ d = 5 ∨ d = 6 ∨ d = 7 ∨ d = 8 ∨ d = 9) with rfl | rfl | rfl | rfl | rfl | rfl | rfl | rfl | rfl | rfl <;> exact CR hH 16 _ _ (by decide)
theorem SA {h : Ht} (hH : HX h) {d : Nat} (hd : d < 10) : hs h (17 + d) = (20, 4) := by
  rcases (by omega : d = 0 ∨ d = 1 ∨ d = 2 ∨ d = 3 ∨ d = 4 ∨ d = 5 ∨ d = 6 ∨ d = 7 ∨ d = 8 ∨ d = 9) with rfl | rfl | rfl | rfl | rfl | rfl | rfl | rfl | rfl | rfl <;> exact CS hH _ (by decide) rfl
theorem SL {h : Ht} (hH : HX h) {d : Nat} (hd : d < 10) : 17 + d < hn h := CLt hH (by omega)
/-- cells 13 and 27 alone, and span stands -/
def P2 (I J : It) : Prop := (∀ a, a ≠ 13 → a ≠ 27 → J a = I a) ∧ J 13 1 = I 13 1
theorem P2.rf {I : It} : P2 I I := ⟨fun _ _ _ => rfl, rfl⟩
theorem P2.trans {I J K : It} (h1 : P2 I J) (h2 : P2 J K) : P2 I K := ⟨fun a z1 z2 => (h2.1 a z1 z2).trans (h1.1 a z1 z2), h2.2.trans h1.2⟩
theorem P2.sc {I J : It} (h : P2 I J) : Sc I J := fun a ha => h.1 a (by omega) (by omega)
theorem P2.u13 {I J : It} {j : Nat} {x : Int32} (h : P2 I J) (hj : j ≠ 1) : P2 I (upI J 13 j x) := ⟨fun a z1 z2 => (upI_off z1).trans (h.1 a z1 z2), (upn (by omega)).trans h.2⟩
theorem P2.u27 {I J : It} {j : Nat} {x : Int32} (h : P2 I J) : P2 I (upI J 27 j x) := ⟨fun a z1 z2 => (upI_off z2).trans (h.1 a z1 z2), (upn (by omega)).trans h.2⟩
theorem on_ix {x : Int32} {m : Nat} (h0 : ¬ x < 0) (h1 : ¬ nI m ≤ x) (hm : m ≤ 200) : idx x (tN x) 200 := by
  obtain ⟨j, hj, rfl⟩ := nI_of h0
  have : j < m := by
    rcases Nat.lt_or_ge j m with z | z
    · exact z
    · exact absurd (nI_le z hj) h1
  exact ⟨by rw [tN_nI hj], by rw [tN_nI hj]; omega, by decide⟩

set_option maxRecDepth 8000 in
set_option maxHeartbeats 4000000 in
theorem c_X0_dearCell {G : Gt} (hG : Gok G) {I : It} {h : Ht}  {a w : Int32} : Con G 2 0 0 mX0_dearCell [.int a, .int w] I h (rI (a * 60 + fmI w 60) I h) := by
  refine con_intro (own := RX0) (lo0 := [some (.int a), some (.int w)]) hG rfl pl_X0 (Nat.le_of_ble_eq_true rfl) rfl (fun X hX => ?_)
  refine g_iload_0 hX (dk DX0_dearCell 0 rfl) ?_
  refine g_bipush (v := 60) hX (dk DX0_dearCell 1 rfl) (by decide) ?_
  refine g_imul hX (dk DX0_dearCell 2 rfl) ?_
  refine g_iload_1 hX (dk DX0_dearCell 3 rfl) ?_
  refine g_bipush (v := 60) hX (dk DX0_dearCell 4 rfl) (by decide) ?_
  refine g_c2I hX sX0_dearCell_7 (by decide) (Nat.le_of_ble_eq_true rfl) rcN (by decide) (by decide) (c_J9_floorMod_7cf53 hG (by decide)) ?_
  refine g_iadd hX (dk DX0_dearCell 6 rfl) ?_
  refine g_ireturn hX (dk DX0_dearCell 7 rfl) rfl (rfl) (by decide) (by decide) ?_
  exact rI_of rfl rfl rfl

set_option maxRecDepth 8000 in
set_option maxHeartbeats 4000000 in
theorem w_X0_lookDear {G : Gt} (hG : Gok G) {I : It} {h : Ht}  (hW : WX I h) {u : Int32} {x : Nat} (hx : x < 2 ^ 31) : Con G 6 0 0 mX0_lookDear [.ref 13, .int u, .int (nI x)] I h (qV (fun I2 h2 => (∀ a, a ≠ 15 → I2 a = I a) ∧ h2 = h)) := by
  refine con_intro (own := RX0) (lo0 := [some (.ref 13), some (.int u), some (.int (nI x)), none, none, none]) hG rfl pl_X0 (Nat.le_of_ble_eq_true rfl) rfl (fun X hX => ?_)
  have hH := hW.1
  have hc10 := hW.2.1.2
  have loop2 : ∀ (k d : Nat) (J : It), d + k = cN I → (∀ a, a ≠ 15 → J a = I a) → GG G 6 0 0 X (qV (fun I2 h2 => (∀ a, a ≠ 15 → I2 a = I a) ∧ h2 = h)) 2 [some (.ref 13), some (.int u), some (.int (nI x)), some (.int (nI d)), none, none] [] (J) (h) 0 0 := by
    intro k
    induction k using Nat.strongRecOn with | _ k ih => ?_
    intro d J hk hJ
    have hS : Sc I J := Sc.of1 hJ (by decide)
    have hWI := hW
    have hW := hW.sc hS
    have eJ : J 1 = I 1 := hS 1 (by omega)
    have ec : cN J = cN I := by unfold cN; rw [eJ]
    refine g_iload_3 hX (dk DX0_lookDear 2 rfl) ?_
    refine g_aload_0 hX (dk DX0_lookDear 3 rfl) ?_
    refine g_getRs (r := 1) hX (dk DX0_lookDear 4 rfl) KX0 fX0_34 (by decide) rfl (CLt hH (q := 13) (by decide)) (CC hH 13 (by decide) rfl) (CR hH 13 0 1 (by decide)) ?_
    refine g_getIv hX (dk DX0_lookDear 5 rfl) KX5 fX0_69 (by decide) rfl (CLt hH (q := 1) (by decide)) (CC hH 1 (by decide) rfl) ((show J 1 2 = nI (cN I) from by rw [eJ]; exact hWI.2.1.1)) ?_
    refine g_icmp_ge (tgt := 76) hX (dk DX0_lookDear 6 rfl) (by decide) (fun hc1 => ?_) (fun hc1 => ?_)
    · refine g_return hX (dk DX0_lookDear 38 rfl) rfl (by decide) (by decide) ?_
      exact qV_of ⟨hJ, rfl⟩
    · obtain ⟨k, rfl⟩ := cl_go hk (by omega) hc1
      obtain ⟨g1, g2, g3, g4, g5, g6⟩ := hW.2.2.1 d (by omega)
      refine g_iload_3 hX (dk DX0_lookDear 7 rfl) ?_
      refine g_iload_2 hX (dk DX0_lookDear 8 rfl) ?_
      refine g_c2I hX sX0_lookDear_15 (by decide) (Nat.le_of_ble_eq_true rfl) rcN (by decide) (by decide) (c_X0_dearCell hG) ?_
      refine g_nmI (nI (d * 60 + x % 60)) (dcell (by omega)) ?_
      refine g_istore_4 hX (dk DX0_lookDear 10 rfl) (by decide) rfl ?_
      refine g_aload_0 hX (dk DX0_lookDear 11 rfl) ?_
      refine g_getRs (r := 1) hX (dk DX0_lookDear 12 rfl) KX0 fX0_34 (by decide) rfl (CLt hH (q := 13) (by decide)) (CC hH 13 (by decide) rfl) (CR hH 13 0 1 (by decide)) ?_
      refine g_iload_3 hX (dk DX0_lookDear 13 rfl) ?_
      refine g_c2R hX sX0_lookDear_25 (by decide) (Nat.le_of_ble_eq_true rfl) (rc0 rfl (CLt hH (by decide)) (CC hH 1 (by decide) rfl)) (by decide) (by decide) (c_X5_find hG hW (by omega)) ?_
      refine g_astore_5 hX (dk DX0_lookDear 15 rfl) (by decide) rfl ?_
      refine g_aload_5 hX (dk DX0_lookDear 16 rfl) ?_
      refine g_ifnullR hX (dk DX0_lookDear 17 rfl) ?_
      refine g_iload_1 hX (dk DX0_lookDear 18 rfl) ?_
      refine g_iload_3 hX (dk DX0_lookDear 19 rfl) ?_
      refine g_c2I hX sX0_lookDear_37 (by decide) (Nat.le_of_ble_eq_true rfl) rcN (by decide) (by decide) (c_X11_bit hG ) ?_
      refine g_if_eq (tgt := 70) hX (dk DX0_lookDear 21 rfl) (by decide) (fun hc2 => ?_) (fun hc2 => ?_)
      · refine g_iinc_3 hX (dk DX0_lookDear 36 rfl) (nI_1 d) (by decide) rfl ?_
        refine g_goto (tgt := 2) hX (dk DX0_lookDear 37 rfl) (by decide) ?_
        exact g_fgt (ih k (by omega) (d + 1) _ (by omega) (fun a ha => by first | exact hJ a ha | (rw [upI_off ha]; exact hJ a ha))) ⟨rfl, rfl, rfl, rfl, trivial⟩
      · refine g_aload_0 hX (dk DX0_lookDear 22 rfl) ?_
        refine g_getRs (r := 15) hX (dk DX0_lookDear 23 rfl) KX0 fX0_17 (by decide) rfl (CLt hH (q := 13) (by decide)) (CC hH 13 (by decide) rfl) (CR hH 13 3 15 (by decide)) ?_
        refine g_iload_4 hX (dk DX0_lookDear 24 rfl) ?_
        refine i_iaload hX (dk DX0_lookDear 25 rfl) (CLt hH (q := 15) (by decide)) (CS hH 15 (by decide) rfl) (⟨rfl, dcell_lt (by omega), by decide⟩) ?_
        refine g_if_ge (tgt := 70) hX (dk DX0_lookDear 26 rfl) (by decide) (fun hc3 => ?_) (fun hc3 => ?_)
        · refine g_iinc_3 hX (dk DX0_lookDear 36 rfl) (nI_1 d) (by decide) rfl ?_
          refine g_goto (tgt := 2) hX (dk DX0_lookDear 37 rfl) (by decide) ?_
          exact g_fgt (ih k (by omega) (d + 1) _ (by omega) (fun a ha => by first | exact hJ a ha | (rw [upI_off ha]; exact hJ a ha))) ⟨rfl, rfl, rfl, rfl, trivial⟩
        · refine g_aload_0 hX (dk DX0_lookDear 27 rfl) ?_
          refine g_getRs (r := 15) hX (dk DX0_lookDear 28 rfl) KX0 fX0_17 (by decide) rfl (CLt hH (q := 13) (by decide)) (CC hH 13 (by decide) rfl) (CR hH 13 3 15 (by decide)) ?_
          refine g_iload_4 hX (dk DX0_lookDear 29 rfl) ?_
          refine g_aload_0 hX (dk DX0_lookDear 30 rfl) ?_
          refine g_getRs (r := 1) hX (dk DX0_lookDear 31 rfl) KX0 fX0_34 (by decide) rfl (CLt hH (q := 13) (by decide)) (CC hH 13 (by decide) rfl) (CR hH 13 0 1 (by decide)) ?_
          refine g_aload_5 hX (dk DX0_lookDear 32 rfl) ?_
          refine g_iload_2 hX (dk DX0_lookDear 33 rfl) ?_
          refine g_c3I hX sX0_lookDear_66 (by decide) (Nat.le_of_ble_eq_true rfl) (rc0 rfl (CLt hH (by decide)) (CC hH 1 (by decide) rfl)) (by decide) (by decide) (c_X5_dearIn hG hW g3 g4) ?_
          refine i_iastore hX (dk DX0_lookDear 35 rfl) (CLt hH (q := 15) (by decide)) (CS hH 15 (by decide) rfl) (⟨rfl, dcell_lt (by omega), by decide⟩) ?_
          refine g_iinc_3 hX (dk DX0_lookDear 36 rfl) (nI_1 d) (by decide) rfl ?_
          refine g_goto (tgt := 2) hX (dk DX0_lookDear 37 rfl) (by decide) ?_
          exact g_fgt (ih k (by omega) (d + 1) _ (by omega) (fun a ha => by first | exact hJ a ha | (rw [upI_off ha]; exact hJ a ha))) ⟨rfl, rfl, rfl, rfl, trivial⟩
  refine g_iconst (v := 0) hX (dk DX0_lookDear 0 rfl) (by decide) ?_
  refine g_istore_3 hX (dk DX0_lookDear 1 rfl) (by decide) rfl ?_
  exact g_fgt (loop2 (cN I) 0 I (Nat.zero_add _) (fun _ _ => rfl)) ⟨rfl, rfl, rfl, rfl, trivial⟩

set_option maxRecDepth 8000 in
set_option maxHeartbeats 4000000 in
theorem w_X0_look {G : Gt} (hG : Gok G) {I : It} {h : Ht}  (hW : WX I h) {n : Int32} : Con G 7 0 0 mX0_look [.ref 13, .int n] I h (qV (fun I2 h2 => Sc I I2 ∧ h2 = h ∧ ∃ m, m ≤ 200 ∧ I2 13 1 = nI m)) := by
  refine con_intro (own := RX0) (lo0 := [some (.ref 13), some (.int n), none]) hG rfl pl_X0 (Nat.le_of_ble_eq_true rfl) rfl (fun X hX => ?_)
  have hH := hW.1
  have hc10 := hW.2.1.2
  have loop25 : ∀ m, m ≤ 200 → ∀ (k j : Nat) (J : It), Sc I J → J 13 1 = nI m → j + k = m → GG G 7 0 0 X (qV (fun I2 h2 => Sc I I2 ∧ h2 = h ∧ ∃ m, m ≤ 200 ∧ I2 13 1 = nI m)) 25 [some (.ref 13), some (.int n), some (.int (nI j))] [] (J) (h) 0 0 := by
    intro m hm k
    induction k using Nat.strongRecOn with | _ k ih => ?_
    intro j J hS hsp hk
    have hw9 := hW.2.2.2.2.1.2
    have hWI := hW
    have hW := hW.sc hS
    have eJ : J 1 = I 1 := hS 1 (by omega)
    have ec : cN J = cN I := by unfold cN; rw [eJ]
    refine g_iload_2 hX (dk DX0_look 13 rfl) ?_
    refine g_aload_0 hX (dk DX0_look 14 rfl) ?_
    refine g_getIv hX (dk DX0_look 15 rfl) KX0 fX0_47 (by decide) rfl (CLt hH (q := 13) (by decide)) (CC hH 13 (by decide) rfl) (hsp) ?_
    refine g_icmp_ge (tgt := 80) hX (dk DX0_look 16 rfl) (by decide) (fun hc1 => ?_) (fun hc1 => ?_)
    · refine g_return hX (dk DX0_look 42 rfl) rfl (by decide) (by decide) ?_
      exact qV_of ⟨hS, rfl, m, hm, hsp⟩
    · obtain ⟨k, rfl⟩ := ct_go hk (by omega) hc1
      refine g_aload_0 hX (dk DX0_look 17 rfl) ?_
      refine g_getRs (r := 14) hX (dk DX0_look 18 rfl) KX0 fX0_9 (by decide) rfl (CLt hH (q := 13) (by decide)) (CC hH 13 (by decide) rfl) (CR hH 13 2 14 (by decide)) ?_
      refine g_iload_2 hX (dk DX0_look 19 rfl) ?_
      refine g_aload_0 hX (dk DX0_look 20 rfl) ?_
      refine g_getRs (r := 1) hX (dk DX0_look 21 rfl) KX0 fX0_34 (by decide) rfl (CLt hH (q := 13) (by decide)) (CC hH 13 (by decide) rfl) (CR hH 13 0 1 (by decide)) ?_
      refine g_aload_0 hX (dk DX0_look 22 rfl) ?_
      refine g_getRs (r := 1) hX (dk DX0_look 23 rfl) KX0 fX0_34 (by decide) rfl (CLt hH (q := 13) (by decide)) (CC hH 13 (by decide) rfl) (CR hH 13 0 1 (by decide)) ?_
      refine g_getIv hX (dk DX0_look 24 rfl) KX5 fX0_57 (by decide) rfl (CLt hH (q := 1) (by decide)) (CC hH 1 (by decide) rfl) ((show J 1 6 = nI (wN I) from by rw [eJ]; exact hWI.2.2.2.2.1.1)) ?_
      refine g_iload_2 hX (dk DX0_look 25 rfl) ?_
      refine g_iadd hX (dk DX0_look 26 rfl) ?_
      refine g_nmI (nI (wN I + j)) (nI_add _ _) ?_
      refine g_c2I hX sX0_look_51 (by decide) (Nat.le_of_ble_eq_true rfl) (rc0 rfl (CLt hH (by decide)) (CC hH 1 (by decide) rfl)) (by decide) (by decide) (c_X5_coming hG hW) ?_
      refine i_iastore hX (dk DX0_look 28 rfl) (CLt hH (q := 14) (by decide)) (CS hH 14 (by decide) rfl) (⟨rfl, by omega, by decide⟩) ?_
      refine g_aload_0 hX (dk DX0_look 29 rfl) ?_
      refine g_aload_0 hX (dk DX0_look 30 rfl) ?_
      refine g_getRs (r := 14) hX (dk DX0_look 31 rfl) KX0 fX0_9 (by decide) rfl (CLt hH (q := 13) (by decide)) (CC hH 13 (by decide) rfl) (CR hH 13 2 14 (by decide)) ?_
      refine g_iload_2 hX (dk DX0_look 32 rfl) ?_
      refine i_iaload hX (dk DX0_look 33 rfl) (CLt hH (q := 14) (by decide)) (CS hH 14 (by decide) rfl) (⟨rfl, by omega, by decide⟩) ?_
      refine g_aload_0 hX (dk DX0_look 34 rfl) ?_
      refine g_getRs (r := 1) hX (dk DX0_look 35 rfl) KX0 fX0_34 (by decide) rfl (CLt hH (q := 13) (by decide)) (CC hH 13 (by decide) rfl) (CR hH 13 0 1 (by decide)) ?_
      refine g_getIv hX (dk DX0_look 36 rfl) KX5 fX0_57 (by decide) rfl (CLt hH (q := 1) (by decide)) (CC hH 1 (by decide) rfl) ((show J 1 6 = nI (wN I) from by rw [eJ]; exact hWI.2.2.2.2.1.1)) ?_
      refine g_iload_2 hX (dk DX0_look 37 rfl) ?_
      refine g_iadd hX (dk DX0_look 38 rfl) ?_
      refine g_nmI (nI (wN I + j)) (nI_add _ _) ?_
      refine g_c3v hX sX0_look_71 (by decide) (Nat.le_of_ble_eq_true rfl) (rc0 rfl (CLt hH (by decide)) (CC hH 13 (by decide) rfl)) (by decide) (by decide) (w_X0_lookDear hG (hW.sc (Sc.rf.up ⟨by decide, by decide⟩)) (x := wN I + j) (by omega)) ?_
      rintro J3 _ ⟨hf, rfl⟩
      refine g_iinc_2 hX (dk DX0_look 40 rfl) (nI_1 j) (by decide) rfl ?_
      refine g_goto (tgt := 25) hX (dk DX0_look 41 rfl) (by decide) ?_
      exact g_fgt (ih k (by omega) (j + 1) J3 (hS.trans ((Sc.rf.up ⟨by decide, by decide⟩).trans (Sc.of1 hf ⟨by decide, by decide⟩))) (by rw [hf 13 (by decide)]; exact hsp) (by omega)) ⟨rfl, rfl, rfl, trivial⟩
  refine g_aload_0 hX (dk DX0_look 0 rfl) ?_
  refine g_iconst (v := 0) hX (dk DX0_look 1 rfl) (by decide) ?_
  refine g_iload_1 hX (dk DX0_look 2 rfl) ?_
  refine g_sipush (v := 200) hX (dk DX0_look 3 rfl) (by decide) ?_
  refine g_c2I hX sX0_look_6 (by decide) (Nat.le_of_ble_eq_true rfl) rcN (by decide) (by decide) (c_J9_min_7cf53 hG) ?_
  refine g_c2I hX sX0_look_9 (by decide) (Nat.le_of_ble_eq_true rfl) rcN (by decide) (by decide) (c_J9_max_7cf53 hG) ?_
  obtain ⟨m, hm, em⟩ := clamp n
  refine g_nmI (nI m) em ?_
  refine g_putI hX (dk DX0_look 6 rfl) KX0 fX0_47 (by decide) rfl (CLt hH (q := 13) (by decide)) (CC hH 13 (by decide) rfl) (Or.inl rfl) (rfl) (rfl) ?_
  refine g_aload_0 hX (dk DX0_look 7 rfl) ?_
  refine g_getRs (r := 15) hX (dk DX0_look 8 rfl) KX0 fX0_17 (by decide) rfl (CLt hH (q := 13) (by decide)) (CC hH 13 (by decide) rfl) (CR hH 13 3 15 (by decide)) ?_
  refine g_iconst (v := -1) hX (dk DX0_look 9 rfl) (by decide) ?_
  refine g_c2v hX sX0_look_20 (by decide) (Nat.le_of_ble_eq_true rfl) rcN (by decide) (by decide) (c_J7_fill_53178 hG (len := 600) (CLt hH (q := 15) (by decide)) (CS hH 15 (by decide) rfl) (by decide)) ?_
  rintro J2 _ ⟨hf1, hf2, hf3, rfl⟩
  have hS : Sc I J2 := (Sc.rf.up ⟨by decide, by decide⟩).trans (Sc.of1 hf3 ⟨by decide, by decide⟩)
  have hsp : J2 13 1 = nI m := by rw [hf3 13 (by decide), up0]
  refine g_iconst (v := 0) hX (dk DX0_look 11 rfl) (by decide) ?_
  refine g_istore_2 hX (dk DX0_look 12 rfl) (by decide) rfl ?_
  exact g_fgt (loop25 m hm m 0 J2 hS hsp (Nat.zero_add _)) ⟨rfl, rfl, rfl, trivial⟩

set_option maxRecDepth 8000 in
set_option maxHeartbeats 4000000 in
theorem w_X0_hearOf {G : Gt} (hG : Gok G) {I : It} {h : Ht}  (hW : WX I h) {q : Nat} {d : Nat} (hd : d < 10) (hq : q < hn h) (h73 : 73 ≤ q) (hdc : isDC (hs h q).1) (hi : I q 0 = nI d) : Con G 6 0 0 mX0_hearOf [.ref 13, .ref q] I h (qV (fun I2 h2 => Sc I I2 ∧ h2 = h)) := by
  refine con_intro (own := RX0) (lo0 := [some (.ref 13), some (.ref q), none]) hG rfl pl_X0 (Nat.le_of_ble_eq_true rfl) rfl (fun X hX => ?_)
  have hH := hW.1
  have hc10 := hW.2.1.2
  have loop2 : ∀ (k y : Nat) (J : It), y + k = 4 → Sc I J → GG G 6 0 0 X (qV (fun I2 h2 => Sc I I2 ∧ h2 = h)) 2 [some (.ref 13), some (.ref q), some (.int (nI y))] [] (J) (h) 0 0 := by
    intro k
    induction k using Nat.strongRecOn with | _ k ih => ?_
    intro y J hk hS
    have hWI := hW
    have hW := hW.sc hS
    have eJ : J 1 = I 1 := hS 1 (by omega)
    have ec : cN J = cN I := by unfold cN; rw [eJ]
    refine g_iload_2 hX (dk DX0_hearOf 2 rfl) ?_
    refine g_iconst (v := 4) hX (dk DX0_hearOf 3 rfl) (by decide) ?_
    refine g_icmp_ge (tgt := 33) hX (dk DX0_hearOf 4 rfl) (by decide) (fun hc1 => ?_) (fun hc1 => ?_)
    · refine g_return hX (dk DX0_hearOf 19 rfl) rfl (by decide) (by decide) ?_
      exact qV_of ⟨hS, rfl⟩
    · obtain ⟨k, rfl⟩ := cl_go (e := 4) hk (by decide) hc1
      refine g_aload_0 hX (dk DX0_hearOf 5 rfl) ?_
      refine g_getRs (r := 16) hX (dk DX0_hearOf 6 rfl) KX0 fX0_22 (by decide) rfl (CLt hH (q := 13) (by decide)) (CC hH 13 (by decide) rfl) (CR hH 13 4 16 (by decide)) ?_
      refine g_aload_1 hX (dk DX0_hearOf 7 rfl) ?_
      refine g_getD (v := _) hX (dk DX0_hearOf 8 rfl) fX0_93 (by decide) hq hdc ((by rw [hS q (by omega)]; exact hi)) ?_
      refine i_aaload (i0 := 6) hX (dk DX0_hearOf 9 rfl) (CLt hH (q := 16) (by decide)) (CS hH 16 (by decide) rfl) (by decide) rfl rfl (⟨rfl, hd, by decide⟩) (SR hH hd) ?_
      refine g_iload_2 hX (dk DX0_hearOf 10 rfl) ?_
      refine g_aload_0 hX (dk DX0_hearOf 11 rfl) ?_
      refine g_getRs (r := 1) hX (dk DX0_hearOf 12 rfl) KX0 fX0_34 (by decide) rfl (CLt hH (q := 13) (by decide)) (CC hH 13 (by decide) rfl) (CR hH 13 0 1 (by decide)) ?_
      refine g_aload_1 hX (dk DX0_hearOf 13 rfl) ?_
      refine g_iload_2 hX (dk DX0_hearOf 14 rfl) ?_
      refine g_c3I hX sX0_hearOf_23 (by decide) (Nat.le_of_ble_eq_true rfl) (rc0 rfl (CLt hH (by decide)) (CC hH 1 (by decide) rfl)) (by decide) (by decide) (c_X5_saidBy hG hW hq hdc) ?_
      refine i_iastore hX (dk DX0_hearOf 16 rfl) (SL hH hd) (SA hH hd) (⟨rfl, by omega, by decide⟩) ?_
      refine g_iinc_2 hX (dk DX0_hearOf 17 rfl) (nI_1 y) (by decide) rfl ?_
      refine g_goto (tgt := 2) hX (dk DX0_hearOf 18 rfl) (by decide) ?_
      exact g_fgt (ih k (by omega) (y + 1) _ (by omega) (hS.up ⟨by omega, by omega⟩)) ⟨rfl, rfl, rfl, trivial⟩
  refine g_iconst (v := 0) hX (dk DX0_hearOf 0 rfl) (by decide) ?_
  refine g_istore_2 hX (dk DX0_hearOf 1 rfl) (by decide) rfl ?_
  exact g_fgt (loop2 4 0 I (Nat.zero_add _) Sc.rf) ⟨rfl, rfl, rfl, trivial⟩

set_option maxRecDepth 8000 in
set_option maxHeartbeats 4000000 in
theorem w_X0_hear {G : Gt} (hG : Gok G) {I : It} {h : Ht}  (hW : WX I h)  : Con G 7 0 0 mX0_hear [.ref 13] I h (qV (fun I2 h2 => Sc I I2 ∧ h2 = h)) := by
  refine con_intro (own := RX0) (lo0 := [some (.ref 13), none, none]) hG rfl pl_X0 (Nat.le_of_ble_eq_true rfl) rfl (fun X hX => ?_)
  have hH := hW.1
  have hc10 := hW.2.1.2
  have loop2 : ∀ (k d : Nat) (J : It), d + k = cN I → Sc I J → GG G 7 0 0 X (qV (fun I2 h2 => Sc I I2 ∧ h2 = h)) 2 [some (.ref 13), some (.int (nI d)), none] [] (J) (h) 0 0 := by
    intro k
    induction k using Nat.strongRecOn with | _ k ih => ?_
    intro d J hk hS
    have hWI := hW
    have hW := hW.sc hS
    have eJ : J 1 = I 1 := hS 1 (by omega)
    have ec : cN J = cN I := by unfold cN; rw [eJ]
    refine g_iload_1 hX (dk DX0_hear 2 rfl) ?_
    refine g_aload_0 hX (dk DX0_hear 3 rfl) ?_
    refine g_getRs (r := 1) hX (dk DX0_hear 4 rfl) KX0 fX0_34 (by decide) rfl (CLt hH (q := 13) (by decide)) (CC hH 13 (by decide) rfl) (CR hH 13 0 1 (by decide)) ?_
    refine g_getIv hX (dk DX0_hear 5 rfl) KX5 fX0_69 (by decide) rfl (CLt hH (q := 1) (by decide)) (CC hH 1 (by decide) rfl) ((show J 1 2 = nI (cN I) from by rw [eJ]; exact hWI.2.1.1)) ?_
    refine g_icmp_ge (tgt := 37) hX (dk DX0_hear 6 rfl) (by decide) (fun hc1 => ?_) (fun hc1 => ?_)
    · refine g_return hX (dk DX0_hear 19 rfl) rfl (by decide) (by decide) ?_
      exact qV_of ⟨hS, rfl⟩
    · obtain ⟨k, rfl⟩ := cl_go hk (by omega) hc1
      obtain ⟨g1, g2, g3, g4, g5, g6⟩ := hW.2.2.1 d (by omega)
      refine g_aload_0 hX (dk DX0_hear 7 rfl) ?_
      refine g_getRs (r := 1) hX (dk DX0_hear 8 rfl) KX0 fX0_34 (by decide) rfl (CLt hH (q := 13) (by decide)) (CC hH 13 (by decide) rfl) (CR hH 13 0 1 (by decide)) ?_
      refine g_iload_1 hX (dk DX0_hear 9 rfl) ?_
      refine g_c2R hX sX0_hear_18 (by decide) (Nat.le_of_ble_eq_true rfl) (rc0 rfl (CLt hH (by decide)) (CC hH 1 (by decide) rfl)) (by decide) (by decide) (c_X5_find hG hW (by omega)) ?_
      refine g_astore_2 hX (dk DX0_hear 11 rfl) (by decide) rfl ?_
      refine g_aload_2 hX (dk DX0_hear 12 rfl) ?_
      refine g_ifnullR hX (dk DX0_hear 13 rfl) ?_
      refine g_aload_0 hX (dk DX0_hear 14 rfl) ?_
      refine g_aload_2 hX (dk DX0_hear 15 rfl) ?_
      refine g_c2v hX sX0_hear_28 (by decide) (Nat.le_of_ble_eq_true rfl) (rc0 rfl (CLt hH (by decide)) (CC hH 13 (by decide) rfl)) (by decide) (by decide) (w_X0_hearOf hG hW (d := d) (by omega) g3 g2 g4 g5) ?_
      rintro J2 _ ⟨hS2, rfl⟩
      refine g_iinc_1 hX (dk DX0_hear 17 rfl) (nI_1 d) (by decide) rfl ?_
      refine g_goto (tgt := 2) hX (dk DX0_hear 18 rfl) (by decide) ?_
      exact g_fgt (ih k (by omega) (d + 1) _ (by omega) (hS.trans hS2)) ⟨rfl, rfl, trivial⟩
  refine g_iconst (v := 0) hX (dk DX0_hear 0 rfl) (by decide) ?_
  refine g_istore_1 hX (dk DX0_hear 1 rfl) (by decide) rfl ?_
  exact g_fgt (loop2 (cN I) 0 I (Nat.zero_add _) Sc.rf) ⟨rfl, rfl, trivial⟩

set_option maxRecDepth 8000 in
set_option maxHeartbeats 4000000 in
theorem w_X0_goingOver {G : Gt} (hG : Gok G) {I : It} {h : Ht}  (hW : WX I h) {hq2 : Nat} (hh : hq2 < hn h) (hhs : hs h hq2 = (20, 4)) : Con G 5 0 0 mX0_goingOver [.ref 13, .ref hq2] I h (qI (fun _ I2 h2 => I2 = I ∧ h2 = h)) := by
  refine con_intro (own := RX0) (lo0 := [some (.ref 13), some (.ref hq2), none, none, none]) hG rfl pl_X0 (Nat.le_of_ble_eq_true rfl) rfl (fun X hX => ?_)
  have hH := hW.1
  have hc10 := hW.2.1.2
  have loop4 : ∀ (k d : Nat) (z : Int32), d + k = cN I → GG G 5 0 0 X (qI (fun _ I2 h2 => I2 = I ∧ h2 = h)) 4 [some (.ref 13), some (.ref hq2), some (.int z), some (.int (nI d)), none] [] (I) (h) 0 0 := by
    intro k
    induction k using Nat.strongRecOn with | _ k ih => ?_
    intro d z hk
    refine g_iload_3 hX (dk DX0_goingOver 4 rfl) ?_
    refine g_aload_0 hX (dk DX0_goingOver 5 rfl) ?_
    refine g_getRs (r := 1) hX (dk DX0_goingOver 6 rfl) KX0 fX0_34 (by decide) rfl (CLt hH (q := 13) (by decide)) (CC hH 13 (by decide) rfl) (CR hH 13 0 1 (by decide)) ?_
    refine g_getIv hX (dk DX0_goingOver 7 rfl) KX5 fX0_69 (by decide) rfl (CLt hH (q := 1) (by decide)) (CC hH 1 (by decide) rfl) (hW.2.1.1) ?_
    refine g_icmp_ge (tgt := 62) hX (dk DX0_goingOver 8 rfl) (by decide) (fun hc1 => ?_) (fun hc1 => ?_)
    · refine g_iload_2 hX (dk DX0_goingOver 34 rfl) ?_
      refine g_ireturn hX (dk DX0_goingOver 35 rfl) rfl (rfl) (by decide) (by decide) ?_
      exact qI_of ⟨rfl, rfl⟩
    · obtain ⟨k, rfl⟩ := cl_go hk (by omega) hc1
      obtain ⟨g1, g2, g3, g4, g5, g6⟩ := hW.2.2.1 d (by omega)
      refine g_aload_0 hX (dk DX0_goingOver 9 rfl) ?_
      refine g_getRs (r := 1) hX (dk DX0_goingOver 10 rfl) KX0 fX0_34 (by decide) rfl (CLt hH (q := 13) (by decide)) (CC hH 13 (by decide) rfl) (CR hH 13 0 1 (by decide)) ?_
      refine g_iload_3 hX (dk DX0_goingOver 11 rfl) ?_
      refine g_c2R hX sX0_goingOver_20 (by decide) (Nat.le_of_ble_eq_true rfl) (rc0 rfl (CLt hH (by decide)) (CC hH 1 (by decide) rfl)) (by decide) (by decide) (c_X5_find hG hW (by omega)) ?_
      refine g_astore_4 hX (dk DX0_goingOver 13 rfl) (by decide) rfl ?_
      refine g_aload_4 hX (dk DX0_goingOver 14 rfl) ?_
      refine g_ifnullR hX (dk DX0_goingOver 15 rfl) ?_
      refine g_aload_4 hX (dk DX0_goingOver 16 rfl) ?_
      refine g_aload_0 hX (dk DX0_goingOver 17 rfl) ?_
      refine g_getRs (r := 16) hX (dk DX0_goingOver 18 rfl) KX0 fX0_22 (by decide) rfl (CLt hH (q := 13) (by decide)) (CC hH 13 (by decide) rfl) (CR hH 13 4 16 (by decide)) ?_
      refine g_iload_3 hX (dk DX0_goingOver 19 rfl) ?_
      refine i_aaload (i0 := 6) hX (dk DX0_goingOver 20 rfl) (CLt hH (q := 16) (by decide)) (CS hH 16 (by decide) rfl) (by decide) rfl rfl (⟨rfl, by omega, by decide⟩) (SR hH (by omega)) ?_
      refine g_aload_1 hX (dk DX0_goingOver 21 rfl) ?_
      refine g_c3I hX (sD_X0_goingOver_39 _ g4) (by decide) (Nat.le_of_ble_eq_true rfl) (rc0 rfl g3 rfl) (by decide) (by decide) (cD_saidOver hG g3 g4 (SL hH (by omega)) (SA hH (by omega)) hh hhs) ?_
      refine g_aload_4 hX (dk DX0_goingOver 23 rfl) ?_
      refine g_getD (v := _) hX (dk DX0_goingOver 24 rfl) fX0_108 (by decide) g3 g4 (rfl) ?_
      refine g_icmp_lt (tgt := 56) hX (dk DX0_goingOver 25 rfl) (by decide) (fun hc2 => ?_) (fun hc2 => ?_)
      · refine g_iinc_3 hX (dk DX0_goingOver 32 rfl) (nI_1 d) (by decide) rfl ?_
        refine g_goto (tgt := 4) hX (dk DX0_goingOver 33 rfl) (by decide) ?_
        exact g_fgt (ih k (by omega) (d + 1) _ (by omega)) ⟨rfl, rfl, rfl, rfl, trivial⟩
      · refine g_iload_2 hX (dk DX0_goingOver 26 rfl) ?_
        refine g_iconst (v := 1) hX (dk DX0_goingOver 27 rfl) (by decide) ?_
        refine g_iload_3 hX (dk DX0_goingOver 28 rfl) ?_
        refine g_ishl hX (dk DX0_goingOver 29 rfl) ?_
        refine g_ior hX (dk DX0_goingOver 30 rfl) ?_
        refine g_istore_2 hX (dk DX0_goingOver 31 rfl) (by decide) rfl ?_
        refine g_iinc_3 hX (dk DX0_goingOver 32 rfl) (nI_1 d) (by decide) rfl ?_
        refine g_goto (tgt := 4) hX (dk DX0_goingOver 33 rfl) (by decide) ?_
        exact g_fgt (ih k (by omega) (d + 1) _ (by omega)) ⟨rfl, rfl, rfl, rfl, trivial⟩
  refine g_iconst (v := 0) hX (dk DX0_goingOver 0 rfl) (by decide) ?_
  refine g_istore_2 hX (dk DX0_goingOver 1 rfl) (by decide) rfl ?_
  refine g_iconst (v := 0) hX (dk DX0_goingOver 2 rfl) (by decide) ?_
  refine g_istore_3 hX (dk DX0_goingOver 3 rfl) (by decide) rfl ?_
  exact g_fgt (loop4 (cN I) 0 0 (Nat.zero_add _)) ⟨rfl, rfl, rfl, rfl, trivial⟩

set_option maxRecDepth 8000 in
set_option maxHeartbeats 4000000 in
theorem w_X0_stop {G : Gt} (hG : Gok G) {I : It} {h : Ht}  (hW : WX I h) {q x : Nat} {d : Nat} (hd : d < 10) (hq : q < hn h) (h73 : 73 ≤ q) (hdc : isDC (hs h q).1) (hi : I q 0 = nI d) (hx : x < 2 ^ 31) : Con G 4 0 0 mX0_stop [.ref 13, .ref q, .int (nI x)] I h (qV (fun I2 h2 => (∀ a, a ≠ 13 → I2 a = I a) ∧ I2 13 1 = I 13 1 ∧ h2 = h)) := by
  refine con_intro (own := RX0) (lo0 := [some (.ref 13), some (.ref q), some (.int (nI x)), none]) hG rfl pl_X0 (Nat.le_of_ble_eq_true rfl) rfl (fun X hX => ?_)
  have hH := hW.1
  have hc10 := hW.2.1.2
  refine g_aload_0 hX (dk DX0_stop_0 0 rfl) ?_
  refine g_getI hX (dk DX0_stop_0 1 rfl) KX0 fX0_120 (by decide) rfl (CLt hH (q := 13) (by decide)) (CC hH 13 (by decide) rfl) ?_
  refine g_if_ne (tgt := 20) hX (dk DX0_stop_0 2 rfl) (by decide) (fun hc1 => ?_) (fun hc1 => ?_)
  · refine g_aload_0 hX (dk DX0_stop_0 10 rfl) ?_
    refine g_dup hX (dk DX0_stop_0 11 rfl) rfl ?_
    refine g_getI hX (dk DX0_stop_0 12 rfl) KX0 fX0_120 (by decide) rfl (CLt hH (q := 13) (by decide)) (CC hH 13 (by decide) rfl) ?_
    refine g_iconst (v := 1) hX (dk DX0_stop_0 13 rfl) (by decide) ?_
    refine g_iadd hX (dk DX0_stop_0 14 rfl) ?_
    refine g_putI hX (dk DX0_stop_0 15 rfl) KX0 fX0_120 (by decide) rfl (CLt hH (q := 13) (by decide)) (CC hH 13 (by decide) rfl) (Or.inl rfl) (rfl) (rfl) ?_
    refine g_aload_0 hX (dk DX0_stop_0 16 rfl) ?_
    refine g_getI hX (dk DX0_stop_0 17 rfl) KX0 fX0_140 (by decide) rfl (CLt hH (q := 13) (by decide)) (CC hH 13 (by decide) rfl) ?_
    refine g_aload_0 hX (dk DX0_stop_0 18 rfl) ?_
    refine g_getRs (r := 1) hX (dk DX0_stop_0 19 rfl) KX0 fX0_34 (by decide) rfl (CLt hH (q := 13) (by decide)) (CC hH 13 (by decide) rfl) (CR hH 13 0 1 (by decide)) ?_
    refine g_c1I hX sX0_stop_38 (by decide) (Nat.le_of_ble_eq_true rfl) (rc0 rfl (CLt hH (by decide)) (CC hH 1 (by decide) rfl)) (by decide) (by decide) (c_X5_callsAtFirst hG (hW.sc (fun a ha => by simp only [upI_off (show a ≠ 13 by omega)]))) ?_
    refine g_aload_0 hX (dk DX0_stop_0 21 rfl) ?_
    refine g_getRs (r := 1) hX (dk DX0_stop_0 22 rfl) KX0 fX0_34 (by decide) rfl (CLt hH (q := 13) (by decide)) (CC hH 13 (by decide) rfl) (CR hH 13 0 1 (by decide)) ?_
    refine g_c1I hX sX0_stop_45 (by decide) (Nat.le_of_ble_eq_true rfl) (rc0 rfl (CLt hH (by decide)) (CC hH 1 (by decide) rfl)) (by decide) (by decide) (c_X5_callsFading hG (hW.sc (fun a ha => by simp only [upI_off (show a ≠ 13 by omega)]))) ?_
    refine g_iload_2 hX (dk DX0_stop_0 24 rfl) ?_
    refine g_imul hX (dk DX0_stop_0 25 rfl) ?_
    refine g_isub hX (dk DX0_stop_0 26 rfl) ?_
    refine g_icmp_ge (tgt := 58) hX (dk DX0_stop_0 27 rfl) (by decide) (fun hc2 => ?_) (fun hc2 => ?_)
    · refine g_iconst (v := 0) hX (dk DX0_stop_0 30 rfl) (by decide) ?_
      refine g_istore_3 hX (dk DX0_stop_0 31 rfl) (by decide) rfl ?_
      refine g_iload_3 hX (dk DX0_stop_0 32 rfl) ?_
      refine g_if_eq (tgt := 84) hX (dk DX0_stop_0 33 rfl) (by decide) (fun hc3 => ?_) (fun hc3 => absurd (by decide) hc3)
      refine g_aload_0 hX (dk DX0_stop_0 46 rfl) ?_
      refine g_dup hX (dk DX0_stop_0 47 rfl) rfl ?_
      refine g_getI hX (dk DX0_stop_0 48 rfl) KX0 fX0_117 (by decide) rfl (CLt hH (q := 13) (by decide)) (CC hH 13 (by decide) rfl) ?_
      refine g_iload_3 hX (dk DX0_stop_0 49 rfl) ?_
      refine g_if_eq (tgt := 97) hX (dk DX0_stop_0 50 rfl) (by decide) (fun hc4 => ?_) (fun hc4 => absurd (by decide) hc4)
      refine g_aload_0 hX (dk DX0_stop_0 53 rfl) ?_
      refine g_getRs (r := 15) hX (dk DX0_stop_0 54 rfl) KX0 fX0_17 (by decide) rfl (CLt hH (q := 13) (by decide)) (CC hH 13 (by decide) rfl) (CR hH 13 3 15 (by decide)) ?_
      refine g_aload_1 hX (dk DX0_stop_0 55 rfl) ?_
      refine g_getD (v := (nI d)) hX (dk DX0_stop_0 56 rfl) fX0_93 (by decide) hq hdc ((by first | exact hi | (simp only [upI_off (show q ≠ 13 by omega)]; exact hi))) ?_
      refine g_iload_2 hX (dk DX0_stop_0 57 rfl) ?_
      refine g_c2I hX sX0_stop_106 (by decide) (Nat.le_of_ble_eq_true rfl) rcN (by decide) (by decide) (c_X0_dearCell hG) ?_
      refine g_nmI (nI (d * 60 + x % 60)) (dcell (by omega)) ?_
      refine i_iaload hX (dk DX0_stop_0 59 rfl) (CLt hH (q := 15) (by decide)) (CS hH 15 (by decide) rfl) (⟨rfl, dcell_lt (by omega), by decide⟩) ?_
      refine g_iadd hX (dk DX0_stop_1 0 rfl) ?_
      refine g_putI hX (dk DX0_stop_1 1 rfl) KX0 fX0_117 (by decide) rfl (CLt hH (q := 13) (by decide)) (CC hH 13 (by decide) rfl) (Or.inl rfl) (rfl) (rfl) ?_
      refine g_iload_3 hX (dk DX0_stop_1 2 rfl) ?_
      refine g_if_eq (tgt := 128) hX (dk DX0_stop_1 3 rfl) (by decide) (fun hc5 => ?_) (fun hc5 => absurd (by decide) hc5)
      refine g_aload_1 hX (dk DX0_stop_1 8 rfl) ?_
      refine g_c1I hX (sD_X0_stop_129 _ hdc) (by decide) (Nat.le_of_ble_eq_true rfl) (rc0 rfl hq rfl) (by decide) (by decide) (cD_isKnownByStop hG hq hdc) ?_
      refine g_if_eq (tgt := 150) hX (dk DX0_stop_1 10 rfl) (by decide) (fun hc6 => ?_) (fun hc6 => ?_)
      · refine g_return hX (dk DX0_stop_1 20 rfl) rfl (by decide) (by decide) ?_
        exact qV_of ⟨fun a ha => by simp only [upI_off ha], rfl, rfl⟩
      · refine g_aload_0 hX (dk DX0_stop_1 11 rfl) ?_
        refine g_dup hX (dk DX0_stop_1 12 rfl) rfl ?_
        refine g_getI hX (dk DX0_stop_1 13 rfl) KX0 fX0_111 (by decide) rfl (CLt hH (q := 13) (by decide)) (CC hH 13 (by decide) rfl) ?_
        refine g_iconst (v := 1) hX (dk DX0_stop_1 14 rfl) (by decide) ?_
        refine g_aload_1 hX (dk DX0_stop_1 15 rfl) ?_
        refine g_getD (v := (nI d)) hX (dk DX0_stop_1 16 rfl) fX0_93 (by decide) hq hdc ((by first | exact hi | (simp only [upI_off (show q ≠ 13 by omega)]; exact hi))) ?_
        refine g_ishl hX (dk DX0_stop_1 17 rfl) ?_
        refine g_ior hX (dk DX0_stop_1 18 rfl) ?_
        refine g_putI hX (dk DX0_stop_1 19 rfl) KX0 fX0_111 (by decide) rfl (CLt hH (q := 13) (by decide)) (CC hH 13 (by decide) rfl) (Or.inl rfl) (rfl) (rfl) ?_
        refine g_return hX (dk DX0_stop_1 20 rfl) rfl (by decide) (by decide) ?_
        exact qV_of ⟨fun a ha => by simp only [upI_off ha], rfl, rfl⟩
    · refine g_iconst (v := 1) hX (dk DX0_stop_0 28 rfl) (by decide) ?_
      refine g_goto (tgt := 59) hX (dk DX0_stop_0 29 rfl) (by decide) ?_
      refine g_istore_3 hX (dk DX0_stop_0 31 rfl) (by decide) rfl ?_
      refine g_iload_3 hX (dk DX0_stop_0 32 rfl) ?_
      refine g_if_eq (tgt := 84) hX (dk DX0_stop_0 33 rfl) (by decide) (fun hc7 => absurd hc7 (by decide)) (fun hc7 => ?_)
      refine g_aload_0 hX (dk DX0_stop_0 34 rfl) ?_
      refine g_dup hX (dk DX0_stop_0 35 rfl) rfl ?_
      refine g_getI hX (dk DX0_stop_0 36 rfl) KX0 fX0_140 (by decide) rfl (CLt hH (q := 13) (by decide)) (CC hH 13 (by decide) rfl) ?_
      refine g_iconst (v := 1) hX (dk DX0_stop_0 37 rfl) (by decide) ?_
      refine g_iadd hX (dk DX0_stop_0 38 rfl) ?_
      refine g_putI hX (dk DX0_stop_0 39 rfl) KX0 fX0_140 (by decide) rfl (CLt hH (q := 13) (by decide)) (CC hH 13 (by decide) rfl) (Or.inl rfl) (rfl) (rfl) ?_
      refine g_aload_0 hX (dk DX0_stop_0 40 rfl) ?_
      refine g_dup hX (dk DX0_stop_0 41 rfl) rfl ?_
      refine g_getI hX (dk DX0_stop_0 42 rfl) KX0 fX0_123 (by decide) rfl (CLt hH (q := 13) (by decide)) (CC hH 13 (by decide) rfl) ?_
      refine g_iconst (v := 1) hX (dk DX0_stop_0 43 rfl) (by decide) ?_
      refine g_iadd hX (dk DX0_stop_0 44 rfl) ?_
      refine g_putI hX (dk DX0_stop_0 45 rfl) KX0 fX0_123 (by decide) rfl (CLt hH (q := 13) (by decide)) (CC hH 13 (by decide) rfl) (Or.inl rfl) (rfl) (rfl) ?_
      refine g_aload_0 hX (dk DX0_stop_0 46 rfl) ?_
      refine g_dup hX (dk DX0_stop_0 47 rfl) rfl ?_
      refine g_getI hX (dk DX0_stop_0 48 rfl) KX0 fX0_117 (by decide) rfl (CLt hH (q := 13) (by decide)) (CC hH 13 (by decide) rfl) ?_
      refine g_iload_3 hX (dk DX0_stop_0 49 rfl) ?_
      refine g_if_eq (tgt := 97) hX (dk DX0_stop_0 50 rfl) (by decide) (fun hc8 => absurd hc8 (by decide)) (fun hc8 => ?_)
      refine g_iconst (v := 1) hX (dk DX0_stop_0 51 rfl) (by decide) ?_
      refine g_goto (tgt := 110) hX (dk DX0_stop_0 52 rfl) (by decide) ?_
      refine g_iadd hX (dk DX0_stop_1 0 rfl) ?_
      refine g_putI hX (dk DX0_stop_1 1 rfl) KX0 fX0_117 (by decide) rfl (CLt hH (q := 13) (by decide)) (CC hH 13 (by decide) rfl) (Or.inl rfl) (rfl) (rfl) ?_
      refine g_iload_3 hX (dk DX0_stop_1 2 rfl) ?_
      refine g_if_eq (tgt := 128) hX (dk DX0_stop_1 3 rfl) (by decide) (fun hc9 => absurd hc9 (by decide)) (fun hc9 => ?_)
      refine g_aload_1 hX (dk DX0_stop_1 4 rfl) ?_
      refine g_c1I hX (sD_X0_stop_119 _ hdc) (by decide) (Nat.le_of_ble_eq_true rfl) (rc0 rfl hq rfl) (by decide) (by decide) (cD_isKnownByCall hG hq hdc) ?_
      refine g_if_eq (tgt := 150) hX (dk DX0_stop_1 6 rfl) (by decide) (fun hc10 => ?_) (fun hc10 => ?_)
      · refine g_return hX (dk DX0_stop_1 20 rfl) rfl (by decide) (by decide) ?_
        exact qV_of ⟨fun a ha => by simp only [upI_off ha], rfl, rfl⟩
      · refine g_goto (tgt := 135) hX (dk DX0_stop_1 7 rfl) (by decide) ?_
        refine g_aload_0 hX (dk DX0_stop_1 11 rfl) ?_
        refine g_dup hX (dk DX0_stop_1 12 rfl) rfl ?_
        refine g_getI hX (dk DX0_stop_1 13 rfl) KX0 fX0_111 (by decide) rfl (CLt hH (q := 13) (by decide)) (CC hH 13 (by decide) rfl) ?_
        refine g_iconst (v := 1) hX (dk DX0_stop_1 14 rfl) (by decide) ?_
        refine g_aload_1 hX (dk DX0_stop_1 15 rfl) ?_
        refine g_getD (v := (nI d)) hX (dk DX0_stop_1 16 rfl) fX0_93 (by decide) hq hdc ((by first | exact hi | (simp only [upI_off (show q ≠ 13 by omega)]; exact hi))) ?_
        refine g_ishl hX (dk DX0_stop_1 17 rfl) ?_
        refine g_ior hX (dk DX0_stop_1 18 rfl) ?_
        refine g_putI hX (dk DX0_stop_1 19 rfl) KX0 fX0_111 (by decide) rfl (CLt hH (q := 13) (by decide)) (CC hH 13 (by decide) rfl) (Or.inl rfl) (rfl) (rfl) ?_
        refine g_return hX (dk DX0_stop_1 20 rfl) rfl (by decide) (by decide) ?_
        exact qV_of ⟨fun a ha => by simp only [upI_off ha], rfl, rfl⟩
  · refine g_aload_0 hX (dk DX0_stop_0 3 rfl) ?_
    refine g_iload_2 hX (dk DX0_stop_0 4 rfl) ?_
    refine g_putI hX (dk DX0_stop_0 5 rfl) KX0 fX0_126 (by decide) rfl (CLt hH (q := 13) (by decide)) (CC hH 13 (by decide) rfl) (Or.inl rfl) (rfl) (rfl) ?_
    refine g_aload_0 hX (dk DX0_stop_0 6 rfl) ?_
    refine g_aload_1 hX (dk DX0_stop_0 7 rfl) ?_
    refine g_getD (v := (nI d)) hX (dk DX0_stop_0 8 rfl) fX0_93 (by decide) hq hdc ((by first | exact hi | (simp only [upI_off (show q ≠ 13 by omega)]; exact hi))) ?_
    refine g_putI hX (dk DX0_stop_0 9 rfl) KX0 fX0_129 (by decide) rfl (CLt hH (q := 13) (by decide)) (CC hH 13 (by decide) rfl) (Or.inl rfl) (rfl) (rfl) ?_
    refine g_aload_0 hX (dk DX0_stop_0 10 rfl) ?_
    refine g_dup hX (dk DX0_stop_0 11 rfl) rfl ?_
    refine g_getI hX (dk DX0_stop_0 12 rfl) KX0 fX0_120 (by decide) rfl (CLt hH (q := 13) (by decide)) (CC hH 13 (by decide) rfl) ?_
    refine g_iconst (v := 1) hX (dk DX0_stop_0 13 rfl) (by decide) ?_
    refine g_iadd hX (dk DX0_stop_0 14 rfl) ?_
    refine g_putI hX (dk DX0_stop_0 15 rfl) KX0 fX0_120 (by decide) rfl (CLt hH (q := 13) (by decide)) (CC hH 13 (by decide) rfl) (Or.inl rfl) (rfl) (rfl) ?_
    refine g_aload_0 hX (dk DX0_stop_0 16 rfl) ?_
    refine g_getI hX (dk DX0_stop_0 17 rfl) KX0 fX0_140 (by decide) rfl (CLt hH (q := 13) (by decide)) (CC hH 13 (by decide) rfl) ?_
    refine g_aload_0 hX (dk DX0_stop_0 18 rfl) ?_
    refine g_getRs (r := 1) hX (dk DX0_stop_0 19 rfl) KX0 fX0_34 (by decide) rfl (CLt hH (q := 13) (by decide)) (CC hH 13 (by decide) rfl) (CR hH 13 0 1 (by decide)) ?_
    refine g_c1I hX sX0_stop_38 (by decide) (Nat.le_of_ble_eq_true rfl) (rc0 rfl (CLt hH (by decide)) (CC hH 1 (by decide) rfl)) (by decide) (by decide) (c_X5_callsAtFirst hG (hW.sc (fun a ha => by simp only [upI_off (show a ≠ 13 by omega)]))) ?_
    refine g_aload_0 hX (dk DX0_stop_0 21 rfl) ?_
    refine g_getRs (r := 1) hX (dk DX0_stop_0 22 rfl) KX0 fX0_34 (by decide) rfl (CLt hH (q := 13) (by decide)) (CC hH 13 (by decide) rfl) (CR hH 13 0 1 (by decide)) ?_
    refine g_c1I hX sX0_stop_45 (by decide) (Nat.le_of_ble_eq_true rfl) (rc0 rfl (CLt hH (by decide)) (CC hH 1 (by decide) rfl)) (by decide) (by decide) (c_X5_callsFading hG (hW.sc (fun a ha => by simp only [upI_off (show a ≠ 13 by omega)]))) ?_
    refine g_iload_2 hX (dk DX0_stop_0 24 rfl) ?_
    refine g_imul hX (dk DX0_stop_0 25 rfl) ?_
    refine g_isub hX (dk DX0_stop_0 26 rfl) ?_
    refine g_icmp_ge (tgt := 58) hX (dk DX0_stop_0 27 rfl) (by decide) (fun hc11 => ?_) (fun hc11 => ?_)
    · refine g_iconst (v := 0) hX (dk DX0_stop_0 30 rfl) (by decide) ?_
      refine g_istore_3 hX (dk DX0_stop_0 31 rfl) (by decide) rfl ?_
      refine g_iload_3 hX (dk DX0_stop_0 32 rfl) ?_
      refine g_if_eq (tgt := 84) hX (dk DX0_stop_0 33 rfl) (by decide) (fun hc12 => ?_) (fun hc12 => absurd (by decide) hc12)
      refine g_aload_0 hX (dk DX0_stop_0 46 rfl) ?_
      refine g_dup hX (dk DX0_stop_0 47 rfl) rfl ?_
      refine g_getI hX (dk DX0_stop_0 48 rfl) KX0 fX0_117 (by decide) rfl (CLt hH (q := 13) (by decide)) (CC hH 13 (by decide) rfl) ?_
      refine g_iload_3 hX (dk DX0_stop_0 49 rfl) ?_
      refine g_if_eq (tgt := 97) hX (dk DX0_stop_0 50 rfl) (by decide) (fun hc13 => ?_) (fun hc13 => absurd (by decide) hc13)
      refine g_aload_0 hX (dk DX0_stop_0 53 rfl) ?_
      refine g_getRs (r := 15) hX (dk DX0_stop_0 54 rfl) KX0 fX0_17 (by decide) rfl (CLt hH (q := 13) (by decide)) (CC hH 13 (by decide) rfl) (CR hH 13 3 15 (by decide)) ?_
      refine g_aload_1 hX (dk DX0_stop_0 55 rfl) ?_
      refine g_getD (v := (nI d)) hX (dk DX0_stop_0 56 rfl) fX0_93 (by decide) hq hdc ((by first | exact hi | (simp only [upI_off (show q ≠ 13 by omega)]; exact hi))) ?_
      refine g_iload_2 hX (dk DX0_stop_0 57 rfl) ?_
      refine g_c2I hX sX0_stop_106 (by decide) (Nat.le_of_ble_eq_true rfl) rcN (by decide) (by decide) (c_X0_dearCell hG) ?_
      refine g_nmI (nI (d * 60 + x % 60)) (dcell (by omega)) ?_
      refine i_iaload hX (dk DX0_stop_0 59 rfl) (CLt hH (q := 15) (by decide)) (CS hH 15 (by decide) rfl) (⟨rfl, dcell_lt (by omega), by decide⟩) ?_
      refine g_iadd hX (dk DX0_stop_1 0 rfl) ?_
      refine g_putI hX (dk DX0_stop_1 1 rfl) KX0 fX0_117 (by decide) rfl (CLt hH (q := 13) (by decide)) (CC hH 13 (by decide) rfl) (Or.inl rfl) (rfl) (rfl) ?_
      refine g_iload_3 hX (dk DX0_stop_1 2 rfl) ?_
      refine g_if_eq (tgt := 128) hX (dk DX0_stop_1 3 rfl) (by decide) (fun hc14 => ?_) (fun hc14 => absurd (by decide) hc14)
      refine g_aload_1 hX (dk DX0_stop_1 8 rfl) ?_
      refine g_c1I hX (sD_X0_stop_129 _ hdc) (by decide) (Nat.le_of_ble_eq_true rfl) (rc0 rfl hq rfl) (by decide) (by decide) (cD_isKnownByStop hG hq hdc) ?_
      refine g_if_eq (tgt := 150) hX (dk DX0_stop_1 10 rfl) (by decide) (fun hc15 => ?_) (fun hc15 => ?_)
      · refine g_return hX (dk DX0_stop_1 20 rfl) rfl (by decide) (by decide) ?_
        exact qV_of ⟨fun a ha => by simp only [upI_off ha], rfl, rfl⟩
      · refine g_aload_0 hX (dk DX0_stop_1 11 rfl) ?_
        refine g_dup hX (dk DX0_stop_1 12 rfl) rfl ?_
        refine g_getI hX (dk DX0_stop_1 13 rfl) KX0 fX0_111 (by decide) rfl (CLt hH (q := 13) (by decide)) (CC hH 13 (by decide) rfl) ?_
        refine g_iconst (v := 1) hX (dk DX0_stop_1 14 rfl) (by decide) ?_
        refine g_aload_1 hX (dk DX0_stop_1 15 rfl) ?_
        refine g_getD (v := (nI d)) hX (dk DX0_stop_1 16 rfl) fX0_93 (by decide) hq hdc ((by first | exact hi | (simp only [upI_off (show q ≠ 13 by omega)]; exact hi))) ?_
        refine g_ishl hX (dk DX0_stop_1 17 rfl) ?_
        refine g_ior hX (dk DX0_stop_1 18 rfl) ?_
        refine g_putI hX (dk DX0_stop_1 19 rfl) KX0 fX0_111 (by decide) rfl (CLt hH (q := 13) (by decide)) (CC hH 13 (by decide) rfl) (Or.inl rfl) (rfl) (rfl) ?_
        refine g_return hX (dk DX0_stop_1 20 rfl) rfl (by decide) (by decide) ?_
        exact qV_of ⟨fun a ha => by simp only [upI_off ha], rfl, rfl⟩
    · refine g_iconst (v := 1) hX (dk DX0_stop_0 28 rfl) (by decide) ?_
      refine g_goto (tgt := 59) hX (dk DX0_stop_0 29 rfl) (by decide) ?_
      refine g_istore_3 hX (dk DX0_stop_0 31 rfl) (by decide) rfl ?_
      refine g_iload_3 hX (dk DX0_stop_0 32 rfl) ?_
      refine g_if_eq (tgt := 84) hX (dk DX0_stop_0 33 rfl) (by decide) (fun hc16 => absurd hc16 (by decide)) (fun hc16 => ?_)
      refine g_aload_0 hX (dk DX0_stop_0 34 rfl) ?_
      refine g_dup hX (dk DX0_stop_0 35 rfl) rfl ?_
      refine g_getI hX (dk DX0_stop_0 36 rfl) KX0 fX0_140 (by decide) rfl (CLt hH (q := 13) (by decide)) (CC hH 13 (by decide) rfl) ?_
      refine g_iconst (v := 1) hX (dk DX0_stop_0 37 rfl) (by decide) ?_
      refine g_iadd hX (dk DX0_stop_0 38 rfl) ?_
      refine g_putI hX (dk DX0_stop_0 39 rfl) KX0 fX0_140 (by decide) rfl (CLt hH (q := 13) (by decide)) (CC hH 13 (by decide) rfl) (Or.inl rfl) (rfl) (rfl) ?_
      refine g_aload_0 hX (dk DX0_stop_0 40 rfl) ?_
      refine g_dup hX (dk DX0_stop_0 41 rfl) rfl ?_
      refine g_getI hX (dk DX0_stop_0 42 rfl) KX0 fX0_123 (by decide) rfl (CLt hH (q := 13) (by decide)) (CC hH 13 (by decide) rfl) ?_
      refine g_iconst (v := 1) hX (dk DX0_stop_0 43 rfl) (by decide) ?_
      refine g_iadd hX (dk DX0_stop_0 44 rfl) ?_
      refine g_putI hX (dk DX0_stop_0 45 rfl) KX0 fX0_123 (by decide) rfl (CLt hH (q := 13) (by decide)) (CC hH 13 (by decide) rfl) (Or.inl rfl) (rfl) (rfl) ?_
      refine g_aload_0 hX (dk DX0_stop_0 46 rfl) ?_
      refine g_dup hX (dk DX0_stop_0 47 rfl) rfl ?_
      refine g_getI hX (dk DX0_stop_0 48 rfl) KX0 fX0_117 (by decide) rfl (CLt hH (q := 13) (by decide)) (CC hH 13 (by decide) rfl) ?_
      refine g_iload_3 hX (dk DX0_stop_0 49 rfl) ?_
      refine g_if_eq (tgt := 97) hX (dk DX0_stop_0 50 rfl) (by decide) (fun hc17 => absurd hc17 (by decide)) (fun hc17 => ?_)
      refine g_iconst (v := 1) hX (dk DX0_stop_0 51 rfl) (by decide) ?_
      refine g_goto (tgt := 110) hX (dk DX0_stop_0 52 rfl) (by decide) ?_
      refine g_iadd hX (dk DX0_stop_1 0 rfl) ?_
      refine g_putI hX (dk DX0_stop_1 1 rfl) KX0 fX0_117 (by decide) rfl (CLt hH (q := 13) (by decide)) (CC hH 13 (by decide) rfl) (Or.inl rfl) (rfl) (rfl) ?_
      refine g_iload_3 hX (dk DX0_stop_1 2 rfl) ?_
      refine g_if_eq (tgt := 128) hX (dk DX0_stop_1 3 rfl) (by decide) (fun hc18 => absurd hc18 (by decide)) (fun hc18 => ?_)
      refine g_aload_1 hX (dk DX0_stop_1 4 rfl) ?_
      refine g_c1I hX (sD_X0_stop_119 _ hdc) (by decide) (Nat.le_of_ble_eq_true rfl) (rc0 rfl hq rfl) (by decide) (by decide) (cD_isKnownByCall hG hq hdc) ?_
      refine g_if_eq (tgt := 150) hX (dk DX0_stop_1 6 rfl) (by decide) (fun hc19 => ?_) (fun hc19 => ?_)
      · refine g_return hX (dk DX0_stop_1 20 rfl) rfl (by decide) (by decide) ?_
        exact qV_of ⟨fun a ha => by simp only [upI_off ha], rfl, rfl⟩
      · refine g_goto (tgt := 135) hX (dk DX0_stop_1 7 rfl) (by decide) ?_
        refine g_aload_0 hX (dk DX0_stop_1 11 rfl) ?_
        refine g_dup hX (dk DX0_stop_1 12 rfl) rfl ?_
        refine g_getI hX (dk DX0_stop_1 13 rfl) KX0 fX0_111 (by decide) rfl (CLt hH (q := 13) (by decide)) (CC hH 13 (by decide) rfl) ?_
        refine g_iconst (v := 1) hX (dk DX0_stop_1 14 rfl) (by decide) ?_
        refine g_aload_1 hX (dk DX0_stop_1 15 rfl) ?_
        refine g_getD (v := (nI d)) hX (dk DX0_stop_1 16 rfl) fX0_93 (by decide) hq hdc ((by first | exact hi | (simp only [upI_off (show q ≠ 13 by omega)]; exact hi))) ?_
        refine g_ishl hX (dk DX0_stop_1 17 rfl) ?_
        refine g_ior hX (dk DX0_stop_1 18 rfl) ?_
        refine g_putI hX (dk DX0_stop_1 19 rfl) KX0 fX0_111 (by decide) rfl (CLt hH (q := 13) (by decide)) (CC hH 13 (by decide) rfl) (Or.inl rfl) (rfl) (rfl) ?_
        refine g_return hX (dk DX0_stop_1 20 rfl) rfl (by decide) (by decide) ?_
        exact qV_of ⟨fun a ha => by simp only [upI_off ha], rfl, rfl⟩

set_option maxRecDepth 8000 in
set_option maxHeartbeats 4000000 in
theorem w_X0_stopAll {G : Gt} (hG : Gok G) {I : It} {h : Ht}  (hW : WX I h) {u : Int32} {x : Nat} (hx : x < 2 ^ 31) : Con G 5 0 0 mX0_stopAll [.ref 13, .int u, .int (nI x)] I h (qV (fun I2 h2 => (∀ a, a ≠ 13 → I2 a = I a) ∧ I2 13 1 = I 13 1 ∧ h2 = h)) := by
  refine con_intro (own := RX0) (lo0 := [some (.ref 13), some (.int u), some (.int (nI x)), none, none]) hG rfl pl_X0 (Nat.le_of_ble_eq_true rfl) rfl (fun X hX => ?_)
  have hH := hW.1
  have hc10 := hW.2.1.2
  have loop7 : ∀ (k d : Nat) (J : It), d + k = cN I → (∀ a, a ≠ 13 → J a = I a) → J 13 1 = I 13 1 → GG G 5 0 0 X (qV (fun I2 h2 => (∀ a, a ≠ 13 → I2 a = I a) ∧ I2 13 1 = I 13 1 ∧ h2 = h)) 7 [some (.ref 13), some (.int u), some (.int (nI x)), some (.int (nI d)), none] [] (J) (h) 0 0 := by
    intro k
    induction k using Nat.strongRecOn with | _ k ih => ?_
    intro d J hk hJ hsp
    have hS : Sc I J := Sc.of1 hJ (by decide)
    have hWI := hW
    have hW := hW.sc hS
    have eJ : J 1 = I 1 := hS 1 (by omega)
    have ec : cN J = cN I := by unfold cN; rw [eJ]
    refine g_iload_3 hX (dk DX0_stopAll 5 rfl) ?_
    refine g_aload_0 hX (dk DX0_stopAll 6 rfl) ?_
    refine g_getRs (r := 1) hX (dk DX0_stopAll 7 rfl) KX0 fX0_34 (by decide) rfl (CLt hH (q := 13) (by decide)) (CC hH 13 (by decide) rfl) (CR hH 13 0 1 (by decide)) ?_
    refine g_getIv hX (dk DX0_stopAll 8 rfl) KX5 fX0_69 (by decide) rfl (CLt hH (q := 1) (by decide)) (CC hH 1 (by decide) rfl) ((show J 1 2 = nI (cN I) from by rw [eJ]; exact hWI.2.1.1)) ?_
    refine g_icmp_ge (tgt := 54) hX (dk DX0_stopAll 9 rfl) (by decide) (fun hc1 => ?_) (fun hc1 => ?_)
    · refine g_return hX (dk DX0_stopAll 27 rfl) rfl (by decide) (by decide) ?_
      exact qV_of ⟨hJ, hsp, rfl⟩
    · obtain ⟨k, rfl⟩ := cl_go hk (by omega) hc1
      obtain ⟨g1, g2, g3, g4, g5, g6⟩ := hW.2.2.1 d (by omega)
      refine g_aload_0 hX (dk DX0_stopAll 10 rfl) ?_
      refine g_getRs (r := 1) hX (dk DX0_stopAll 11 rfl) KX0 fX0_34 (by decide) rfl (CLt hH (q := 13) (by decide)) (CC hH 13 (by decide) rfl) (CR hH 13 0 1 (by decide)) ?_
      refine g_iload_3 hX (dk DX0_stopAll 12 rfl) ?_
      refine g_c2R hX sX0_stopAll_23 (by decide) (Nat.le_of_ble_eq_true rfl) (rc0 rfl (CLt hH (by decide)) (CC hH 1 (by decide) rfl)) (by decide) (by decide) (c_X5_find hG hW (by omega)) ?_
      refine g_astore_4 hX (dk DX0_stopAll 14 rfl) (by decide) rfl ?_
      refine g_aload_4 hX (dk DX0_stopAll 15 rfl) ?_
      refine g_ifnullR hX (dk DX0_stopAll 16 rfl) ?_
      refine g_iload_1 hX (dk DX0_stopAll 17 rfl) ?_
      refine g_iload_3 hX (dk DX0_stopAll 18 rfl) ?_
      refine g_c2I hX sX0_stopAll_35 (by decide) (Nat.le_of_ble_eq_true rfl) rcN (by decide) (by decide) (c_X11_bit hG) ?_
      refine g_if_eq (tgt := 48) hX (dk DX0_stopAll 20 rfl) (by decide) (fun hc2 => ?_) (fun hc2 => ?_)
      · refine g_iinc_3 hX (dk DX0_stopAll 25 rfl) (nI_1 d) (by decide) rfl ?_
        refine g_goto (tgt := 7) hX (dk DX0_stopAll 26 rfl) (by decide) ?_
        first
        | exact g_fgt (ih k (by omega) (d + 1) J2 (by omega) (fun a ha => (hf a ha).trans (hJ a ha)) (hf2.trans hsp)) ⟨rfl, rfl, rfl, rfl, trivial⟩
        | exact g_fgt (ih k (by omega) (d + 1) J (by omega) hJ hsp) ⟨rfl, rfl, rfl, rfl, trivial⟩
      · refine g_aload_0 hX (dk DX0_stopAll 21 rfl) ?_
        refine g_aload_4 hX (dk DX0_stopAll 22 rfl) ?_
        refine g_iload_2 hX (dk DX0_stopAll 23 rfl) ?_
        refine g_c3v hX sX0_stopAll_45 (by decide) (Nat.le_of_ble_eq_true rfl) (rc0 rfl (CLt hH (by decide)) (CC hH 13 (by decide) rfl)) (by decide) (by decide) (w_X0_stop hG hW (d := d) (by omega) g3 g2 g4 g5 hx) ?_
        rintro J2 _ ⟨hf, hf2, rfl⟩
        refine g_iinc_3 hX (dk DX0_stopAll 25 rfl) (nI_1 d) (by decide) rfl ?_
        refine g_goto (tgt := 7) hX (dk DX0_stopAll 26 rfl) (by decide) ?_
        first
        | exact g_fgt (ih k (by omega) (d + 1) J2 (by omega) (fun a ha => (hf a ha).trans (hJ a ha)) (hf2.trans hsp)) ⟨rfl, rfl, rfl, rfl, trivial⟩
        | exact g_fgt (ih k (by omega) (d + 1) J (by omega) hJ hsp) ⟨rfl, rfl, rfl, rfl, trivial⟩
  refine g_aload_0 hX (dk DX0_stopAll 0 rfl) ?_
  refine g_iconst (v := 0) hX (dk DX0_stopAll 1 rfl) (by decide) ?_
  refine g_putI hX (dk DX0_stopAll 2 rfl) KX0 fX0_140 (by decide) rfl (CLt hH (q := 13) (by decide)) (CC hH 13 (by decide) rfl) (Or.inl rfl) (rfl) (rfl) ?_
  refine g_iconst (v := 0) hX (dk DX0_stopAll 3 rfl) (by decide) ?_
  refine g_istore_3 hX (dk DX0_stopAll 4 rfl) (by decide) rfl ?_
  exact g_fgt (loop7 (cN I) 0 _ (Nat.zero_add _) (fun a ha => upI_off ha) rfl) ⟨rfl, rfl, rfl, rfl, trivial⟩

set_option maxRecDepth 8000 in
set_option maxHeartbeats 4000000 in
theorem w_X0_pass {G : Gt} (hG : Gok G) {I : It} {h : Ht}  (hW : WX I h) {a b : Int32} {m : Nat} (hm : m ≤ 200) (hsp : I 13 1 = nI m) : Con G 6 0 0 mX0_pass [.ref 13, .int a, .int b] I h (qI (fun _ I2 h2 => P2 I I2 ∧ h2 = h)) := by
  refine con_intro (own := RX0) (lo0 := [some (.ref 13), some (.int a), some (.int b), none]) hG rfl pl_X0 (Nat.le_of_ble_eq_true rfl) rfl (fun X hX => ?_)
  have hH := hW.1
  have hc10 := hW.2.1.2
  have loop39 : ∀ (k j : Nat) (J : It), j + k = m → P2 I J → GG G 6 0 0 X (qI (fun _ I2 h2 => P2 I I2 ∧ h2 = h)) 39 [some (.ref 13), some (.int a), some (.int b), some (.int (nI j))] [] (J) (h) 0 0 := by
    intro k
    induction k using Nat.strongRecOn with | _ k ih => ?_
    intro j J hk hP
    have hw9 := hW.2.2.2.2.1.2
    have hS := hP.sc
    have hWI := hW
    have hW := hW.sc hS
    have eJ : J 1 = I 1 := hS 1 (by omega)
    have ec : cN J = cN I := by unfold cN; rw [eJ]
    refine g_iload_3 hX (dk DX0_pass_0 23 rfl) ?_
    refine g_aload_0 hX (dk DX0_pass_0 24 rfl) ?_
    refine g_getIv hX (dk DX0_pass_0 25 rfl) KX0 fX0_47 (by decide) rfl (CLt hH (q := 13) (by decide)) (CC hH 13 (by decide) rfl) ((hP.2.trans hsp)) ?_
    refine g_icmp_ge (tgt := 135) hX (dk DX0_pass_0 26 rfl) (by decide) (fun hc1 => ?_) (fun hc1 => ?_)
    · refine g_aload_0 hX (dk DX0_pass_1 19 rfl) ?_
      refine g_getI hX (dk DX0_pass_1 20 rfl) KX0 fX0_117 (by decide) rfl (CLt hH (q := 13) (by decide)) (CC hH 13 (by decide) rfl) ?_
      refine g_ireturn hX (dk DX0_pass_1 21 rfl) rfl (rfl) (by decide) (by decide) ?_
      exact qI_of ⟨hP, rfl⟩
    · obtain ⟨k, rfl⟩ := ct_go hk (by omega) hc1
      refine g_aload_0 hX (dk DX0_pass_0 27 rfl) ?_
      refine g_getRs (r := 27) hX (dk DX0_pass_0 28 rfl) KX0 fX0_25 (by decide) rfl (CLt hH (q := 13) (by decide)) (CC hH 13 (by decide) rfl) (CR hH 13 5 27 (by decide)) ?_
      refine g_iload_3 hX (dk DX0_pass_0 29 rfl) ?_
      refine g_aload_0 hX (dk DX0_pass_0 30 rfl) ?_
      refine g_getRs (r := 14) hX (dk DX0_pass_0 31 rfl) KX0 fX0_9 (by decide) rfl (CLt hH (q := 13) (by decide)) (CC hH 13 (by decide) rfl) (CR hH 13 2 14 (by decide)) ?_
      refine g_iload_3 hX (dk DX0_pass_0 32 rfl) ?_
      refine i_iaload hX (dk DX0_pass_0 33 rfl) (CLt hH (q := 14) (by decide)) (CS hH 14 (by decide) rfl) (⟨rfl, by omega, by decide⟩) ?_
      refine g_aload_0 hX (dk DX0_pass_0 34 rfl) ?_
      refine g_getI hX (dk DX0_pass_0 35 rfl) KX0 fX0_114 (by decide) rfl (CLt hH (q := 13) (by decide)) (CC hH 13 (by decide) rfl) ?_
      refine g_iconst (v := -1) hX (dk DX0_pass_0 36 rfl) (by decide) ?_
      refine g_ixor hX (dk DX0_pass_0 37 rfl) ?_
      refine g_iand hX (dk DX0_pass_0 38 rfl) ?_
      refine g_aload_0 hX (dk DX0_pass_0 39 rfl) ?_
      refine g_getI hX (dk DX0_pass_0 40 rfl) KX0 fX0_111 (by decide) rfl (CLt hH (q := 13) (by decide)) (CC hH 13 (by decide) rfl) ?_
      refine g_iconst (v := -1) hX (dk DX0_pass_0 41 rfl) (by decide) ?_
      refine g_ixor hX (dk DX0_pass_0 42 rfl) ?_
      refine g_iand hX (dk DX0_pass_0 43 rfl) ?_
      refine i_iastore hX (dk DX0_pass_0 44 rfl) (CLt hH (q := 27) (by decide)) (CS hH 27 (by decide) rfl) (⟨rfl, by omega, by decide⟩) ?_
      refine g_aload_0 hX (dk DX0_pass_0 45 rfl) ?_
      refine g_getRs (r := 27) hX (dk DX0_pass_0 46 rfl) KX0 fX0_25 (by decide) rfl (CLt hH (q := 13) (by decide)) (CC hH 13 (by decide) rfl) (CR hH 13 5 27 (by decide)) ?_
      refine g_iload_3 hX (dk DX0_pass_0 47 rfl) ?_
      refine i_iaload hX (dk DX0_pass_0 48 rfl) (CLt hH (q := 27) (by decide)) (CS hH 27 (by decide) rfl) (⟨rfl, by omega, by decide⟩) ?_
      refine g_if_eq (tgt := 101) hX (dk DX0_pass_0 49 rfl) (by decide) (fun hc2 => ?_) (fun hc2 => ?_)
      · refine g_aload_0 hX (dk DX0_pass_1 1 rfl) ?_
        refine g_dup hX (dk DX0_pass_1 2 rfl) rfl ?_
        refine g_getI hX (dk DX0_pass_1 3 rfl) KX0 fX0_117 (by decide) rfl (CLt hH (q := 13) (by decide)) (CC hH 13 (by decide) rfl) ?_
        refine g_aload_0 hX (dk DX0_pass_1 4 rfl) ?_
        refine g_getRs (r := 14) hX (dk DX0_pass_1 5 rfl) KX0 fX0_9 (by decide) rfl (CLt hH (q := 13) (by decide)) (CC hH 13 (by decide) rfl) (CR hH 13 2 14 (by decide)) ?_
        refine g_iload_3 hX (dk DX0_pass_1 6 rfl) ?_
        refine i_iaload hX (dk DX0_pass_1 7 rfl) (CLt hH (q := 14) (by decide)) (CS hH 14 (by decide) rfl) (⟨rfl, by omega, by decide⟩) ?_
        refine g_aload_0 hX (dk DX0_pass_1 8 rfl) ?_
        refine g_getI hX (dk DX0_pass_1 9 rfl) KX0 fX0_114 (by decide) rfl (CLt hH (q := 13) (by decide)) (CC hH 13 (by decide) rfl) ?_
        refine g_iand hX (dk DX0_pass_1 10 rfl) ?_
        refine g_aload_0 hX (dk DX0_pass_1 11 rfl) ?_
        refine g_getI hX (dk DX0_pass_1 12 rfl) KX0 fX0_111 (by decide) rfl (CLt hH (q := 13) (by decide)) (CC hH 13 (by decide) rfl) ?_
        refine g_iand hX (dk DX0_pass_1 13 rfl) ?_
        refine g_c1q hX sX0_pass_122 (by decide) (Nat.le_of_ble_eq_true rfl) rcN (by decide) (by decide) (c_J6_bitCount_0f7a4 hG) ?_
        rintro _ _ _ ⟨-, rfl, rfl⟩
        refine g_iadd hX (dk DX0_pass_1 15 rfl) ?_
        refine g_putI hX (dk DX0_pass_1 16 rfl) KX0 fX0_117 (by decide) rfl (CLt hH (q := 13) (by decide)) (CC hH 13 (by decide) rfl) (Or.inl rfl) (rfl) (rfl) ?_
        refine g_iinc_3 hX (dk DX0_pass_1 17 rfl) (nI_1 j) (by decide) rfl ?_
        refine g_goto (tgt := 39) hX (dk DX0_pass_1 18 rfl) (by decide) ?_
        first
        | exact g_fgt (ih k (by omega) (j + 1) _ (by omega) (hP2.u13 (by decide))) ⟨rfl, rfl, rfl, rfl, trivial⟩
        | exact g_fgt (ih k (by omega) (j + 1) _ (by omega) (hP.u27.u13 (by decide))) ⟨rfl, rfl, rfl, rfl, trivial⟩
      · refine g_aload_0 hX (dk DX0_pass_0 50 rfl) ?_
        refine g_aload_0 hX (dk DX0_pass_0 51 rfl) ?_
        refine g_getRs (r := 27) hX (dk DX0_pass_0 52 rfl) KX0 fX0_25 (by decide) rfl (CLt hH (q := 13) (by decide)) (CC hH 13 (by decide) rfl) (CR hH 13 5 27 (by decide)) ?_
        refine g_iload_3 hX (dk DX0_pass_0 53 rfl) ?_
        refine i_iaload hX (dk DX0_pass_0 54 rfl) (CLt hH (q := 27) (by decide)) (CS hH 27 (by decide) rfl) (⟨rfl, by omega, by decide⟩) ?_
        refine g_aload_0 hX (dk DX0_pass_0 55 rfl) ?_
        refine g_getRs (r := 1) hX (dk DX0_pass_0 56 rfl) KX0 fX0_34 (by decide) rfl (CLt hH (q := 13) (by decide)) (CC hH 13 (by decide) rfl) (CR hH 13 0 1 (by decide)) ?_
        refine g_getIv hX (dk DX0_pass_0 57 rfl) KX5 fX0_57 (by decide) rfl (CLt hH (q := 1) (by decide)) (CC hH 1 (by decide) rfl) ((show J 1 6 = nI (wN I) from by rw [eJ]; exact hWI.2.2.2.2.1.1)) ?_
        refine g_iload_3 hX (dk DX0_pass_0 58 rfl) ?_
        refine g_iadd hX (dk DX0_pass_0 59 rfl) ?_
        refine g_nmI (nI (wN I + j)) (nI_add _ _) ?_
        refine g_c3v hX sX0_pass_98 (by decide) (Nat.le_of_ble_eq_true rfl) (rc0 rfl (CLt hH (by decide)) (CC hH 13 (by decide) rfl)) (by decide) (by decide) (w_X0_stopAll hG (hW.sc (Sc.rf.up ⟨by decide, by decide⟩)) (x := wN I + j) (by omega)) ?_
        rintro J2 _ ⟨hf, hf2, rfl⟩
        have hP2 : P2 I J2 := hP.u27.trans ⟨fun a z1 _ => hf a z1, hf2⟩
        refine g_aload_0 hX (dk DX0_pass_1 1 rfl) ?_
        refine g_dup hX (dk DX0_pass_1 2 rfl) rfl ?_
        refine g_getI hX (dk DX0_pass_1 3 rfl) KX0 fX0_117 (by decide) rfl (CLt hH (q := 13) (by decide)) (CC hH 13 (by decide) rfl) ?_
        refine g_aload_0 hX (dk DX0_pass_1 4 rfl) ?_
        refine g_getRs (r := 14) hX (dk DX0_pass_1 5 rfl) KX0 fX0_9 (by decide) rfl (CLt hH (q := 13) (by decide)) (CC hH 13 (by decide) rfl) (CR hH 13 2 14 (by decide)) ?_
        refine g_iload_3 hX (dk DX0_pass_1 6 rfl) ?_
        refine i_iaload hX (dk DX0_pass_1 7 rfl) (CLt hH (q := 14) (by decide)) (CS hH 14 (by decide) rfl) (⟨rfl, by omega, by decide⟩) ?_
        refine g_aload_0 hX (dk DX0_pass_1 8 rfl) ?_
        refine g_getI hX (dk DX0_pass_1 9 rfl) KX0 fX0_114 (by decide) rfl (CLt hH (q := 13) (by decide)) (CC hH 13 (by decide) rfl) ?_
        refine g_iand hX (dk DX0_pass_1 10 rfl) ?_
        refine g_aload_0 hX (dk DX0_pass_1 11 rfl) ?_
        refine g_getI hX (dk DX0_pass_1 12 rfl) KX0 fX0_111 (by decide) rfl (CLt hH (q := 13) (by decide)) (CC hH 13 (by decide) rfl) ?_
        refine g_iand hX (dk DX0_pass_1 13 rfl) ?_
        refine g_c1q hX sX0_pass_122 (by decide) (Nat.le_of_ble_eq_true rfl) rcN (by decide) (by decide) (c_J6_bitCount_0f7a4 hG) ?_
        rintro _ _ _ ⟨-, rfl, rfl⟩
        refine g_iadd hX (dk DX0_pass_1 15 rfl) ?_
        refine g_putI hX (dk DX0_pass_1 16 rfl) KX0 fX0_117 (by decide) rfl (CLt hH (q := 13) (by decide)) (CC hH 13 (by decide) rfl) (Or.inl rfl) (rfl) (rfl) ?_
        refine g_iinc_3 hX (dk DX0_pass_1 17 rfl) (nI_1 j) (by decide) rfl ?_
        refine g_goto (tgt := 39) hX (dk DX0_pass_1 18 rfl) (by decide) ?_
        first
        | exact g_fgt (ih k (by omega) (j + 1) _ (by omega) (hP2.u13 (by decide))) ⟨rfl, rfl, rfl, rfl, trivial⟩
        | exact g_fgt (ih k (by omega) (j + 1) _ (by omega) (hP.u27.u13 (by decide))) ⟨rfl, rfl, rfl, rfl, trivial⟩
  refine g_aload_0 hX (dk DX0_pass_0 0 rfl) ?_
  refine g_iload_1 hX (dk DX0_pass_0 1 rfl) ?_
  refine g_putI hX (dk DX0_pass_0 2 rfl) KX0 fX0_111 (by decide) rfl (CLt hH (q := 13) (by decide)) (CC hH 13 (by decide) rfl) (Or.inl rfl) (rfl) (rfl) ?_
  refine g_aload_0 hX (dk DX0_pass_0 3 rfl) ?_
  refine g_iload_2 hX (dk DX0_pass_0 4 rfl) ?_
  refine g_putI hX (dk DX0_pass_0 5 rfl) KX0 fX0_114 (by decide) rfl (CLt hH (q := 13) (by decide)) (CC hH 13 (by decide) rfl) (Or.inl rfl) (rfl) (rfl) ?_
  refine g_aload_0 hX (dk DX0_pass_0 6 rfl) ?_
  refine g_iconst (v := 0) hX (dk DX0_pass_0 7 rfl) (by decide) ?_
  refine g_putI hX (dk DX0_pass_0 8 rfl) KX0 fX0_117 (by decide) rfl (CLt hH (q := 13) (by decide)) (CC hH 13 (by decide) rfl) (Or.inl rfl) (rfl) (rfl) ?_
  refine g_aload_0 hX (dk DX0_pass_0 9 rfl) ?_
  refine g_iconst (v := 0) hX (dk DX0_pass_0 10 rfl) (by decide) ?_
  refine g_putI hX (dk DX0_pass_0 11 rfl) KX0 fX0_120 (by decide) rfl (CLt hH (q := 13) (by decide)) (CC hH 13 (by decide) rfl) (Or.inl rfl) (rfl) (rfl) ?_
  refine g_aload_0 hX (dk DX0_pass_0 12 rfl) ?_
  refine g_iconst (v := 0) hX (dk DX0_pass_0 13 rfl) (by decide) ?_
  refine g_putI hX (dk DX0_pass_0 14 rfl) KX0 fX0_123 (by decide) rfl (CLt hH (q := 13) (by decide)) (CC hH 13 (by decide) rfl) (Or.inl rfl) (rfl) (rfl) ?_
  refine g_aload_0 hX (dk DX0_pass_0 15 rfl) ?_
  refine g_bipush (v := -5) hX (dk DX0_pass_0 16 rfl) (by decide) ?_
  refine g_putI hX (dk DX0_pass_0 17 rfl) KX0 fX0_126 (by decide) rfl (CLt hH (q := 13) (by decide)) (CC hH 13 (by decide) rfl) (Or.inl rfl) (rfl) (rfl) ?_
  refine g_aload_0 hX (dk DX0_pass_0 18 rfl) ?_
  refine g_bipush (v := -5) hX (dk DX0_pass_0 19 rfl) (by decide) ?_
  refine g_putI hX (dk DX0_pass_0 20 rfl) KX0 fX0_129 (by decide) rfl (CLt hH (q := 13) (by decide)) (CC hH 13 (by decide) rfl) (Or.inl rfl) (rfl) (rfl) ?_
  refine g_iconst (v := 0) hX (dk DX0_pass_0 21 rfl) (by decide) ?_
  refine g_istore_3 hX (dk DX0_pass_0 22 rfl) (by decide) rfl ?_
  exact g_fgt (loop39 m 0 _ (Nat.zero_add _) (((((((P2.rf.u13 (by decide)).u13 (by decide)).u13 (by decide)).u13 (by decide)).u13 (by decide)).u13 (by decide)).u13 (by decide))) ⟨rfl, rfl, rfl, rfl, trivial⟩

set_option maxRecDepth 8000 in
set_option maxHeartbeats 4000000 in
theorem w_X0_costHanded {G : Gt} (hG : Gok G) {I : It} {h : Ht}  (hW : WX I h) {hq2 : Nat} (hh : hq2 < hn h) (hhs : hs h hq2 = (20, 4)) {m : Nat} (hm : m ≤ 200) (hsp : I 13 1 = nI m) : Con G 7 0 0 mX0_costHanded [.ref 13, .ref hq2] I h (qI (fun _ I2 h2 => P2 I I2 ∧ h2 = h)) := by
  refine con_intro (own := RX0) (lo0 := [some (.ref 13), some (.ref hq2)]) hG rfl pl_X0 (Nat.le_of_ble_eq_true rfl) rfl (fun X hX => ?_)
  have hH := hW.1
  have hc10 := hW.2.1.2
  refine g_aload_0 hX (dk DX0_costHanded 0 rfl) ?_
  refine g_aload_0 hX (dk DX0_costHanded 1 rfl) ?_
  refine g_getRs (r := 1) hX (dk DX0_costHanded 2 rfl) KX0 fX0_34 (by decide) rfl (CLt hH (q := 13) (by decide)) (CC hH 13 (by decide) rfl) (CR hH 13 0 1 (by decide)) ?_
  refine g_getI hX (dk DX0_costHanded 3 rfl) KX5 fX0_161 (by decide) rfl (CLt hH (q := 1) (by decide)) (CC hH 1 (by decide) rfl) ?_
  refine g_aload_0 hX (dk DX0_costHanded 4 rfl) ?_
  refine g_aload_1 hX (dk DX0_costHanded 5 rfl) ?_
  refine g_c2q hX sX0_costHanded_10 (by decide) (Nat.le_of_ble_eq_true rfl) (rc0 rfl (CLt hH (by decide)) (CC hH 13 (by decide) rfl)) (by decide) (by decide) (w_X0_goingOver hG hW hh hhs) ?_
  rintro _ _ _ ⟨rfl, rfl⟩
  refine g_ior hX (dk DX0_costHanded 7 rfl) ?_
  refine g_aload_0 hX (dk DX0_costHanded 8 rfl) ?_
  refine g_getRs (r := 1) hX (dk DX0_costHanded 9 rfl) KX0 fX0_34 (by decide) rfl (CLt hH (q := 13) (by decide)) (CC hH 13 (by decide) rfl) (CR hH 13 0 1 (by decide)) ?_
  refine g_getI hX (dk DX0_costHanded 10 rfl) KX5 fX0_166 (by decide) rfl (CLt hH (q := 1) (by decide)) (CC hH 1 (by decide) rfl) ?_
  refine g_c3q hX sX0_costHanded_21 (by decide) (Nat.le_of_ble_eq_true rfl) (rc0 rfl (CLt hH (by decide)) (CC hH 13 (by decide) rfl)) (by decide) (by decide) (w_X0_pass hG hW hm hsp) ?_
  rintro _ J2 _ ⟨hP2, rfl⟩
  refine g_ireturn hX (dk DX0_costHanded 12 rfl) rfl (rfl) (by decide) (by decide) ?_
  exact qI_of ⟨hP2, rfl⟩

set_option maxRecDepth 8000 in
set_option maxHeartbeats 4000000 in
theorem w_X0_hourMore {G : Gt} (hG : Gok G) {I : It} {h : Ht}  (hH : HX h) {y : Int32} : Con G 3 0 0 mX0_hourMore [.ref 13, .int y] I h (fun r I2 h2 => r = some (.ref 28) ∧ (∀ a, a ≠ 28 → I2 a = I a) ∧ h2 = h) := by
  refine con_intro (own := RX0) (lo0 := [some (.ref 13), some (.int y), none]) hG rfl pl_X0 (Nat.le_of_ble_eq_true rfl) rfl (fun X hX => ?_)
  have loop2 : ∀ (k n : Nat) (J : It), n + k = 4 → (∀ a, a ≠ 28 → J a = I a) → GG G 3 0 0 X (fun r I2 h2 => r = some (.ref 28) ∧ (∀ a, a ≠ 28 → I2 a = I a) ∧ h2 = h) 2 [some (.ref 13), some (.int y), some (.int (nI n))] [] (J) (h) 0 0 := by
    intro k
    induction k using Nat.strongRecOn with | _ k ih => ?_
    intro n J hk hf
    refine g_iload_2 hX (dk DX0_hourMore 2 rfl) ?_
    refine g_iconst (v := 4) hX (dk DX0_hourMore 3 rfl) (by decide) ?_
    refine g_icmp_ge (tgt := 39) hX (dk DX0_hourMore 4 rfl) (by decide) (fun hc1 => ?_) (fun hc1 => ?_)
    · refine g_aload_0 hX (dk DX0_hourMore 23 rfl) ?_
      refine g_getRs (r := 28) hX (dk DX0_hourMore 24 rfl) KX0 fX0_28 (by decide) rfl (CLt hH (q := 13) (by decide)) (CC hH 13 (by decide) rfl) (CR hH 13 14 28 (by decide)) ?_
      refine g_areturn (r := some 28) hX (dk DX0_hourMore 25 rfl) rfl rfl (Or.inr ⟨_, rfl⟩) (by decide) (by decide) ?_
      exact ⟨rfl, hf, rfl⟩
    · obtain ⟨k, rfl⟩ := cl_go (e := 4) hk (by decide) hc1
      refine g_aload_0 hX (dk DX0_hourMore 5 rfl) ?_
      refine g_getRs (r := 28) hX (dk DX0_hourMore 6 rfl) KX0 fX0_28 (by decide) rfl (CLt hH (q := 13) (by decide)) (CC hH 13 (by decide) rfl) (CR hH 13 14 28 (by decide)) ?_
      refine g_iload_2 hX (dk DX0_hourMore 7 rfl) ?_
      refine g_aload_0 hX (dk DX0_hourMore 8 rfl) ?_
      refine g_getRs (r := 1) hX (dk DX0_hourMore 9 rfl) KX0 fX0_34 (by decide) rfl (CLt hH (q := 13) (by decide)) (CC hH 13 (by decide) rfl) (CR hH 13 0 1 (by decide)) ?_
      refine g_getRs (r := 4) hX (dk DX0_hourMore 10 rfl) KX5 fX0_101 (by decide) rfl (CLt hH (q := 1) (by decide)) (CC hH 1 (by decide) rfl) (CR hH 1 5 4 (by decide)) ?_
      refine g_iload_2 hX (dk DX0_hourMore 11 rfl) ?_
      refine i_iaload hX (dk DX0_hourMore 12 rfl) (CLt hH (q := 4) (by decide)) (CS hH 4 (by decide) rfl) (⟨rfl, by omega, by decide⟩) ?_
      refine g_iload_2 hX (dk DX0_hourMore 13 rfl) ?_
      refine g_iload_1 hX (dk DX0_hourMore 14 rfl) ?_
      refine g_icmp_ne (tgt := 30) hX (dk DX0_hourMore 15 rfl) (by decide) (fun hc2 => ?_) (fun hc2 => ?_)
      · refine g_iconst (v := 0) hX (dk DX0_hourMore 18 rfl) (by decide) ?_
        refine g_iadd hX (dk DX0_hourMore 19 rfl) ?_
        refine i_iastore hX (dk DX0_hourMore 20 rfl) (CLt hH (q := 28) (by decide)) (CS hH 28 (by decide) rfl) (⟨rfl, by omega, by decide⟩) ?_
        refine g_iinc_2 hX (dk DX0_hourMore 21 rfl) (nI_1 n) (by decide) rfl ?_
        refine g_goto (tgt := 2) hX (dk DX0_hourMore 22 rfl) (by decide) ?_
        exact ih k (by omega) (n + 1) _ (by omega) (fun a ha => by rw [upI_off ha]; exact hf a ha)
      · refine g_iconst (v := 1) hX (dk DX0_hourMore 16 rfl) (by decide) ?_
        refine g_goto (tgt := 31) hX (dk DX0_hourMore 17 rfl) (by decide) ?_
        refine g_iadd hX (dk DX0_hourMore 19 rfl) ?_
        refine i_iastore hX (dk DX0_hourMore 20 rfl) (CLt hH (q := 28) (by decide)) (CS hH 28 (by decide) rfl) (⟨rfl, by omega, by decide⟩) ?_
        refine g_iinc_2 hX (dk DX0_hourMore 21 rfl) (nI_1 n) (by decide) rfl ?_
        refine g_goto (tgt := 2) hX (dk DX0_hourMore 22 rfl) (by decide) ?_
        exact ih k (by omega) (n + 1) _ (by omega) (fun a ha => by rw [upI_off ha]; exact hf a ha)
  refine g_iconst (v := 0) hX (dk DX0_hourMore 0 rfl) (by decide) ?_
  refine g_istore_2 hX (dk DX0_hourMore 1 rfl) (by decide) rfl ?_
  exact g_fgt (loop2 4 0 I (Nat.zero_add _) (fun a ha => rfl)) ⟨rfl, rfl, rfl, trivial⟩

set_option maxRecDepth 8000 in
set_option maxHeartbeats 4000000 in
theorem w_X0_bestOf {G : Gt} (hG : Gok G) {I : It} {h : Ht}  (hW : WX I h) {u z : Int32} {m : Nat} (hm : m ≤ 200) (hsp : I 13 1 = nI m) : Con G 7 0 0 mX0_bestOf [.ref 13, .int u, .int z] I h (qI (fun _ I2 h2 => P2 I I2 ∧ h2 = h)) := by
  refine con_intro (own := RX0) (lo0 := [some (.ref 13), some (.int u), some (.int z), none, none, none, none, none]) hG rfl pl_X0 (Nat.le_of_ble_eq_true rfl) rfl (fun X hX => ?_)
  have hH := hW.1
  have hc10 := hW.2.1.2
  have loop10 : ∀ (k d : Nat) (f l : Int32) (J : It), d + k = cN I → P2 I J → GG G 7 0 0 X (qI (fun _ I2 h2 => P2 I I2 ∧ h2 = h)) 10 [some (.ref 13), some (.int u), some (.int z), some (.int f), some (.int l), some (.int (nI d)), none, none] [] (J) (h) 0 0 := by
    intro k
    induction k using Nat.strongRecOn with | _ k ih => ?_
    intro d f l J hk hP
    have hS := hP.sc
    have hWI := hW
    have hW := hW.sc hS
    have eJ : J 1 = I 1 := hS 1 (by omega)
    have ec : cN J = cN I := by unfold cN; rw [eJ]
    refine g_iload_5 hX (dk DX0_bestOf 6 rfl) ?_
    refine g_aload_0 hX (dk DX0_bestOf 7 rfl) ?_
    refine g_getRs (r := 1) hX (dk DX0_bestOf 8 rfl) KX0 fX0_34 (by decide) rfl (CLt hH (q := 13) (by decide)) (CC hH 13 (by decide) rfl) (CR hH 13 0 1 (by decide)) ?_
    refine g_getIv hX (dk DX0_bestOf 9 rfl) KX5 fX0_69 (by decide) rfl (CLt hH (q := 1) (by decide)) (CC hH 1 (by decide) rfl) ((show J 1 2 = nI (cN I) from by rw [eJ]; exact hWI.2.1.1)) ?_
    refine g_icmp_ge (tgt := 108) hX (dk DX0_bestOf 10 rfl) (by decide) (fun hc1 => ?_) (fun hc1 => ?_)
    · refine g_iload_3 hX (dk DX0_bestOf 52 rfl) ?_
      refine g_ireturn hX (dk DX0_bestOf 53 rfl) rfl (rfl) (by decide) (by decide) ?_
      exact qI_of ⟨hP, rfl⟩
    · obtain ⟨k, rfl⟩ := cl_go hk (by omega) hc1
      refine g_iload_1 hX (dk DX0_bestOf 11 rfl) ?_
      refine g_iload_5 hX (dk DX0_bestOf 12 rfl) ?_
      refine g_c2I hX sX0_bestOf_25 (by decide) (Nat.le_of_ble_eq_true rfl) rcN (by decide) (by decide) (c_X11_bit hG) ?_
      refine g_if_eq (tgt := 102) hX (dk DX0_bestOf 14 rfl) (by decide) (fun hc2 => ?_) (fun hc2 => ?_)
      · refine g_iinc_5 hX (dk DX0_bestOf 50 rfl) (nI_1 d) (by decide) rfl ?_
        refine g_goto (tgt := 10) hX (dk DX0_bestOf 51 rfl) (by decide) ?_
        first
        | exact g_fgt (ih k (by omega) (d + 1) _ _ _ (by omega) (hP.trans hP2)) ⟨rfl, rfl, rfl, rfl, rfl, rfl, trivial⟩
        | exact g_fgt (ih k (by omega) (d + 1) _ _ _ (by omega) hP) ⟨rfl, rfl, rfl, rfl, rfl, rfl, trivial⟩
      · refine g_iconst (v := 1) hX (dk DX0_bestOf 15 rfl) (by decide) ?_
        refine g_iload_5 hX (dk DX0_bestOf 16 rfl) ?_
        refine g_ishl hX (dk DX0_bestOf 17 rfl) ?_
        refine g_istore_6 hX (dk DX0_bestOf 18 rfl) (by decide) rfl ?_
        refine g_iload_2 hX (dk DX0_bestOf 19 rfl) ?_
        refine g_if_eq (tgt := 65) hX (dk DX0_bestOf 20 rfl) (by decide) (fun hc3 => ?_) (fun hc3 => ?_)
        · refine g_aload_0 hX (dk DX0_bestOf 32 rfl) ?_
          refine g_aload_0 hX (dk DX0_bestOf 33 rfl) ?_
          refine g_getRs (r := 1) hX (dk DX0_bestOf 34 rfl) KX0 fX0_34 (by decide) rfl (CLt hH (q := 13) (by decide)) (CC hH 13 (by decide) rfl) (CR hH 13 0 1 (by decide)) ?_
          refine g_getI hX (dk DX0_bestOf 35 rfl) KX5 fX0_161 (by decide) rfl (CLt hH (q := 1) (by decide)) (CC hH 1 (by decide) rfl) ?_
          refine g_aload_0 hX (dk DX0_bestOf 36 rfl) ?_
          refine g_getRs (r := 1) hX (dk DX0_bestOf 37 rfl) KX0 fX0_34 (by decide) rfl (CLt hH (q := 13) (by decide)) (CC hH 13 (by decide) rfl) (CR hH 13 0 1 (by decide)) ?_
          refine g_getI hX (dk DX0_bestOf 38 rfl) KX5 fX0_166 (by decide) rfl (CLt hH (q := 1) (by decide)) (CC hH 1 (by decide) rfl) ?_
          refine g_iload_6 hX (dk DX0_bestOf 39 rfl) ?_
          refine g_ior hX (dk DX0_bestOf 40 rfl) ?_
          refine g_c3q hX sX0_bestOf_83 (by decide) (Nat.le_of_ble_eq_true rfl) (rc0 rfl (CLt hH (by decide)) (CC hH 13 (by decide) rfl)) (by decide) (by decide) (w_X0_pass hG hW hm (hP.2.trans hsp)) ?_
          rintro _ J2 _ ⟨hP2, rfl⟩
          refine g_istore_7 hX (dk DX0_bestOf 42 rfl) (by decide) rfl ?_
          refine g_iload_7 hX (dk DX0_bestOf 43 rfl) ?_
          refine g_iload_4 hX (dk DX0_bestOf 44 rfl) ?_
          refine g_icmp_ge (tgt := 102) hX (dk DX0_bestOf 45 rfl) (by decide) (fun hc4 => ?_) (fun hc4 => ?_)
          · refine g_iinc_5 hX (dk DX0_bestOf 50 rfl) (nI_1 d) (by decide) rfl ?_
            refine g_goto (tgt := 10) hX (dk DX0_bestOf 51 rfl) (by decide) ?_
            first
            | exact g_fgt (ih k (by omega) (d + 1) _ _ _ (by omega) (hP.trans hP2)) ⟨rfl, rfl, rfl, rfl, rfl, rfl, trivial⟩
            | exact g_fgt (ih k (by omega) (d + 1) _ _ _ (by omega) hP) ⟨rfl, rfl, rfl, rfl, rfl, rfl, trivial⟩
          · refine g_iload_7 hX (dk DX0_bestOf 46 rfl) ?_
            refine g_istore_4 hX (dk DX0_bestOf 47 rfl) (by decide) rfl ?_
            refine g_iload_5 hX (dk DX0_bestOf 48 rfl) ?_
            refine g_istore_3 hX (dk DX0_bestOf 49 rfl) (by decide) rfl ?_
            refine g_iinc_5 hX (dk DX0_bestOf 50 rfl) (nI_1 d) (by decide) rfl ?_
            refine g_goto (tgt := 10) hX (dk DX0_bestOf 51 rfl) (by decide) ?_
            first
            | exact g_fgt (ih k (by omega) (d + 1) _ _ _ (by omega) (hP.trans hP2)) ⟨rfl, rfl, rfl, rfl, rfl, rfl, trivial⟩
            | exact g_fgt (ih k (by omega) (d + 1) _ _ _ (by omega) hP) ⟨rfl, rfl, rfl, rfl, rfl, rfl, trivial⟩
        · refine g_aload_0 hX (dk DX0_bestOf 21 rfl) ?_
          refine g_aload_0 hX (dk DX0_bestOf 22 rfl) ?_
          refine g_getRs (r := 1) hX (dk DX0_bestOf 23 rfl) KX0 fX0_34 (by decide) rfl (CLt hH (q := 13) (by decide)) (CC hH 13 (by decide) rfl) (CR hH 13 0 1 (by decide)) ?_
          refine g_getI hX (dk DX0_bestOf 24 rfl) KX5 fX0_161 (by decide) rfl (CLt hH (q := 1) (by decide)) (CC hH 1 (by decide) rfl) ?_
          refine g_iload_6 hX (dk DX0_bestOf 25 rfl) ?_
          refine g_ior hX (dk DX0_bestOf 26 rfl) ?_
          refine g_aload_0 hX (dk DX0_bestOf 27 rfl) ?_
          refine g_getRs (r := 1) hX (dk DX0_bestOf 28 rfl) KX0 fX0_34 (by decide) rfl (CLt hH (q := 13) (by decide)) (CC hH 13 (by decide) rfl) (CR hH 13 0 1 (by decide)) ?_
          refine g_getI hX (dk DX0_bestOf 29 rfl) KX5 fX0_166 (by decide) rfl (CLt hH (q := 1) (by decide)) (CC hH 1 (by decide) rfl) ?_
          refine g_c3q hX sX0_bestOf_59 (by decide) (Nat.le_of_ble_eq_true rfl) (rc0 rfl (CLt hH (by decide)) (CC hH 13 (by decide) rfl)) (by decide) (by decide) (w_X0_pass hG hW hm (hP.2.trans hsp)) ?_
          rintro _ J2 _ ⟨hP2, rfl⟩
          refine g_goto (tgt := 86) hX (dk DX0_bestOf 31 rfl) (by decide) ?_
          refine g_istore_7 hX (dk DX0_bestOf 42 rfl) (by decide) rfl ?_
          refine g_iload_7 hX (dk DX0_bestOf 43 rfl) ?_
          refine g_iload_4 hX (dk DX0_bestOf 44 rfl) ?_
          refine g_icmp_ge (tgt := 102) hX (dk DX0_bestOf 45 rfl) (by decide) (fun hc5 => ?_) (fun hc5 => ?_)
          · refine g_iinc_5 hX (dk DX0_bestOf 50 rfl) (nI_1 d) (by decide) rfl ?_
            refine g_goto (tgt := 10) hX (dk DX0_bestOf 51 rfl) (by decide) ?_
            first
            | exact g_fgt (ih k (by omega) (d + 1) _ _ _ (by omega) (hP.trans hP2)) ⟨rfl, rfl, rfl, rfl, rfl, rfl, trivial⟩
            | exact g_fgt (ih k (by omega) (d + 1) _ _ _ (by omega) hP) ⟨rfl, rfl, rfl, rfl, rfl, rfl, trivial⟩
          · refine g_iload_7 hX (dk DX0_bestOf 46 rfl) ?_
            refine g_istore_4 hX (dk DX0_bestOf 47 rfl) (by decide) rfl ?_
            refine g_iload_5 hX (dk DX0_bestOf 48 rfl) ?_
            refine g_istore_3 hX (dk DX0_bestOf 49 rfl) (by decide) rfl ?_
            refine g_iinc_5 hX (dk DX0_bestOf 50 rfl) (nI_1 d) (by decide) rfl ?_
            refine g_goto (tgt := 10) hX (dk DX0_bestOf 51 rfl) (by decide) ?_
            first
            | exact g_fgt (ih k (by omega) (d + 1) _ _ _ (by omega) (hP.trans hP2)) ⟨rfl, rfl, rfl, rfl, rfl, rfl, trivial⟩
            | exact g_fgt (ih k (by omega) (d + 1) _ _ _ (by omega) hP) ⟨rfl, rfl, rfl, rfl, rfl, rfl, trivial⟩
  refine g_bipush (v := -5) hX (dk DX0_bestOf 0 rfl) (by decide) ?_
  refine g_istore_3 hX (dk DX0_bestOf 1 rfl) (by decide) rfl ?_
  refine g_ldc (v := 2147483647) hX (dk DX0_bestOf 2 rfl) (tg_3 231 rfl rfl) ?_
  refine g_istore_4 hX (dk DX0_bestOf 3 rfl) (by decide) rfl ?_
  refine g_iconst (v := 0) hX (dk DX0_bestOf 4 rfl) (by decide) ?_
  refine g_istore_5 hX (dk DX0_bestOf 5 rfl) (by decide) rfl ?_
  exact g_fgt (loop10 (cN I) 0 _ _ I (Nat.zero_add _) P2.rf) ⟨rfl, rfl, rfl, rfl, rfl, rfl, trivial⟩

set_option maxRecDepth 8000 in
set_option maxHeartbeats 4000000 in
theorem w_X0_firstRowNotSo {G : Gt} (hG : Gok G) {I : It} {h : Ht}  (hW : WX I h)  {m : Nat} (hm : m ≤ 200) (hsp : I 13 1 = nI m) : Con G 2 0 0 mX0_firstRowNotSo [.ref 13] I h (qI (fun _ I2 h2 => I2 = I ∧ h2 = h)) := by
  refine con_intro (own := RX0) (lo0 := [some (.ref 13), none, none]) hG rfl pl_X0 (Nat.le_of_ble_eq_true rfl) rfl (fun X hX => ?_)
  have hH := hW.1
  have hc10 := hW.2.1.2
  have loop2 : ∀ r, r ≤ 12 → I 1 12 = nI r → ∀ (k d : Nat), d + k = r → GG G 2 0 0 X (qI (fun _ I2 h2 => I2 = I ∧ h2 = h)) 2 [some (.ref 13), some (.int (nI d)), none] [] (I) (h) 0 0 := by
    intro r hr12 hr k
    induction k using Nat.strongRecOn with | _ k ih => ?_
    intro d hk
    refine g_iload_1 hX (dk DX0_firstRowNotSo 2 rfl) ?_
    refine g_aload_0 hX (dk DX0_firstRowNotSo 3 rfl) ?_
    refine g_getRs (r := 1) hX (dk DX0_firstRowNotSo 4 rfl) KX0 fX0_34 (by decide) rfl (CLt hH (q := 13) (by decide)) (CC hH 13 (by decide) rfl) (CR hH 13 0 1 (by decide)) ?_
    refine g_getIv hX (dk DX0_firstRowNotSo 5 rfl) KX5 fX0_184 (by decide) rfl (CLt hH (q := 1) (by decide)) (CC hH 1 (by decide) rfl) (hr) ?_
    refine g_icmp_ge (tgt := 72) hX (dk DX0_firstRowNotSo 6 rfl) (by decide) (fun hc1 => ?_) (fun hc1 => ?_)
    · refine g_bipush (v := -5) hX (dk DX0_firstRowNotSo 38 rfl) (by decide) ?_
      refine g_ireturn hX (dk DX0_firstRowNotSo 39 rfl) rfl (rfl) (by decide) (by decide) ?_
      exact qI_of ⟨rfl, rfl⟩
    · obtain ⟨k, rfl⟩ := cl_go hk (by omega) hc1
      refine g_aload_0 hX (dk DX0_firstRowNotSo 7 rfl) ?_
      refine g_getRs (r := 1) hX (dk DX0_firstRowNotSo 8 rfl) KX0 fX0_34 (by decide) rfl (CLt hH (q := 13) (by decide)) (CC hH 13 (by decide) rfl) (CR hH 13 0 1 (by decide)) ?_
      refine g_getRs (r := 5) hX (dk DX0_firstRowNotSo 9 rfl) KX5 fX0_187 (by decide) rfl (CLt hH (q := 1) (by decide)) (CC hH 1 (by decide) rfl) (CR hH 1 10 5 (by decide)) ?_
      refine g_iload_1 hX (dk DX0_firstRowNotSo 10 rfl) ?_
      refine i_iaload hX (dk DX0_firstRowNotSo 11 rfl) (CLt hH (q := 5) (by decide)) (CS hH 5 (by decide) rfl) (⟨rfl, by omega, by decide⟩) ?_
      refine g_aload_0 hX (dk DX0_firstRowNotSo 12 rfl) ?_
      refine g_getRs (r := 1) hX (dk DX0_firstRowNotSo 13 rfl) KX0 fX0_34 (by decide) rfl (CLt hH (q := 13) (by decide)) (CC hH 13 (by decide) rfl) (CR hH 13 0 1 (by decide)) ?_
      refine g_getI hX (dk DX0_firstRowNotSo 14 rfl) KX5 fX0_57 (by decide) rfl (CLt hH (q := 1) (by decide)) (CC hH 1 (by decide) rfl) ?_
      refine g_isub hX (dk DX0_firstRowNotSo 15 rfl) ?_
      refine g_istore_2 hX (dk DX0_firstRowNotSo 16 rfl) (by decide) rfl ?_
      refine g_iload_2 hX (dk DX0_firstRowNotSo 17 rfl) ?_
      refine g_if_lt (tgt := 64) hX (dk DX0_firstRowNotSo 18 rfl) (by decide) (fun hc2 => ?_) (fun hc2 => ?_)
      · refine g_iload_1 hX (dk DX0_firstRowNotSo 34 rfl) ?_
        refine g_ireturn hX (dk DX0_firstRowNotSo 35 rfl) rfl (rfl) (by decide) (by decide) ?_
        exact qI_of ⟨rfl, rfl⟩
      · have h0 := hc2
        refine g_iload_2 hX (dk DX0_firstRowNotSo 19 rfl) ?_
        refine g_aload_0 hX (dk DX0_firstRowNotSo 20 rfl) ?_
        refine g_getIv hX (dk DX0_firstRowNotSo 21 rfl) KX0 fX0_47 (by decide) rfl (CLt hH (q := 13) (by decide)) (CC hH 13 (by decide) rfl) (hsp) ?_
        refine g_icmp_ge (tgt := 64) hX (dk DX0_firstRowNotSo 22 rfl) (by decide) (fun hc3 => ?_) (fun hc3 => ?_)
        · refine g_iload_1 hX (dk DX0_firstRowNotSo 34 rfl) ?_
          refine g_ireturn hX (dk DX0_firstRowNotSo 35 rfl) rfl (rfl) (by decide) (by decide) ?_
          exact qI_of ⟨rfl, rfl⟩
        · have h1 := hc3
          refine g_aload_0 hX (dk DX0_firstRowNotSo 23 rfl) ?_
          refine g_getRs (r := 27) hX (dk DX0_firstRowNotSo 24 rfl) KX0 fX0_25 (by decide) rfl (CLt hH (q := 13) (by decide)) (CC hH 13 (by decide) rfl) (CR hH 13 5 27 (by decide)) ?_
          refine g_iload_2 hX (dk DX0_firstRowNotSo 25 rfl) ?_
          refine i_iaload hX (dk DX0_firstRowNotSo 26 rfl) (CLt hH (q := 27) (by decide)) (CS hH 27 (by decide) rfl) (on_ix h0 h1 hm) ?_
          refine g_aload_0 hX (dk DX0_firstRowNotSo 27 rfl) ?_
          refine g_getRs (r := 1) hX (dk DX0_firstRowNotSo 28 rfl) KX0 fX0_34 (by decide) rfl (CLt hH (q := 13) (by decide)) (CC hH 13 (by decide) rfl) (CR hH 13 0 1 (by decide)) ?_
          refine g_getRs (r := 6) hX (dk DX0_firstRowNotSo 29 rfl) KX5 fX0_190 (by decide) rfl (CLt hH (q := 1) (by decide)) (CC hH 1 (by decide) rfl) (CR hH 1 11 6 (by decide)) ?_
          refine g_iload_1 hX (dk DX0_firstRowNotSo 30 rfl) ?_
          refine i_iaload hX (dk DX0_firstRowNotSo 31 rfl) (CLt hH (q := 6) (by decide)) (CS hH 6 (by decide) rfl) (⟨rfl, by omega, by decide⟩) ?_
          refine g_c2I hX sX0_firstRowNotSo_58 (by decide) (Nat.le_of_ble_eq_true rfl) rcN (by decide) (by decide) (c_X11_bit hG) ?_
          refine g_if_ne (tgt := 66) hX (dk DX0_firstRowNotSo 33 rfl) (by decide) (fun hc4 => ?_) (fun hc4 => ?_)
          · refine g_iinc_1 hX (dk DX0_firstRowNotSo 36 rfl) (nI_1 d) (by decide) rfl ?_
            refine g_goto (tgt := 2) hX (dk DX0_firstRowNotSo 37 rfl) (by decide) ?_
            exact g_fgt (ih k (by omega) (d + 1) (by omega)) ⟨rfl, rfl, trivial⟩
          · refine g_iload_1 hX (dk DX0_firstRowNotSo 34 rfl) ?_
            refine g_ireturn hX (dk DX0_firstRowNotSo 35 rfl) rfl (rfl) (by decide) (by decide) ?_
            exact qI_of ⟨rfl, rfl⟩
  refine g_iconst (v := 0) hX (dk DX0_firstRowNotSo 0 rfl) (by decide) ?_
  refine g_istore_1 hX (dk DX0_firstRowNotSo 1 rfl) (by decide) rfl ?_
  obtain ⟨r, hr12, hr⟩ := hW.2.2.2.2.2
  exact g_fgt (loop2 r hr12 hr r 0 (Nat.zero_add _)) ⟨rfl, rfl, trivial⟩

set_option maxRecDepth 8000 in
set_option maxHeartbeats 4000000 in
theorem w_X0_saidOf {G : Gt} (hG : Gok G) {I : It} {h : Ht}  (hW : WX I h) {q : Nat} {d : Nat} (hd : d < 10) (hq : q < hn h) (h73 : 73 ≤ q) (hdc : isDC (hs h q).1) (hi : I q 0 = nI d) : Con G 7 0 0 mX0_saidOf [.ref 13, .ref q] I h (qI (fun _ I2 h2 => Sc I I2 ∧ h2 = h)) := by
  refine con_intro (own := RX0) (lo0 := [some (.ref 13), some (.ref q)]) hG rfl pl_X0 (Nat.le_of_ble_eq_true rfl) rfl (fun X hX => ?_)
  have hH := hW.1
  have hc10 := hW.2.1.2
  refine g_aload_0 hX (dk DX0_saidOf 0 rfl) ?_
  refine g_aload_1 hX (dk DX0_saidOf 1 rfl) ?_
  refine g_c2v hX sX0_saidOf_2 (by decide) (Nat.le_of_ble_eq_true rfl) (rc0 rfl (CLt hH (by decide)) (CC hH 13 (by decide) rfl)) (by decide) (by decide) (w_X0_hearOf hG hW hd hq h73 hdc hi) ?_
  rintro J _ ⟨hS, rfl⟩
  refine g_aload_1 hX (dk DX0_saidOf 3 rfl) ?_
  refine g_aload_0 hX (dk DX0_saidOf 4 rfl) ?_
  refine g_getRs (r := 16) hX (dk DX0_saidOf 5 rfl) KX0 fX0_22 (by decide) rfl (CLt hH (q := 13) (by decide)) (CC hH 13 (by decide) rfl) (CR hH 13 4 16 (by decide)) ?_
  refine g_aload_1 hX (dk DX0_saidOf 6 rfl) ?_
  refine g_getD (v := (nI d)) hX (dk DX0_saidOf 7 rfl) fX0_93 (by decide) hq hdc ((by rw [hS q (by omega)]; exact hi)) ?_
  refine i_aaload (i0 := 6) hX (dk DX0_saidOf 8 rfl) (CLt hH (q := 16) (by decide)) (CS hH 16 (by decide) rfl) (by decide) rfl rfl (⟨rfl, hd, by decide⟩) (SR hH hd) ?_
  refine g_aload_0 hX (dk DX0_saidOf 9 rfl) ?_
  refine g_getRs (r := 1) hX (dk DX0_saidOf 10 rfl) KX0 fX0_34 (by decide) rfl (CLt hH (q := 13) (by decide)) (CC hH 13 (by decide) rfl) (CR hH 13 0 1 (by decide)) ?_
  refine g_getRs (r := 4) hX (dk DX0_saidOf 11 rfl) KX5 fX0_101 (by decide) rfl (CLt hH (q := 1) (by decide)) (CC hH 1 (by decide) rfl) (CR hH 1 5 4 (by decide)) ?_
  refine g_c3I hX (sD_X0_saidOf_22 _ hdc) (by decide) (Nat.le_of_ble_eq_true rfl) (rc0 rfl hq rfl) (by decide) (by decide) (cD_saidOver hG hq hdc (SL hH hd) (SA hH hd) (CLt hH (q := 4) (by decide)) (CS hH 4 (by decide) rfl)) ?_
  refine g_ireturn hX (dk DX0_saidOf 13 rfl) rfl (rfl) (by decide) (by decide) ?_
  exact qI_of ⟨hS, rfl⟩

