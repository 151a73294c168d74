set_option maxRecDepth 8000 in
set_option maxHeartbeats 4000000 in
theorem q_takesTest {G : Gt} (hG : Gok G) {I : It} {h : Ht} (hM : HM h) {p c fr : Nat} {tx : Nat → Int32} {n : Nat} {I0 : It} {a : Nat} {cs ws : List Int32} (hp : p < 6) (hZ : MZ p c fr tx n I0 I a cs ws)  : Con G (4) 0 0 mX12_takesTest [.ref 0] I h (qI (fun v J h2 => h2 = h ∧ v = bI ((tsA tx n a).1 = true) ∧ MF p c fr tx n I0 J (tsA tx n a).2.1 ∧ ((tsA tx n a).1 = true → MZ p c fr tx n I0 J (tsA tx n a).2.1 (whA ws (cs ++ [(tsA tx n a).2.2])).1 (whA ws (cs ++ [(tsA tx n a).2.2])).2))) := by
  refine con_intro (own := RX12) (lo0 := [some (.ref 0), none, none]) hG rfl pl_X12 (Nat.le_of_ble_eq_true rfl) rfl (fun X hX => ?_)
  obtain ⟨l1, l2, l3, l4, l5⟩ := hZ.lt
  refine g_aload_0 hX (dk DX12_takesTest 0 rfl) ?_
  refine g_aload_0 hX (dk DX12_takesTest 1 rfl) ?_
  refine g_c1I hX sX12_takesTest_2 (by decide) (Nat.le_of_ble_eq_true rfl) (rc0 rfl (MLt hM (by decide)) (MC hM)) (by decide) (by decide) (q_next hG hM hZ.2.1 hZ.2.2.1) ?_
  refine g_c2I hX sX12_takesTest_5 (by decide) (Nat.le_of_ble_eq_true rfl) (rc0 rfl (MLt hM (by decide)) (MC hM)) (by decide) (by decide) (q_place hG hM) ?_
  refine g_istore_1 hX (dk DX12_takesTest 4 rfl) (by decide) rfl ?_
  refine g_iload_1 hX (dk DX12_takesTest 5 rfl) ?_
  refine g_if_ge (tgt := 15) hX (dk DX12_takesTest 6 rfl) (by decide) (fun hc1 => ?_) (fun hc1 => ?_)
  · have hlt := pl_lt hc1
    refine g_aload_0 hX (dk DX12_takesTest 9 rfl) ?_
    refine g_dup hX (dk DX12_takesTest 10 rfl) rfl ?_
    refine g_getIv hX (dk DX12_takesTest 11 rfl) KX12 fX12_65 (by decide) rfl (MLt hM (by decide)) (MC hM) (hZ.2.2.1.1) ?_
    refine g_iconst (v := 1) hX (dk DX12_takesTest 12 rfl) (by decide) ?_
    refine g_iadd hX (dk DX12_takesTest 13 rfl) ?_
    refine g_nmI (nI (a + 1)) (nI_1 a) ?_
    refine g_putI hX (dk DX12_takesTest 14 rfl) KX12 fX12_65 (by decide) rfl (MLt hM (by decide)) (MC hM) (Or.inl rfl) (rfl) (rfl) ?_
    refine g_aload_0 hX (dk DX12_takesTest 15 rfl) ?_
    refine g_c1I hX sX12_takesTest_26 (by decide) (Nat.le_of_ble_eq_true rfl) (rc0 rfl (MLt hM (by decide)) (MC hM)) (by decide) (by decide) (q_next hG hM hZ.2.1.w (AT.w (b := a + 1) (by omega))) ?_
    refine g_istore_2 hX (dk DX12_takesTest 17 rfl) (by decide) rfl ?_
    refine g_aload_0 hX (dk DX12_takesTest 18 rfl) ?_
    refine g_iload_2 hX (dk DX12_takesTest 19 rfl) ?_
    refine g_bipush (v := 60) hX (dk DX12_takesTest 20 rfl) (by decide) ?_
    refine g_bipush (v := 62) hX (dk DX12_takesTest 21 rfl) (by decide) ?_
    refine g_c4I hX sX12_takesTest_36 (by decide) (Nat.le_of_ble_eq_true rfl) (rc0 rfl (MLt hM (by decide)) (MC hM)) (by decide) (by decide) (c_X12_in hG) ?_
    refine g_ifb_ne (tgt := 44) hX (dk DX12_takesTest 23 rfl) (by decide) (fun hc2 => ?_) (fun hc2 => ?_)
    · have hr2 := hc2
      have hlt2 := in_lt hc2
      refine g_aload_0 hX (dk DX12_takesTest 26 rfl) ?_
      refine g_dup hX (dk DX12_takesTest 27 rfl) rfl ?_
      refine g_getIv hX (dk DX12_takesTest 28 rfl) KX12 fX12_65 (by decide) rfl (MLt hM (by decide)) (MC hM) ((show _ = nI (a + 1) from rfl)) ?_
      refine g_iconst (v := 1) hX (dk DX12_takesTest 29 rfl) (by decide) ?_
      refine g_iadd hX (dk DX12_takesTest 30 rfl) ?_
      refine g_nmI (nI (a + 2)) (nI_1 (a + 1)) ?_
      refine g_putI hX (dk DX12_takesTest 31 rfl) KX12 fX12_65 (by decide) rfl (MLt hM (by decide)) (MC hM) (Or.inl rfl) (rfl) (rfl) ?_
      rw [up_up]
      refine g_aload_0 hX (dk DX12_takesTest 32 rfl) ?_
      refine g_c1q hX sX12_takesTest_55 (by decide) (Nat.le_of_ble_eq_true rfl) (rc0 rfl (MLt hM (by decide)) (MC hM)) (by decide) (by decide) (q_takesNumber hG hM (a := a + 2) hZ.2.1.w (AT.w (by omega))) ?_
      rintro v J9 h9 ⟨rfl, rfl, rfl⟩
      refine g_ifb_ne (tgt := 63) hX (dk DX12_takesTest 34 rfl) (by decide) (fun hc3 => ?_) (fun hc3 => ?_)
      · have hd := hc3
        rw [if_pos hd, W2_w, W2_c]
        have hnu := nuA_le (X := tx) (n := n) (a := a + 2) (by omega)
        have hng := nuA_gt hd
        refine g_aload_0 hX (dk DX12_takesTest 37 rfl) ?_
        refine g_sipush (v := 1000) hX (dk DX12_takesTest 38 rfl) (by decide) ?_
        refine g_iload_1 hX (dk DX12_takesTest 39 rfl) ?_
        refine g_imul hX (dk DX12_takesTest 40 rfl) ?_
        refine g_bipush (v := 100) hX (dk DX12_takesTest 41 rfl) (by decide) ?_
        refine g_iload_2 hX (dk DX12_takesTest 42 rfl) ?_
        refine g_bipush (v := 60) hX (dk DX12_takesTest 43 rfl) (by decide) ?_
        refine g_isub hX (dk DX12_takesTest 44 rfl) ?_
        refine g_imul hX (dk DX12_takesTest 45 rfl) ?_
        refine g_iadd hX (dk DX12_takesTest 46 rfl) ?_
        refine g_aload_0 hX (dk DX12_takesTest 47 rfl) ?_
        refine g_getIv hX (dk DX12_takesTest 48 rfl) KX12 fX12_68 (by decide) rfl (MLt hM (by decide)) (MC hM) ((show _ = nvA tx n (a + 2) from rfl)) ?_
        refine g_iadd hX (dk DX12_takesTest 49 rfl) ?_
        refine g_c2V hX sX12_takesTest_82 (by decide) (Nat.le_of_ble_eq_true rfl) (rc0 rfl (MLt hM (by decide)) (MC hM)) (by decide) (by decide) (q_put hG hM (s := fr + cs.length) (show _ = _ from hZ.2.2.2.1.1) (by omega)) ?_
        refine g_aload_0 hX (dk DX12_takesTest 51 rfl) ?_
        refine g_c1v hX sX12_takesTest_86 (by decide) (Nat.le_of_ble_eq_true rfl) (rc0 rfl (MLt hM (by decide)) (MC hM)) (by decide) (by decide) (q_whole hG hM hp (hZ.dg.code (b := nuA tx n (a + 2)) (by omega) hnu)) ?_
        rintro J8 _ ⟨rfl, hZ8⟩
        refine g_iconst (v := 1) hX (dk DX12_takesTest 53 rfl) (by decide) ?_
        refine g_ireturn hX (dk DX12_takesTest 54 rfl) rfl (by decide) (by decide) (by decide) ?_
        have e : tsA tx n a = (true, nuA tx n (a + 2), 1000 * plA (nxA tx n a) + 100 * (nxA tx n (a + 1) - 60) + nvA tx n (a + 2)) := by unfold tsA; rw [if_neg (Int32.not_lt.mpr (by assumption)), if_neg (not_not_intro hr2), if_neg (not_not_intro hd)]
        rw [e]
        exact qI_of ⟨rfl, rfl, hZ8.mf, fun _ => hZ8⟩
      · refine g_iconst (v := 0) hX (dk DX12_takesTest 35 rfl) (by decide) ?_
        refine g_ireturn hX (dk DX12_takesTest 36 rfl) rfl (by decide) (by decide) (by decide) ?_
        have e : tsA tx n a = (false, a + 2, 0) := by unfold tsA; rw [if_neg (Int32.not_lt.mpr (by assumption)), if_neg (not_not_intro hr2), if_pos (by assumption)]
        rw [e, if_neg (by assumption)]
        exact qI_of ⟨rfl, rfl, (hZ.at (b := a + 2) (by omega) hlt2).mf, fun z => absurd (show false = true from z) Bool.false_ne_true⟩
    · refine g_iconst (v := 0) hX (dk DX12_takesTest 24 rfl) (by decide) ?_
      refine g_ireturn hX (dk DX12_takesTest 25 rfl) rfl (by decide) (by decide) (by decide) ?_
      have e : tsA tx n a = (false, a + 1, 0) := by unfold tsA; rw [if_neg (Int32.not_lt.mpr (by assumption)), if_pos (by assumption)]
      rw [e]
      exact qI_of ⟨rfl, rfl, (hZ.at (Nat.le_succ a) hlt).mf, fun z => absurd (show false = true from z) Bool.false_ne_true⟩
  · refine g_iconst (v := 0) hX (dk DX12_takesTest 7 rfl) (by decide) ?_
    refine g_ireturn hX (dk DX12_takesTest 8 rfl) rfl (by decide) (by decide) (by decide) ?_
    have e : tsA tx n a = (false, a, 0) := by unfold tsA; rw [if_pos (Int32.not_le.mp (by assumption))]
    rw [e]
    exact qI_of ⟨rfl, rfl, hZ.mf, fun z => absurd (show false = true from z) Bool.false_ne_true⟩

