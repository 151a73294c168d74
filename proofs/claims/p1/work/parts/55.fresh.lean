def Zf (J : It) : Prop := J 43 9 = 0 ∧ J 43 10 = 0
set_option maxRecDepth 8000 in
set_option maxHeartbeats 4000000 in
theorem z_here {G : Gt} (hG : Gok G) {I : It} {h : Ht} (hH : HX h) (hz : I 43 9 = 0) (hz2 : I 43 10 = 0)  : Con G 1 0 0 mX3_here [.ref 43] I h (rI (-1) I h) := by
  refine con_intro (own := RX3) (lo0 := [some (.ref 43)]) hG rfl pl_X3 (Nat.le_of_ble_eq_true rfl) rfl (fun X hX => ?_)
  refine g_aload_0 hX (dk DX3_here 0 rfl) ?_
  refine g_getI hX (dk DX3_here 1 rfl) KX3 fX3_41 (by decide) rfl (CLt hH (q := 43) (by decide)) (CC hH 43 (by decide) rfl) ?_
  refine g_if_ne (tgt := 37) hX (dk DX3_here 2 rfl) (by decide) (fun hc1 => ?_) (fun hc1 => ?_)
  · refine g_iconst (v := -1) hX (dk DX3_here 17 rfl) (by decide) ?_
    refine g_goto (tgt := 50) hX (dk DX3_here 18 rfl) (by decide) ?_
    refine g_ireturn hX (dk DX3_here 24 rfl) rfl (rfl) (by decide) (by decide) ?_
    exact rI_of rfl rfl rfl
  · refine g_aload_0 hX (dk DX3_here 3 rfl) ?_
    refine g_getIv hX (dk DX3_here 4 rfl) KX3 fX3_38 (by decide) rfl (CLt hH (q := 43) (by decide)) (CC hH 43 (by decide) rfl) (hz2) ?_
    refine g_if_lt (tgt := 37) hX (dk DX3_here 5 rfl) (by decide) (fun hc2 => absurd hc2 (by decide)) (fun hc2 => ?_)
    refine g_aload_0 hX (dk DX3_here 6 rfl) ?_
    refine g_getIv hX (dk DX3_here 7 rfl) KX3 fX3_38 (by decide) rfl (CLt hH (q := 43) (by decide)) (CC hH 43 (by decide) rfl) (hz2) ?_
    refine g_aload_0 hX (dk DX3_here 8 rfl) ?_
    refine g_getIv hX (dk DX3_here 9 rfl) KX3 fX3_34 (by decide) rfl (CLt hH (q := 43) (by decide)) (CC hH 43 (by decide) rfl) (hz) ?_
    refine g_icmp_ge (tgt := 37) hX (dk DX3_here 10 rfl) (by decide) (fun hc3 => ?_) (fun hc3 => absurd (by decide) hc3)
    refine g_iconst (v := -1) hX (dk DX3_here 17 rfl) (by decide) ?_
    refine g_goto (tgt := 50) hX (dk DX3_here 18 rfl) (by decide) ?_
    refine g_ireturn hX (dk DX3_here 24 rfl) rfl (rfl) (by decide) (by decide) ?_
    exact rI_of rfl rfl rfl

set_option maxRecDepth 8000 in
set_option maxHeartbeats 4000000 in
theorem z_takes {G : Gt} (hG : Gok G) {I : It} {h : Ht} (hH : HX h) (hz : I 43 9 = 0) (hz2 : I 43 10 = 0) {s : Int32} (hs : ¬ (-1) = s) : Con G 2 0 0 mX3_takes [.ref 43, .int s] I h (rI 0 I h) := by
  refine con_intro (own := RX3) (lo0 := [some (.ref 43), some (.int s), none]) hG rfl pl_X3 (Nat.le_of_ble_eq_true rfl) rfl (fun X hX => ?_)
  refine g_aload_0 hX (dk DX3_takes 0 rfl) ?_
  refine g_c1I hX sX3_takes_1 (by decide) (Nat.le_of_ble_eq_true rfl) (rc0 rfl (CLt hH (by decide)) (CC hH 43 (by decide) rfl)) (by decide) (by decide) (z_here hG hH (by exact hz) (by exact hz2)) ?_
  refine g_iload_1 hX (dk DX3_takes 2 rfl) ?_
  refine g_icmp_ne (tgt := 12) hX (dk DX3_takes 3 rfl) (by decide) (fun hc1 => ?_) (fun hc1 => absurd hc1 hs)
  refine g_iconst (v := 0) hX (dk DX3_takes 6 rfl) (by decide) ?_
  refine g_istore_2 hX (dk DX3_takes 7 rfl) (by decide) rfl ?_
  refine g_iload_2 hX (dk DX3_takes 8 rfl) ?_
  refine g_if_eq (tgt := 28) hX (dk DX3_takes 9 rfl) (by decide) (fun hc2 => ?_) (fun hc2 => absurd (by decide) hc2)
  refine g_iload_2 hX (dk DX3_takes 16 rfl) ?_
  refine g_ireturn hX (dk DX3_takes 17 rfl) rfl (by decide) (by decide) (by decide) ?_
  exact rI_of rfl rfl rfl

set_option maxRecDepth 8000 in
set_option maxHeartbeats 4000000 in
theorem z_takeIf {G : Gt} (hG : Gok G) {I : It} {h : Ht} (hH : HX h)  : Con G 1 0 0 mX3_takeIf [.ref 43, .int 0] I h (rV (upI I 43 11 1) h) := by
  refine con_intro (own := RX3) (lo0 := [some (.ref 43), some (.int 0)]) hG rfl pl_X3 (Nat.le_of_ble_eq_true rfl) rfl (fun X hX => ?_)
  refine g_iload_1 hX (dk DX3_takeIf 0 rfl) ?_
  refine g_if_eq (tgt := 24) hX (dk DX3_takeIf 1 rfl) (by decide) (fun hc1 => ?_) (fun hc1 => absurd (by decide) hc1)
  refine g_aload_0 hX (dk DX3_takeIf 12 rfl) ?_
  refine g_iconst (v := 1) hX (dk DX3_takeIf 13 rfl) (by decide) ?_
  refine g_putI hX (dk DX3_takeIf 14 rfl) KX3 fX3_41 (by decide) rfl (CLt hH (q := 43) (by decide)) (CC hH 43 (by decide) rfl) (Or.inl rfl) (by decide) (by decide) ?_
  refine g_return hX (dk DX3_takeIf 15 rfl) rfl (by decide) (by decide) ?_
  exact rV_of rfl rfl

set_option maxRecDepth 8000 in
set_option maxHeartbeats 4000000 in
theorem z_needs {G : Gt} (hG : Gok G) {I : It} {h : Ht} (hH : HX h) (hz : I 43 9 = 0) (hz2 : I 43 10 = 0) {s : Int32} (hs : ¬ (-1) = s) : Con G 3 0 0 mX3_needs [.ref 43, .int s] I h (rV (upI I 43 11 1) h) := by
  refine con_intro (own := RX3) (lo0 := [some (.ref 43), some (.int s)]) hG rfl pl_X3 (Nat.le_of_ble_eq_true rfl) rfl (fun X hX => ?_)
  refine g_aload_0 hX (dk DX3_needs 0 rfl) ?_
  refine g_aload_0 hX (dk DX3_needs 1 rfl) ?_
  refine g_c1I hX sX3_needs_2 (by decide) (Nat.le_of_ble_eq_true rfl) (rc0 rfl (CLt hH (by decide)) (CC hH 43 (by decide) rfl)) (by decide) (by decide) (z_here hG hH (by exact hz) (by exact hz2)) ?_
  refine g_iload_1 hX (dk DX3_needs 3 rfl) ?_
  refine g_icmp_ne (tgt := 13) hX (dk DX3_needs 4 rfl) (by decide) (fun hc1 => ?_) (fun hc1 => absurd hc1 hs)
  refine g_iconst (v := 0) hX (dk DX3_needs 7 rfl) (by decide) ?_
  refine g_c2V hX sX3_needs_14 (by decide) (Nat.le_of_ble_eq_true rfl) (rc0 rfl (CLt hH (by decide)) (CC hH 43 (by decide) rfl)) (by decide) (by decide) (z_takeIf hG hH) ?_
  refine g_return hX (dk DX3_needs 9 rfl) rfl (by decide) (by decide) ?_
  exact rV_of rfl rfl

set_option maxRecDepth 8000 in
set_option maxHeartbeats 4000000 in
theorem z_readNumber {G : Gt} (hG : Gok G) {I : It} {h : Ht} (hH : HX h) (hz : I 43 9 = 0) (hz2 : I 43 10 = 0)  : Con G 2 0 0 mX3_readNumber [.ref 43] I h (rI 0 (upI I 43 11 1) h) := by
  refine con_intro (own := RX3) (lo0 := [some (.ref 43), none, none]) hG rfl pl_X3 (Nat.le_of_ble_eq_true rfl) rfl (fun X hX => ?_)
  refine g_iconst (v := 0) hX (dk DX3_readNumber 0 rfl) (by decide) ?_
  refine g_istore_1 hX (dk DX3_readNumber 1 rfl) (by decide) rfl ?_
  refine g_iconst (v := 0) hX (dk DX3_readNumber 2 rfl) (by decide) ?_
  refine g_istore_2 hX (dk DX3_readNumber 3 rfl) (by decide) rfl ?_
  refine g_iload_2 hX (dk DX3_readNumber 4 rfl) ?_
  refine g_iconst (v := 2) hX (dk DX3_readNumber 5 rfl) (by decide) ?_
  refine g_icmp_ge (tgt := 56) hX (dk DX3_readNumber 6 rfl) (by decide) (fun hc1 => absurd hc1 (by decide)) (fun hc1 => ?_)
  refine g_aload_0 hX (dk DX3_readNumber 7 rfl) ?_
  refine g_c1I hX sX3_readNumber_10 (by decide) (Nat.le_of_ble_eq_true rfl) (rc0 rfl (CLt hH (by decide)) (CC hH 43 (by decide) rfl)) (by decide) (by decide) (z_here hG hH (by exact hz) (by exact hz2)) ?_
  refine g_bipush (v := 48) hX (dk DX3_readNumber 9 rfl) (by decide) ?_
  refine g_icmp_lt (tgt := 56) hX (dk DX3_readNumber 10 rfl) (by decide) (fun hc2 => ?_) (fun hc2 => absurd (by decide) hc2)
  refine g_iload_2 hX (dk DX3_readNumber 32 rfl) ?_
  refine g_if_ne (tgt := 65) hX (dk DX3_readNumber 33 rfl) (by decide) (fun hc3 => absurd hc3 (by decide)) (fun hc3 => ?_)
  refine g_aload_0 hX (dk DX3_readNumber 34 rfl) ?_
  refine g_iconst (v := 1) hX (dk DX3_readNumber 35 rfl) (by decide) ?_
  refine g_putI hX (dk DX3_readNumber 36 rfl) KX3 fX3_41 (by decide) rfl (CLt hH (q := 43) (by decide)) (CC hH 43 (by decide) rfl) (Or.inl rfl) (by decide) (by decide) ?_
  refine g_iload_1 hX (dk DX3_readNumber 37 rfl) ?_
  refine g_ireturn hX (dk DX3_readNumber 38 rfl) rfl (rfl) (by decide) (by decide) ?_
  exact rI_of rfl rfl rfl

set_option maxRecDepth 8000 in
set_option maxHeartbeats 4000000 in
theorem z_readWord {G : Gt} (hG : Gok G) {I : It} {h : Ht} (hH : HX h) (hz : I 43 9 = 0) (hz2 : I 43 10 = 0)  : Con G 4 0 0 mX3_readWord [.ref 43] I h (qI (fun x I2 h2 => x = 108 ∧ Zf I2 ∧ h2 = h)) := by
  refine con_intro (own := RX3) (lo0 := [some (.ref 43)]) hG rfl pl_X3 (Nat.le_of_ble_eq_true rfl) rfl (fun X hX => ?_)
  refine g_aload_0 hX (dk DX3_readWord 0 rfl) ?_
  refine g_bipush (v := 115) hX (dk DX3_readWord 1 rfl) (by decide) ?_
  refine g_c2I hX sX3_readWord_3 (by decide) (Nat.le_of_ble_eq_true rfl) (rc0 rfl (CLt hH (by decide)) (CC hH 43 (by decide) rfl)) (by decide) (by decide) (z_takes hG hH (by exact hz) (by exact hz2) (by decide)) ?_
  refine g_if_eq (tgt := 24) hX (dk DX3_readWord 3 rfl) (by decide) (fun hc1 => ?_) (fun hc1 => absurd (by decide) hc1)
  refine g_aload_0 hX (dk DX3_readWord 12 rfl) ?_
  refine g_bipush (v := 102) hX (dk DX3_readWord 13 rfl) (by decide) ?_
  refine g_c2I hX sX3_readWord_27 (by decide) (Nat.le_of_ble_eq_true rfl) (rc0 rfl (CLt hH (by decide)) (CC hH 43 (by decide) rfl)) (by decide) (by decide) (z_takes hG hH (by exact hz) (by exact hz2) (by decide)) ?_
  refine g_if_eq (tgt := 54) hX (dk DX3_readWord 15 rfl) (by decide) (fun hc2 => ?_) (fun hc2 => absurd (by decide) hc2)
  refine g_aload_0 hX (dk DX3_readWord 27 rfl) ?_
  refine g_bipush (v := 99) hX (dk DX3_readWord 28 rfl) (by decide) ?_
  refine g_c2V hX sX3_readWord_57 (by decide) (Nat.le_of_ble_eq_true rfl) (rc0 rfl (CLt hH (by decide)) (CC hH 43 (by decide) rfl)) (by decide) (by decide) (z_needs hG hH (by exact hz) (by exact hz2) (by decide)) ?_
  refine g_aload_0 hX (dk DX3_readWord 30 rfl) ?_
  refine g_bipush (v := 111) hX (dk DX3_readWord 31 rfl) (by decide) ?_
  refine g_c2I hX sX3_readWord_63 (by decide) (Nat.le_of_ble_eq_true rfl) (rc0 rfl (CLt hH (by decide)) (CC hH 43 (by decide) rfl)) (by decide) (by decide) (z_takes hG hH (by exact hz) (by exact hz2) (by decide)) ?_
  refine g_if_eq (tgt := 84) hX (dk DX3_readWord 33 rfl) (by decide) (fun hc3 => ?_) (fun hc3 => absurd (by decide) hc3)
  refine g_aload_0 hX (dk DX3_readWord 42 rfl) ?_
  refine g_bipush (v := 97) hX (dk DX3_readWord 43 rfl) (by decide) ?_
  refine g_c2V hX sX3_readWord_87 (by decide) (Nat.le_of_ble_eq_true rfl) (rc0 rfl (CLt hH (by decide)) (CC hH 43 (by decide) rfl)) (by decide) (by decide) (z_needs hG hH (by exact hz) (by exact hz2) (by decide)) ?_
  refine g_aload_0 hX (dk DX3_readWord 45 rfl) ?_
  refine g_bipush (v := 108) hX (dk DX3_readWord 46 rfl) (by decide) ?_
  refine g_c2V hX sX3_readWord_93 (by decide) (Nat.le_of_ble_eq_true rfl) (rc0 rfl (CLt hH (by decide)) (CC hH 43 (by decide) rfl)) (by decide) (by decide) (z_needs hG hH (by exact hz) (by exact hz2) (by decide)) ?_
  refine g_aload_0 hX (dk DX3_readWord 48 rfl) ?_
  refine g_bipush (v := 108) hX (dk DX3_readWord 49 rfl) (by decide) ?_
  refine g_c2V hX sX3_readWord_99 (by decide) (Nat.le_of_ble_eq_true rfl) (rc0 rfl (CLt hH (by decide)) (CC hH 43 (by decide) rfl)) (by decide) (by decide) (z_needs hG hH (by exact hz) (by exact hz2) (by decide)) ?_
  refine g_bipush (v := 108) hX (dk DX3_readWord 51 rfl) (by decide) ?_
  refine g_ireturn hX (dk DX3_readWord 52 rfl) rfl (rfl) (by decide) (by decide) ?_
  exact qI_of ⟨rfl, ⟨hz, hz2⟩, rfl⟩

set_option maxRecDepth 8000 in
set_option maxHeartbeats 4000000 in
theorem z_readClause {G : Gt} (hG : Gok G) {I : It} {h : Ht} (hH : HX h) (hz : I 43 9 = 0) (hz2 : I 43 10 = 0)  : Con G 5 0 0 mX3_readClause [.ref 43] I h (qV (fun I2 h2 => Zf I2 ∧ I2 43 11 = 1 ∧ h2 = h)) := by
  refine con_intro (own := RX3) (lo0 := [some (.ref 43), none, none]) hG rfl pl_X3 (Nat.le_of_ble_eq_true rfl) rfl (fun X hX => ?_)
  refine g_aload_0 hX (dk DX3_readClause_0 0 rfl) ?_
  refine g_c1q hX sX3_readClause_1 (by decide) (Nat.le_of_ble_eq_true rfl) (rc0 rfl (CLt hH (by decide)) (CC hH 43 (by decide) rfl)) (by decide) (by decide) (z_readWord hG hH (by exact hz) (by exact hz2)) ?_
  rintro _ I2 _ ⟨rfl, ⟨hz, hz2⟩, rfl⟩
  refine g_istore_1 hX (dk DX3_readClause_0 2 rfl) (by decide) rfl ?_
  refine g_aload_0 hX (dk DX3_readClause_0 3 rfl) ?_
  refine g_bipush (v := 32) hX (dk DX3_readClause_0 4 rfl) (by decide) ?_
  refine g_c2V hX sX3_readClause_8 (by decide) (Nat.le_of_ble_eq_true rfl) (rc0 rfl (CLt hH (by decide)) (CC hH 43 (by decide) rfl)) (by decide) (by decide) (z_needs hG hH (by exact hz) (by exact hz2) (by decide)) ?_
  refine g_aload_0 hX (dk DX3_readClause_0 6 rfl) ?_
  refine g_c1I hX sX3_readClause_12 (by decide) (Nat.le_of_ble_eq_true rfl) (rc0 rfl (CLt hH (by decide)) (CC hH 43 (by decide) rfl)) (by decide) (by decide) (z_readNumber hG hH (by exact hz) (by exact hz2)) ?_
  refine g_istore_2 hX (dk DX3_readClause_0 8 rfl) (by decide) rfl ?_
  refine g_iload_1 hX (dk DX3_readClause_0 9 rfl) ?_
  refine g_bipush (v := 115) hX (dk DX3_readClause_0 10 rfl) (by decide) ?_
  refine g_icmp_eq (tgt := 28) hX (dk DX3_readClause_0 11 rfl) (by decide) (fun hc1 => absurd hc1 (by decide)) (fun hc1 => ?_)
  refine g_iload_1 hX (dk DX3_readClause_0 12 rfl) ?_
  refine g_bipush (v := 99) hX (dk DX3_readClause_0 13 rfl) (by decide) ?_
  refine g_icmp_ne (tgt := 42) hX (dk DX3_readClause_0 14 rfl) (by decide) (fun hc2 => ?_) (fun hc2 => absurd hc2 (by decide))
  refine g_iload_1 hX (dk DX3_readClause_0 22 rfl) ?_
  refine g_bipush (v := 108) hX (dk DX3_readClause_0 23 rfl) (by decide) ?_
  refine g_icmp_ne (tgt := 56) hX (dk DX3_readClause_0 24 rfl) (by decide) (fun hc3 => absurd hc3 (by decide)) (fun hc3 => ?_)
  refine g_aload_0 hX (dk DX3_readClause_0 25 rfl) ?_
  refine g_iload_2 hX (dk DX3_readClause_0 26 rfl) ?_
  refine g_putI hX (dk DX3_readClause_0 27 rfl) KX3 fX3_51 (by decide) rfl (CLt hH (q := 43) (by decide)) (CC hH 43 (by decide) rfl) (Or.inl rfl) (rfl) (rfl) ?_
  refine g_goto (tgt := 61) hX (dk DX3_readClause_0 28 rfl) (by decide) ?_
  refine g_aload_0 hX (dk DX3_readClause_0 32 rfl) ?_
  refine g_getIv hX (dk DX3_readClause_0 33 rfl) KX3 fX3_41 (by decide) rfl (CLt hH (q := 43) (by decide)) (CC hH 43 (by decide) rfl) ((show _ = (1 : Int32) from rfl)) ?_
  refine g_if_ne (tgt := 120) hX (dk DX3_readClause_0 34 rfl) (by decide) (fun hc4 => ?_) (fun hc4 => absurd hc4 (by decide))
  refine g_return hX (dk DX3_readClause_1 4 rfl) rfl (by decide) (by decide) ?_
  exact qV_of ⟨⟨hz, hz2⟩, rfl, rfl⟩

set_option maxRecDepth 8000 in
set_option maxHeartbeats 4000000 in
theorem z_readFrom {G : Gt} (hG : Gok G) {I : It} {h : Ht} (hH : HX h)  : Con G 6 0 0 mX3_readFrom [.ref 43, .int 0] I h (qI (fun x I2 h2 => x = 0 ∧ h2 = h)) := by
  refine con_intro (own := RX3) (lo0 := [some (.ref 43), some (.int 0), none]) hG rfl pl_X3 (Nat.le_of_ble_eq_true rfl) rfl (fun X hX => ?_)
  refine g_aload_0 hX (dk DX3_readFrom 0 rfl) ?_
  refine g_iload_1 hX (dk DX3_readFrom 1 rfl) ?_
  refine g_aload_0 hX (dk DX3_readFrom 2 rfl) ?_
  refine g_getRs (r := 31) hX (dk DX3_readFrom 3 rfl) KX3 fX3_24 (by decide) rfl (CLt hH (q := 43) (by decide)) (CC hH 43 (by decide) rfl) (CR hH 43 8 31 (by decide)) ?_
  refine g_alen (v := 100) hX (dk DX3_readFrom 4 rfl) (CLt hH (q := 31) (by decide)) (CS hH 31 (by decide) rfl) (by decide) (i0 := 2) rfl (by decide) ?_
  refine g_c2I hX sX3_readFrom_7 (by decide) (Nat.le_of_ble_eq_true rfl) rcN (by decide) (by decide) (c_J9_min_7cf53 hG) ?_
  refine g_nmI 0 (by decide) ?_
  refine g_putI hX (dk DX3_readFrom 6 rfl) KX3 fX3_34 (by decide) rfl (CLt hH (q := 43) (by decide)) (CC hH 43 (by decide) rfl) (Or.inl rfl) (rfl) (rfl) ?_
  refine g_aload_0 hX (dk DX3_readFrom 7 rfl) ?_
  refine g_iconst (v := 0) hX (dk DX3_readFrom 8 rfl) (by decide) ?_
  refine g_putI hX (dk DX3_readFrom 9 rfl) KX3 fX3_38 (by decide) rfl (CLt hH (q := 43) (by decide)) (CC hH 43 (by decide) rfl) (Or.inl rfl) (rfl) (rfl) ?_
  refine g_aload_0 hX (dk DX3_readFrom 10 rfl) ?_
  refine g_iconst (v := 0) hX (dk DX3_readFrom 11 rfl) (by decide) ?_
  refine g_putI hX (dk DX3_readFrom 12 rfl) KX3 fX3_41 (by decide) rfl (CLt hH (q := 43) (by decide)) (CC hH 43 (by decide) rfl) (Or.inl rfl) (by decide) (by decide) ?_
  refine g_aload_0 hX (dk DX3_readFrom 13 rfl) ?_
  refine g_iconst (v := 0) hX (dk DX3_readFrom 14 rfl) (by decide) ?_
  refine g_putI hX (dk DX3_readFrom 15 rfl) KX3 fX3_45 (by decide) rfl (CLt hH (q := 43) (by decide)) (CC hH 43 (by decide) rfl) (Or.inl rfl) (rfl) (rfl) ?_
  refine g_aload_0 hX (dk DX3_readFrom 16 rfl) ?_
  refine g_iconst (v := 0) hX (dk DX3_readFrom 17 rfl) (by decide) ?_
  refine g_putI hX (dk DX3_readFrom 18 rfl) KX3 fX3_48 (by decide) rfl (CLt hH (q := 43) (by decide)) (CC hH 43 (by decide) rfl) (Or.inl rfl) (rfl) (rfl) ?_
  refine g_aload_0 hX (dk DX3_readFrom 19 rfl) ?_
  refine g_bipush (v := 7) hX (dk DX3_readFrom 20 rfl) (by decide) ?_
  refine g_putI hX (dk DX3_readFrom 21 rfl) KX3 fX3_51 (by decide) rfl (CLt hH (q := 43) (by decide)) (CC hH 43 (by decide) rfl) (Or.inl rfl) (rfl) (rfl) ?_
  refine g_aload_0 hX (dk DX3_readFrom 22 rfl) ?_
  refine g_iconst (v := 1) hX (dk DX3_readFrom 23 rfl) (by decide) ?_
  refine g_putI hX (dk DX3_readFrom 24 rfl) KX3 fX3_54 (by decide) rfl (CLt hH (q := 43) (by decide)) (CC hH 43 (by decide) rfl) (Or.inl rfl) (rfl) (rfl) ?_
  refine g_iconst (v := 0) hX (dk DX3_readFrom 25 rfl) (by decide) ?_
  refine g_istore_2 hX (dk DX3_readFrom 26 rfl) (by decide) rfl ?_
  refine g_iload_2 hX (dk DX3_readFrom 27 rfl) ?_
  refine g_bipush (v := 10) hX (dk DX3_readFrom 28 rfl) (by decide) ?_
  refine g_icmp_ge (tgt := 75) hX (dk DX3_readFrom 29 rfl) (by decide) (fun hc1 => absurd hc1 (by decide)) (fun hc1 => ?_)
  refine g_iload_2 hX (dk DX3_readFrom 30 rfl) ?_
  refine g_if_eq (tgt := 65) hX (dk DX3_readFrom 31 rfl) (by decide) (fun hc2 => ?_) (fun hc2 => absurd (by decide) hc2)
  refine g_aload_0 hX (dk DX3_readFrom 36 rfl) ?_
  refine g_c1v hX sX3_readFrom_66 (by decide) (Nat.le_of_ble_eq_true rfl) (rc0 rfl (CLt hH (by decide)) (CC hH 43 (by decide) rfl)) (by decide) (by decide) (z_readClause hG hH rfl rfl) ?_
  rintro I2 _ ⟨⟨hz, hz2⟩, h11, rfl⟩
  refine g_iinc_2 (v := 1) hX (dk DX3_readFrom 38 rfl) (by decide) (by decide) rfl ?_
  refine g_goto (tgt := 46) hX (dk DX3_readFrom 39 rfl) (by decide) ?_
  refine g_iload_2 hX (dk DX3_readFrom 27 rfl) ?_
  refine g_bipush (v := 10) hX (dk DX3_readFrom 28 rfl) (by decide) ?_
  refine g_icmp_ge (tgt := 75) hX (dk DX3_readFrom 29 rfl) (by decide) (fun hc3 => absurd hc3 (by decide)) (fun hc3 => ?_)
  refine g_iload_2 hX (dk DX3_readFrom 30 rfl) ?_
  refine g_if_eq (tgt := 65) hX (dk DX3_readFrom 31 rfl) (by decide) (fun hc4 => absurd hc4 (by decide)) (fun hc4 => ?_)
  refine g_aload_0 hX (dk DX3_readFrom 32 rfl) ?_
  refine g_bipush (v := 59) hX (dk DX3_readFrom 33 rfl) (by decide) ?_
  refine g_c2I hX sX3_readFrom_59 (by decide) (Nat.le_of_ble_eq_true rfl) (rc0 rfl (CLt hH (by decide)) (CC hH 43 (by decide) rfl)) (by decide) (by decide) (z_takes hG hH (by exact hz) (by exact hz2) (by decide)) ?_
  refine g_if_eq (tgt := 75) hX (dk DX3_readFrom 35 rfl) (by decide) (fun hc5 => ?_) (fun hc5 => absurd (by decide) hc5)
  refine g_aload_0 hX (dk DX3_readFrom 40 rfl) ?_
  refine g_getIv hX (dk DX3_readFrom 41 rfl) KX3 fX3_41 (by decide) rfl (CLt hH (q := 43) (by decide)) (CC hH 43 (by decide) rfl) (h11) ?_
  refine g_if_ne (tgt := 97) hX (dk DX3_readFrom 42 rfl) (by decide) (fun hc6 => ?_) (fun hc6 => absurd hc6 (by decide))
  refine g_aload_0 hX (dk DX3_readFrom 50 rfl) ?_
  refine g_getIv hX (dk DX3_readFrom 51 rfl) KX3 fX3_38 (by decide) rfl (CLt hH (q := 43) (by decide)) (CC hH 43 (by decide) rfl) (hz2) ?_
  refine g_ireturn hX (dk DX3_readFrom 52 rfl) rfl (rfl) (by decide) (by decide) ?_
  exact qI_of ⟨rfl, rfl⟩

set_option maxRecDepth 8000 in
set_option maxHeartbeats 4000000 in
theorem n_post {G : Gt} (hG : Gok G) {I : It} {h : Ht} (hH : HX h) (hN : NX I) (hP : NRF h)  : Con G 7 0 0 mX11_post [.ref 0] I h (qA (-10)) := by
  refine con_intro (own := RX11) (lo0 := [some (.ref 0), none, none]) hG rfl pl_X11 (Nat.le_of_ble_eq_true rfl) rfl (fun X hX => ?_)
  refine g_aload_0 hX (dk DX11_post 0 rfl) ?_
  refine g_getIv hX (dk DX11_post 1 rfl) KX11 fX11_145 (by decide) rfl (CLt hH (q := 0) (by decide)) (CC hH 0 (by decide) rfl) ((hN.1 0 (by decide) 5)) ?_
  refine g_aload_0 hX (dk DX11_post 2 rfl) ?_
  refine g_getRs (r := 30) hX (dk DX11_post 3 rfl) KX11 fX11_32 (by decide) rfl (CLt hH (q := 0) (by decide)) (CC hH 0 (by decide) rfl) (CR hH 0 4 30 (by decide)) ?_
  refine g_alen (v := 6) hX (dk DX11_post 4 rfl) (CLt hH (q := 30) (by decide)) (CS hH 30 (by decide) rfl) (by decide) (i0 := 5) rfl (by decide) ?_
  refine g_icmp_lt (tgt := 15) hX (dk DX11_post 5 rfl) (by decide) (fun hc1 => ?_) (fun hc1 => absurd (by decide) hc1)
  refine g_aload_0 hX (dk DX11_post 8 rfl) ?_
  refine g_getRs (r := 30) hX (dk DX11_post 9 rfl) KX11 fX11_32 (by decide) rfl (CLt hH (q := 0) (by decide)) (CC hH 0 (by decide) rfl) (CR hH 0 4 30 (by decide)) ?_
  refine g_aload_0 hX (dk DX11_post 10 rfl) ?_
  refine g_getIv hX (dk DX11_post 11 rfl) KX11 fX11_145 (by decide) rfl (CLt hH (q := 0) (by decide)) (CC hH 0 (by decide) rfl) ((hN.1 0 (by decide) 5)) ?_
  refine i_aaload (i0 := 5) (j := 0) hX (dk DX11_post 12 rfl) (CLt hH (q := 30) (by decide)) (CS hH 30 (by decide) rfl) (by decide) rfl rfl (⟨rfl, by decide, by decide⟩) (CR hH 30 0 43 (by decide)) ?_
  refine g_astore_1 hX (dk DX11_post 13 rfl) (by decide) rfl ?_
  refine g_aload_1 hX (dk DX11_post 14 rfl) ?_
  refine g_aload_0 hX (dk DX11_post 15 rfl) ?_
  refine g_getIv hX (dk DX11_post 16 rfl) KX11 fX11_142 (by decide) rfl (CLt hH (q := 0) (by decide)) (CC hH 0 (by decide) rfl) ((hN.1 0 (by decide) 7)) ?_
  refine g_c2q hX sX11_post_30 (by decide) (Nat.le_of_ble_eq_true rfl) (rc0 rfl (CLt hH (by decide)) (CC hH 43 (by decide) rfl)) (by decide) (by decide) (z_readFrom hG hH) ?_
  rintro _ I2 _ ⟨rfl, rfl⟩
  refine g_istore_2 hX (dk DX11_post 18 rfl) (by decide) rfl ?_
  refine g_aload_0 hX (dk DX11_post 19 rfl) ?_
  refine g_iconst (v := 0) hX (dk DX11_post 20 rfl) (by decide) ?_
  refine g_putI hX (dk DX11_post 21 rfl) KX11 fX11_142 (by decide) rfl (CLt hH (q := 0) (by decide)) (CC hH 0 (by decide) rfl) (Or.inl rfl) (rfl) (rfl) ?_
  refine g_iload_2 hX (dk DX11_post 22 rfl) ?_
  refine g_if_lt (tgt := 48) hX (dk DX11_post 23 rfl) (by decide) (fun hc2 => absurd hc2 (by decide)) (fun hc2 => ?_)
  refine g_bipush (v := -10) hX (dk DX11_post 24 rfl) (by decide) ?_
  refine g_iload_2 hX (dk DX11_post 25 rfl) ?_
  refine g_isub hX (dk DX11_post 26 rfl) ?_
  refine g_ireturn hX (dk DX11_post 27 rfl) rfl (rfl) (by decide) (by decide) ?_
  exact qA_of (by decide)

