section
set_option maxRecDepth 8000 in
set_option maxHeartbeats 4000000 in
theorem c_X3_readNumber {G : Gt} (hG : Gok G) {I : It} {h : Ht}  (hH : HX h) {p : Nat} (hp : p < 6)  : Con G (2) 0 0 mX3_readNumber [.ref (43 + 5 * p)] I h (rI (nuV p I) (nuW p I) h) := by
  refine con_intro (own := RX3) (lo0 := [some (.ref (43 + 5 * p)), none, none]) hG rfl pl_X3 (Nat.le_of_ble_eq_true rfl) rfl (fun X hX => ?_)
  refine g_iconst (v := 0) hX (dk DX3_readNumber 0 rfl) (by decide) ?_
  refine g_istore_1 hX (dk DX3_readNumber 1 rfl) (by decide) rfl ?_
  refine g_iconst (v := 0) hX (dk DX3_readNumber 2 rfl) (by decide) ?_
  refine g_istore_2 hX (dk DX3_readNumber 3 rfl) (by decide) rfl ?_
  refine g_iload_2 hX (dk DX3_readNumber 4 rfl) ?_
  refine g_iconst (v := 2) hX (dk DX3_readNumber 5 rfl) (by decide) ?_
  refine g_icmp_ge (tgt := 56) hX (dk DX3_readNumber 6 rfl) (by decide) (fun hc1 => absurd hc1 (by decide)) (fun hc1 => ?_)
  refine g_aload_0 hX (dk DX3_readNumber 7 rfl) ?_
  refine g_c1I hX sX3_readNumber_10 (by decide) (Nat.le_of_ble_eq_true rfl) (rc0 rfl (PL0 hH hp) (PSh hH hp)) (by decide) (by decide) (c_X3_here hG hH hp) ?_
  refine g_bipush (v := 48) hX (dk DX3_readNumber 9 rfl) (by decide) ?_
  refine g_icmp_lt (tgt := 56) hX (dk DX3_readNumber 10 rfl) (by decide) (fun hc2 => ?_) (fun hc2 => ?_)
  · refine g_iload_2 hX (dk DX3_readNumber 32 rfl) ?_
    refine g_if_ne (tgt := 65) hX (dk DX3_readNumber 33 rfl) (by decide) (fun hc3 => absurd hc3 (by decide)) (fun hc3 => ?_)
    refine g_aload_0 hX (dk DX3_readNumber 34 rfl) ?_
    refine g_iconst (v := 1) hX (dk DX3_readNumber 35 rfl) (by decide) ?_
    refine g_putI hX (dk DX3_readNumber 36 rfl) KX3 fX3_41 (by decide) rfl (PL0 hH hp) (PSh hH hp) (Or.inl rfl) (by decide) (by decide) ?_
    refine g_iload_1 hX (dk DX3_readNumber 37 rfl) ?_
    refine g_ireturn hX (dk DX3_readNumber 38 rfl) rfl (rfl) (by decide) (by decide) ?_
    exact rI_of (by unfold nuV; (try unfold incW); (try first | rw [if_pos hc1] | rw [if_neg hc1] | rw [if_neg (not_not_intro hc1)]); (try first | rw [if_pos hc2] | rw [if_neg hc2] | rw [if_neg (not_not_intro hc2)]); (try first | rw [if_pos hc3] | rw [if_neg hc3] | rw [if_neg (not_not_intro hc3)]); first | done | rfl) (by unfold nuW; (try unfold incW); (try first | rw [if_pos hc1] | rw [if_neg hc1] | rw [if_neg (not_not_intro hc1)]); (try first | rw [if_pos hc2] | rw [if_neg hc2] | rw [if_neg (not_not_intro hc2)]); (try first | rw [if_pos hc3] | rw [if_neg hc3] | rw [if_neg (not_not_intro hc3)]); first | done | rfl) rfl
  · refine g_aload_0 hX (dk DX3_readNumber 11 rfl) ?_
    refine g_c1I hX sX3_readNumber_19 (by decide) (Nat.le_of_ble_eq_true rfl) (rc0 rfl (PL0 hH hp) (PSh hH hp)) (by decide) (by decide) (c_X3_here hG hH hp) ?_
    refine g_bipush (v := 57) hX (dk DX3_readNumber 13 rfl) (by decide) ?_
    refine g_icmp_gt (tgt := 56) hX (dk DX3_readNumber 14 rfl) (by decide) (fun hc4 => ?_) (fun hc4 => ?_)
    · refine g_iload_2 hX (dk DX3_readNumber 32 rfl) ?_
      refine g_if_ne (tgt := 65) hX (dk DX3_readNumber 33 rfl) (by decide) (fun hc5 => absurd hc5 (by decide)) (fun hc5 => ?_)
      refine g_aload_0 hX (dk DX3_readNumber 34 rfl) ?_
      refine g_iconst (v := 1) hX (dk DX3_readNumber 35 rfl) (by decide) ?_
      refine g_putI hX (dk DX3_readNumber 36 rfl) KX3 fX3_41 (by decide) rfl (PL0 hH hp) (PSh hH hp) (Or.inl rfl) (by decide) (by decide) ?_
      refine g_iload_1 hX (dk DX3_readNumber 37 rfl) ?_
      refine g_ireturn hX (dk DX3_readNumber 38 rfl) rfl (rfl) (by decide) (by decide) ?_
      exact rI_of (by unfold nuV; (try unfold incW); (try first | rw [if_pos hc1] | rw [if_neg hc1] | rw [if_neg (not_not_intro hc1)]); (try first | rw [if_pos hc2] | rw [if_neg hc2] | rw [if_neg (not_not_intro hc2)]); (try first | rw [if_pos hc4] | rw [if_neg hc4] | rw [if_neg (not_not_intro hc4)]); (try first | rw [if_pos hc5] | rw [if_neg hc5] | rw [if_neg (not_not_intro hc5)]); first | done | rfl) (by unfold nuW; (try unfold incW); (try first | rw [if_pos hc1] | rw [if_neg hc1] | rw [if_neg (not_not_intro hc1)]); (try first | rw [if_pos hc2] | rw [if_neg hc2] | rw [if_neg (not_not_intro hc2)]); (try first | rw [if_pos hc4] | rw [if_neg hc4] | rw [if_neg (not_not_intro hc4)]); (try first | rw [if_pos hc5] | rw [if_neg hc5] | rw [if_neg (not_not_intro hc5)]); first | done | rfl) rfl
    · refine g_iload_1 hX (dk DX3_readNumber 15 rfl) ?_
      refine g_bipush (v := 10) hX (dk DX3_readNumber 16 rfl) (by decide) ?_
      refine g_imul hX (dk DX3_readNumber 17 rfl) ?_
      refine g_aload_0 hX (dk DX3_readNumber 18 rfl) ?_
      refine g_c1I hX sX3_readNumber_32 (by decide) (Nat.le_of_ble_eq_true rfl) (rc0 rfl (PL0 hH hp) (PSh hH hp)) (by decide) (by decide) (c_X3_here hG hH hp) ?_
      refine g_iadd hX (dk DX3_readNumber 20 rfl) ?_
      refine g_bipush (v := 48) hX (dk DX3_readNumber 21 rfl) (by decide) ?_
      refine g_isub hX (dk DX3_readNumber 22 rfl) ?_
      refine g_istore_1 hX (dk DX3_readNumber 23 rfl) (by decide) rfl ?_
      refine g_aload_0 hX (dk DX3_readNumber 24 rfl) ?_
      refine g_dup hX (dk DX3_readNumber 25 rfl) rfl ?_
      refine g_getI hX (dk DX3_readNumber 26 rfl) KX3 fX3_38 (by decide) rfl (PL0 hH hp) (PSh hH hp) ?_
      refine g_iconst (v := 1) hX (dk DX3_readNumber 27 rfl) (by decide) ?_
      refine g_iadd hX (dk DX3_readNumber 28 rfl) ?_
      refine g_putI hX (dk DX3_readNumber 29 rfl) KX3 fX3_38 (by decide) rfl (PL0 hH hp) (PSh hH hp) (Or.inl rfl) (rfl) (rfl) ?_
      refine g_iinc_2 (v := 1) hX (dk DX3_readNumber 30 rfl) (by decide) (by decide) rfl ?_
      refine g_goto (tgt := 4) hX (dk DX3_readNumber 31 rfl) (by decide) ?_
      refine g_iload_2 hX (dk DX3_readNumber 4 rfl) ?_
      refine g_iconst (v := 2) hX (dk DX3_readNumber 5 rfl) (by decide) ?_
      refine g_icmp_ge (tgt := 56) hX (dk DX3_readNumber 6 rfl) (by decide) (fun hc6 => absurd hc6 (by decide)) (fun hc6 => ?_)
      refine g_aload_0 hX (dk DX3_readNumber 7 rfl) ?_
      refine g_c1I hX sX3_readNumber_10 (by decide) (Nat.le_of_ble_eq_true rfl) (rc0 rfl (PL0 hH hp) (PSh hH hp)) (by decide) (by decide) (c_X3_here hG hH hp) ?_
      refine g_bipush (v := 48) hX (dk DX3_readNumber 9 rfl) (by decide) ?_
      refine g_icmp_lt (tgt := 56) hX (dk DX3_readNumber 10 rfl) (by decide) (fun hc7 => ?_) (fun hc7 => ?_)
      · refine g_iload_2 hX (dk DX3_readNumber 32 rfl) ?_
        refine g_if_ne (tgt := 65) hX (dk DX3_readNumber 33 rfl) (by decide) (fun hc8 => ?_) (fun hc8 => absurd hc8 (by decide))
        refine g_iload_1 hX (dk DX3_readNumber 37 rfl) ?_
        refine g_ireturn hX (dk DX3_readNumber 38 rfl) rfl (rfl) (by decide) (by decide) ?_
        exact rI_of (by unfold nuV; (try unfold incW); (try first | rw [if_pos hc1] | rw [if_neg hc1] | rw [if_neg (not_not_intro hc1)]); (try first | rw [if_pos hc2] | rw [if_neg hc2] | rw [if_neg (not_not_intro hc2)]); (try first | rw [if_pos hc4] | rw [if_neg hc4] | rw [if_neg (not_not_intro hc4)]); (try first | rw [if_pos hc6] | rw [if_neg hc6] | rw [if_neg (not_not_intro hc6)]); (try first | rw [if_pos hc7] | rw [if_neg hc7] | rw [if_neg (not_not_intro hc7)]); (try first | rw [if_pos hc8] | rw [if_neg hc8] | rw [if_neg (not_not_intro hc8)]); first | done | rfl) (by unfold nuW; (try unfold incW); (try first | rw [if_pos hc1] | rw [if_neg hc1] | rw [if_neg (not_not_intro hc1)]); (try first | rw [if_pos hc2] | rw [if_neg hc2] | rw [if_neg (not_not_intro hc2)]); (try first | rw [if_pos hc4] | rw [if_neg hc4] | rw [if_neg (not_not_intro hc4)]); (try first | rw [if_pos hc6] | rw [if_neg hc6] | rw [if_neg (not_not_intro hc6)]); (try first | rw [if_pos hc7] | rw [if_neg hc7] | rw [if_neg (not_not_intro hc7)]); (try first | rw [if_pos hc8] | rw [if_neg hc8] | rw [if_neg (not_not_intro hc8)]); first | done | rfl) rfl
      · refine g_aload_0 hX (dk DX3_readNumber 11 rfl) ?_
        refine g_c1I hX sX3_readNumber_19 (by decide) (Nat.le_of_ble_eq_true rfl) (rc0 rfl (PL0 hH hp) (PSh hH hp)) (by decide) (by decide) (c_X3_here hG hH hp) ?_
        refine g_bipush (v := 57) hX (dk DX3_readNumber 13 rfl) (by decide) ?_
        refine g_icmp_gt (tgt := 56) hX (dk DX3_readNumber 14 rfl) (by decide) (fun hc9 => ?_) (fun hc9 => ?_)
        · refine g_iload_2 hX (dk DX3_readNumber 32 rfl) ?_
          refine g_if_ne (tgt := 65) hX (dk DX3_readNumber 33 rfl) (by decide) (fun hc10 => ?_) (fun hc10 => absurd hc10 (by decide))
          refine g_iload_1 hX (dk DX3_readNumber 37 rfl) ?_
          refine g_ireturn hX (dk DX3_readNumber 38 rfl) rfl (rfl) (by decide) (by decide) ?_
          exact rI_of (by unfold nuV; (try unfold incW); (try first | rw [if_pos hc1] | rw [if_neg hc1] | rw [if_neg (not_not_intro hc1)]); (try first | rw [if_pos hc2] | rw [if_neg hc2] | rw [if_neg (not_not_intro hc2)]); (try first | rw [if_pos hc4] | rw [if_neg hc4] | rw [if_neg (not_not_intro hc4)]); (try first | rw [if_pos hc6] | rw [if_neg hc6] | rw [if_neg (not_not_intro hc6)]); (try first | rw [if_pos hc7] | rw [if_neg hc7] | rw [if_neg (not_not_intro hc7)]); (try first | rw [if_pos hc9] | rw [if_neg hc9] | rw [if_neg (not_not_intro hc9)]); (try first | rw [if_pos hc10] | rw [if_neg hc10] | rw [if_neg (not_not_intro hc10)]); first | done | rfl) (by unfold nuW; (try unfold incW); (try first | rw [if_pos hc1] | rw [if_neg hc1] | rw [if_neg (not_not_intro hc1)]); (try first | rw [if_pos hc2] | rw [if_neg hc2] | rw [if_neg (not_not_intro hc2)]); (try first | rw [if_pos hc4] | rw [if_neg hc4] | rw [if_neg (not_not_intro hc4)]); (try first | rw [if_pos hc6] | rw [if_neg hc6] | rw [if_neg (not_not_intro hc6)]); (try first | rw [if_pos hc7] | rw [if_neg hc7] | rw [if_neg (not_not_intro hc7)]); (try first | rw [if_pos hc9] | rw [if_neg hc9] | rw [if_neg (not_not_intro hc9)]); (try first | rw [if_pos hc10] | rw [if_neg hc10] | rw [if_neg (not_not_intro hc10)]); first | done | rfl) rfl
        · refine g_iload_1 hX (dk DX3_readNumber 15 rfl) ?_
          refine g_bipush (v := 10) hX (dk DX3_readNumber 16 rfl) (by decide) ?_
          refine g_imul hX (dk DX3_readNumber 17 rfl) ?_
          refine g_aload_0 hX (dk DX3_readNumber 18 rfl) ?_
          refine g_c1I hX sX3_readNumber_32 (by decide) (Nat.le_of_ble_eq_true rfl) (rc0 rfl (PL0 hH hp) (PSh hH hp)) (by decide) (by decide) (c_X3_here hG hH hp) ?_
          refine g_iadd hX (dk DX3_readNumber 20 rfl) ?_
          refine g_bipush (v := 48) hX (dk DX3_readNumber 21 rfl) (by decide) ?_
          refine g_isub hX (dk DX3_readNumber 22 rfl) ?_
          refine g_istore_1 hX (dk DX3_readNumber 23 rfl) (by decide) rfl ?_
          refine g_aload_0 hX (dk DX3_readNumber 24 rfl) ?_
          refine g_dup hX (dk DX3_readNumber 25 rfl) rfl ?_
          refine g_getI hX (dk DX3_readNumber 26 rfl) KX3 fX3_38 (by decide) rfl (PL0 hH hp) (PSh hH hp) ?_
          refine g_iconst (v := 1) hX (dk DX3_readNumber 27 rfl) (by decide) ?_
          refine g_iadd hX (dk DX3_readNumber 28 rfl) ?_
          refine g_putI hX (dk DX3_readNumber 29 rfl) KX3 fX3_38 (by decide) rfl (PL0 hH hp) (PSh hH hp) (Or.inl rfl) (rfl) (rfl) ?_
          refine g_iinc_2 (v := 2) hX (dk DX3_readNumber 30 rfl) (by decide) (by decide) rfl ?_
          refine g_goto (tgt := 4) hX (dk DX3_readNumber 31 rfl) (by decide) ?_
          refine g_iload_2 hX (dk DX3_readNumber 4 rfl) ?_
          refine g_iconst (v := 2) hX (dk DX3_readNumber 5 rfl) (by decide) ?_
          refine g_icmp_ge (tgt := 56) hX (dk DX3_readNumber 6 rfl) (by decide) (fun hc11 => ?_) (fun hc11 => absurd (by decide) hc11)
          refine g_iload_2 hX (dk DX3_readNumber 32 rfl) ?_
          refine g_if_ne (tgt := 65) hX (dk DX3_readNumber 33 rfl) (by decide) (fun hc12 => ?_) (fun hc12 => absurd hc12 (by decide))
          refine g_iload_1 hX (dk DX3_readNumber 37 rfl) ?_
          refine g_ireturn hX (dk DX3_readNumber 38 rfl) rfl (rfl) (by decide) (by decide) ?_
          exact rI_of (by unfold nuV; (try unfold incW); (try first | rw [if_pos hc1] | rw [if_neg hc1] | rw [if_neg (not_not_intro hc1)]); (try first | rw [if_pos hc2] | rw [if_neg hc2] | rw [if_neg (not_not_intro hc2)]); (try first | rw [if_pos hc4] | rw [if_neg hc4] | rw [if_neg (not_not_intro hc4)]); (try first | rw [if_pos hc6] | rw [if_neg hc6] | rw [if_neg (not_not_intro hc6)]); (try first | rw [if_pos hc7] | rw [if_neg hc7] | rw [if_neg (not_not_intro hc7)]); (try first | rw [if_pos hc9] | rw [if_neg hc9] | rw [if_neg (not_not_intro hc9)]); (try first | rw [if_pos hc11] | rw [if_neg hc11] | rw [if_neg (not_not_intro hc11)]); (try first | rw [if_pos hc12] | rw [if_neg hc12] | rw [if_neg (not_not_intro hc12)]); first | done | rfl) (by unfold nuW; (try unfold incW); (try first | rw [if_pos hc1] | rw [if_neg hc1] | rw [if_neg (not_not_intro hc1)]); (try first | rw [if_pos hc2] | rw [if_neg hc2] | rw [if_neg (not_not_intro hc2)]); (try first | rw [if_pos hc4] | rw [if_neg hc4] | rw [if_neg (not_not_intro hc4)]); (try first | rw [if_pos hc6] | rw [if_neg hc6] | rw [if_neg (not_not_intro hc6)]); (try first | rw [if_pos hc7] | rw [if_neg hc7] | rw [if_neg (not_not_intro hc7)]); (try first | rw [if_pos hc9] | rw [if_neg hc9] | rw [if_neg (not_not_intro hc9)]); (try first | rw [if_pos hc11] | rw [if_neg hc11] | rw [if_neg (not_not_intro hc11)]); (try first | rw [if_pos hc12] | rw [if_neg hc12] | rw [if_neg (not_not_intro hc12)]); first | done | rfl) rfl

set_option maxRecDepth 8000 in
set_option maxHeartbeats 4000000 in
theorem c_X3_readTest {G : Gt} (hG : Gok G) {I : It} {h : Ht}  (hH : HX h) {p : Nat} (hp : p < 6) {I0 : It} (hK : KP p I0 I) : Con G (3) 0 0 mX3_readTest [.ref (43 + 5 * p)] I h (rV (tsW p I) h) := by
  refine con_intro (own := RX3) (lo0 := [some (.ref (43 + 5 * p)), none, none, none]) hG rfl pl_X3 (Nat.le_of_ble_eq_true rfl) rfl (fun X hX => ?_)
  have loop87 : ∀ (v : Int32), v = bI (isS (hereC p (ts1 p I))) → GG G (3) 0 0 X (rV (tsW p I) h) 87 [some (.ref (43 + 5 * p)), some (.int (hereC p I)), none, some (.int (hereC p (ts1 p I)))] [.int v, .ref (43 + 5 * p)] ((ts1 p I)) (h) 0 0 := by
    intro v hv
    refine g_nmI (bI (isS (hereC p (ts1 p I)))) hv ?_
    refine g_c2V hX sX3_readTest_87 (by decide) (Nat.le_of_ble_eq_true rfl) (rc0 rfl (PL0 hH hp) (PSh hH hp)) (by decide) (by decide) (c_X3_takeIf hG hH hp) ?_
    refine g_aload_0 hX (dk DX3_readTest_0 48 rfl) ?_
    refine g_iload_1 hX (dk DX3_readTest_0 49 rfl) ?_
    refine g_iload_3 hX (dk DX3_readTest_0 50 rfl) ?_
    refine g_bipush (v := 8) hX (dk DX3_readTest_0 51 rfl) (by decide) ?_
    refine g_ishl hX (dk DX3_readTest_0 52 rfl) ?_
    refine g_ior hX (dk DX3_readTest_0 53 rfl) ?_
    refine g_aload_0 hX (dk DX3_readTest_0 54 rfl) ?_
    refine g_c1I hX sX3_readTest_98 (by decide) (Nat.le_of_ble_eq_true rfl) (rc0 rfl (PL0 hH hp) (PSh hH hp)) (by decide) (by decide) (c_X3_readNumber hG hH hp) ?_
    refine g_bipush (v := 16) hX (dk DX3_readTest_0 56 rfl) (by decide) ?_
    refine g_ishl hX (dk DX3_readTest_0 57 rfl) ?_
    refine g_ior hX (dk DX3_readTest_0 58 rfl) ?_
    refine g_c2V hX sX3_readTest_105 (by decide) (Nat.le_of_ble_eq_true rfl) (rc0 rfl (PL0 hH hp) (PSh hH hp)) (by decide) (by decide) (c_X3_keep hG hH hp (I0 := I0) (by exact (KP.nu (KP.ti (KP.ti hK))))) ?_
    refine g_return hX (dk DX3_readTest_1 0 rfl) rfl (by decide) (by decide) ?_
    exact rV_of rfl rfl
  have loop52 : ∀ (v : Int32), v = bI (isL (hereC p I)) → GG G (3) 0 0 X (rV (tsW p I) h) 52 [some (.ref (43 + 5 * p)), some (.int (hereC p I)), none, none] [.int v] (I) (h) 0 0 := by
    intro v hv
    refine g_nmI (bI (isL (hereC p I))) hv ?_
    refine g_istore_2 hX (dk DX3_readTest_0 27 rfl) (by decide) rfl ?_
    refine g_aload_0 hX (dk DX3_readTest_0 28 rfl) ?_
    refine g_iload_2 hX (dk DX3_readTest_0 29 rfl) ?_
    refine g_c2V hX sX3_readTest_55 (by decide) (Nat.le_of_ble_eq_true rfl) (rc0 rfl (PL0 hH hp) (PSh hH hp)) (by decide) (by decide) (c_X3_takeIf hG hH hp) ?_
    refine g_aload_0 hX (dk DX3_readTest_0 31 rfl) ?_
    refine g_c1I hX sX3_readTest_59 (by decide) (Nat.le_of_ble_eq_true rfl) (rc0 rfl (PL0 hH hp) (PSh hH hp)) (by decide) (by decide) (c_X3_here hG hH hp) ?_
    refine g_istore_3 hX (dk DX3_readTest_0 33 rfl) (by decide) rfl ?_
    refine g_aload_0 hX (dk DX3_readTest_0 34 rfl) ?_
    refine g_iload_3 hX (dk DX3_readTest_0 35 rfl) ?_
    refine g_bipush (v := 60) hX (dk DX3_readTest_0 36 rfl) (by decide) ?_
    refine g_icmp_eq (tgt := 82) hX (dk DX3_readTest_0 37 rfl) (by decide) (fun hc1 => ?_) (fun hc1 => ?_)
    · refine g_iconst (v := 1) hX (dk DX3_readTest_0 44 rfl) (by decide) ?_
      refine g_goto (tgt := 87) hX (dk DX3_readTest_0 45 rfl) (by decide) ?_
      exact g_fgt (loop87 _ (by first | exact (bI_t (by simp only [isS]; first | exact Or.inl (by assumption) | exact Or.inr (Or.inl (by assumption)) | exact Or.inr (Or.inr (by assumption)))).symm | exact (bI_f (by simp_all [isS, ts1])).symm)) ⟨rfl, rfl, rfl, trivial⟩
    · refine g_iload_3 hX (dk DX3_readTest_0 38 rfl) ?_
      refine g_bipush (v := 61) hX (dk DX3_readTest_0 39 rfl) (by decide) ?_
      refine g_icmp_eq (tgt := 82) hX (dk DX3_readTest_0 40 rfl) (by decide) (fun hc2 => ?_) (fun hc2 => ?_)
      · refine g_iconst (v := 1) hX (dk DX3_readTest_0 44 rfl) (by decide) ?_
        refine g_goto (tgt := 87) hX (dk DX3_readTest_0 45 rfl) (by decide) ?_
        exact g_fgt (loop87 _ (by first | exact (bI_t (by simp only [isS]; first | exact Or.inl (by assumption) | exact Or.inr (Or.inl (by assumption)) | exact Or.inr (Or.inr (by assumption)))).symm | exact (bI_f (by simp_all [isS, ts1])).symm)) ⟨rfl, rfl, rfl, trivial⟩
      · refine g_iload_3 hX (dk DX3_readTest_0 41 rfl) ?_
        refine g_bipush (v := 62) hX (dk DX3_readTest_0 42 rfl) (by decide) ?_
        refine g_icmp_ne (tgt := 86) hX (dk DX3_readTest_0 43 rfl) (by decide) (fun hc3 => ?_) (fun hc3 => ?_)
        · refine g_iconst (v := 0) hX (dk DX3_readTest_0 46 rfl) (by decide) ?_
          exact g_fgt (loop87 _ (by first | exact (bI_t (by simp only [isS]; first | exact Or.inl (by assumption) | exact Or.inr (Or.inl (by assumption)) | exact Or.inr (Or.inr (by assumption)))).symm | exact (bI_f (by simp_all [isS, ts1])).symm)) ⟨rfl, rfl, rfl, trivial⟩
        · refine g_iconst (v := 1) hX (dk DX3_readTest_0 44 rfl) (by decide) ?_
          refine g_goto (tgt := 87) hX (dk DX3_readTest_0 45 rfl) (by decide) ?_
          exact g_fgt (loop87 _ (by first | exact (bI_t (by simp only [isS]; first | exact Or.inl (by assumption) | exact Or.inr (Or.inl (by assumption)) | exact Or.inr (Or.inr (by assumption)))).symm | exact (bI_f (by simp_all [isS, ts1])).symm)) ⟨rfl, rfl, rfl, trivial⟩
  refine g_aload_0 hX (dk DX3_readTest_0 0 rfl) ?_
  refine g_c1I hX sX3_readTest_1 (by decide) (Nat.le_of_ble_eq_true rfl) (rc0 rfl (PL0 hH hp) (PSh hH hp)) (by decide) (by decide) (c_X3_here hG hH hp) ?_
  refine g_istore_1 hX (dk DX3_readTest_0 2 rfl) (by decide) rfl ?_
  refine g_iload_1 hX (dk DX3_readTest_0 3 rfl) ?_
  refine g_bipush (v := 105) hX (dk DX3_readTest_0 4 rfl) (by decide) ?_
  refine g_icmp_eq (tgt := 47) hX (dk DX3_readTest_0 5 rfl) (by decide) (fun hc1 => ?_) (fun hc1 => ?_)
  · refine g_iconst (v := 1) hX (dk DX3_readTest_0 24 rfl) (by decide) ?_
    refine g_goto (tgt := 52) hX (dk DX3_readTest_0 25 rfl) (by decide) ?_
    exact g_fgt (loop52 _ (by first | exact (bI_t (by simp only [isL]; first | exact Or.inl (by assumption) | exact Or.inr (Or.inl (by assumption)) | exact Or.inr (Or.inr (Or.inl (by assumption))) | exact Or.inr (Or.inr (Or.inr (Or.inl (by assumption)))) | exact Or.inr (Or.inr (Or.inr (Or.inr (Or.inl (by assumption))))) | exact Or.inr (Or.inr (Or.inr (Or.inr (Or.inr (Or.inl (by assumption)))))) | exact Or.inr (Or.inr (Or.inr (Or.inr (Or.inr (Or.inr (by assumption)))))))).symm | exact (bI_f (by simp_all [isL])).symm)) ⟨rfl, rfl, trivial⟩
  · refine g_iload_1 hX (dk DX3_readTest_0 6 rfl) ?_
    refine g_bipush (v := 107) hX (dk DX3_readTest_0 7 rfl) (by decide) ?_
    refine g_icmp_eq (tgt := 47) hX (dk DX3_readTest_0 8 rfl) (by decide) (fun hc2 => ?_) (fun hc2 => ?_)
    · refine g_iconst (v := 1) hX (dk DX3_readTest_0 24 rfl) (by decide) ?_
      refine g_goto (tgt := 52) hX (dk DX3_readTest_0 25 rfl) (by decide) ?_
      exact g_fgt (loop52 _ (by first | exact (bI_t (by simp only [isL]; first | exact Or.inl (by assumption) | exact Or.inr (Or.inl (by assumption)) | exact Or.inr (Or.inr (Or.inl (by assumption))) | exact Or.inr (Or.inr (Or.inr (Or.inl (by assumption)))) | exact Or.inr (Or.inr (Or.inr (Or.inr (Or.inl (by assumption))))) | exact Or.inr (Or.inr (Or.inr (Or.inr (Or.inr (Or.inl (by assumption)))))) | exact Or.inr (Or.inr (Or.inr (Or.inr (Or.inr (Or.inr (by assumption)))))))).symm | exact (bI_f (by simp_all [isL])).symm)) ⟨rfl, rfl, trivial⟩
    · refine g_iload_1 hX (dk DX3_readTest_0 9 rfl) ?_
      refine g_bipush (v := 114) hX (dk DX3_readTest_0 10 rfl) (by decide) ?_
      refine g_icmp_eq (tgt := 47) hX (dk DX3_readTest_0 11 rfl) (by decide) (fun hc3 => ?_) (fun hc3 => ?_)
      · refine g_iconst (v := 1) hX (dk DX3_readTest_0 24 rfl) (by decide) ?_
        refine g_goto (tgt := 52) hX (dk DX3_readTest_0 25 rfl) (by decide) ?_
        exact g_fgt (loop52 _ (by first | exact (bI_t (by simp only [isL]; first | exact Or.inl (by assumption) | exact Or.inr (Or.inl (by assumption)) | exact Or.inr (Or.inr (Or.inl (by assumption))) | exact Or.inr (Or.inr (Or.inr (Or.inl (by assumption)))) | exact Or.inr (Or.inr (Or.inr (Or.inr (Or.inl (by assumption))))) | exact Or.inr (Or.inr (Or.inr (Or.inr (Or.inr (Or.inl (by assumption)))))) | exact Or.inr (Or.inr (Or.inr (Or.inr (Or.inr (Or.inr (by assumption)))))))).symm | exact (bI_f (by simp_all [isL])).symm)) ⟨rfl, rfl, trivial⟩
      · refine g_iload_1 hX (dk DX3_readTest_0 12 rfl) ?_
        refine g_bipush (v := 118) hX (dk DX3_readTest_0 13 rfl) (by decide) ?_
        refine g_icmp_eq (tgt := 47) hX (dk DX3_readTest_0 14 rfl) (by decide) (fun hc4 => ?_) (fun hc4 => ?_)
        · refine g_iconst (v := 1) hX (dk DX3_readTest_0 24 rfl) (by decide) ?_
          refine g_goto (tgt := 52) hX (dk DX3_readTest_0 25 rfl) (by decide) ?_
          exact g_fgt (loop52 _ (by first | exact (bI_t (by simp only [isL]; first | exact Or.inl (by assumption) | exact Or.inr (Or.inl (by assumption)) | exact Or.inr (Or.inr (Or.inl (by assumption))) | exact Or.inr (Or.inr (Or.inr (Or.inl (by assumption)))) | exact Or.inr (Or.inr (Or.inr (Or.inr (Or.inl (by assumption))))) | exact Or.inr (Or.inr (Or.inr (Or.inr (Or.inr (Or.inl (by assumption)))))) | exact Or.inr (Or.inr (Or.inr (Or.inr (Or.inr (Or.inr (by assumption)))))))).symm | exact (bI_f (by simp_all [isL])).symm)) ⟨rfl, rfl, trivial⟩
        · refine g_iload_1 hX (dk DX3_readTest_0 15 rfl) ?_
          refine g_bipush (v := 99) hX (dk DX3_readTest_0 16 rfl) (by decide) ?_
          refine g_icmp_eq (tgt := 47) hX (dk DX3_readTest_0 17 rfl) (by decide) (fun hc5 => ?_) (fun hc5 => ?_)
          · refine g_iconst (v := 1) hX (dk DX3_readTest_0 24 rfl) (by decide) ?_
            refine g_goto (tgt := 52) hX (dk DX3_readTest_0 25 rfl) (by decide) ?_
            exact g_fgt (loop52 _ (by first | exact (bI_t (by simp only [isL]; first | exact Or.inl (by assumption) | exact Or.inr (Or.inl (by assumption)) | exact Or.inr (Or.inr (Or.inl (by assumption))) | exact Or.inr (Or.inr (Or.inr (Or.inl (by assumption)))) | exact Or.inr (Or.inr (Or.inr (Or.inr (Or.inl (by assumption))))) | exact Or.inr (Or.inr (Or.inr (Or.inr (Or.inr (Or.inl (by assumption)))))) | exact Or.inr (Or.inr (Or.inr (Or.inr (Or.inr (Or.inr (by assumption)))))))).symm | exact (bI_f (by simp_all [isL])).symm)) ⟨rfl, rfl, trivial⟩
          · refine g_iload_1 hX (dk DX3_readTest_0 18 rfl) ?_
            refine g_bipush (v := 121) hX (dk DX3_readTest_0 19 rfl) (by decide) ?_
            refine g_icmp_eq (tgt := 47) hX (dk DX3_readTest_0 20 rfl) (by decide) (fun hc6 => ?_) (fun hc6 => ?_)
            · refine g_iconst (v := 1) hX (dk DX3_readTest_0 24 rfl) (by decide) ?_
              refine g_goto (tgt := 52) hX (dk DX3_readTest_0 25 rfl) (by decide) ?_
              exact g_fgt (loop52 _ (by first | exact (bI_t (by simp only [isL]; first | exact Or.inl (by assumption) | exact Or.inr (Or.inl (by assumption)) | exact Or.inr (Or.inr (Or.inl (by assumption))) | exact Or.inr (Or.inr (Or.inr (Or.inl (by assumption)))) | exact Or.inr (Or.inr (Or.inr (Or.inr (Or.inl (by assumption))))) | exact Or.inr (Or.inr (Or.inr (Or.inr (Or.inr (Or.inl (by assumption)))))) | exact Or.inr (Or.inr (Or.inr (Or.inr (Or.inr (Or.inr (by assumption)))))))).symm | exact (bI_f (by simp_all [isL])).symm)) ⟨rfl, rfl, trivial⟩
            · refine g_iload_1 hX (dk DX3_readTest_0 21 rfl) ?_
              refine g_bipush (v := 119) hX (dk DX3_readTest_0 22 rfl) (by decide) ?_
              refine g_icmp_ne (tgt := 51) hX (dk DX3_readTest_0 23 rfl) (by decide) (fun hc7 => ?_) (fun hc7 => ?_)
              · refine g_iconst (v := 0) hX (dk DX3_readTest_0 26 rfl) (by decide) ?_
                exact g_fgt (loop52 _ (by first | exact (bI_t (by simp only [isL]; first | exact Or.inl (by assumption) | exact Or.inr (Or.inl (by assumption)) | exact Or.inr (Or.inr (Or.inl (by assumption))) | exact Or.inr (Or.inr (Or.inr (Or.inl (by assumption)))) | exact Or.inr (Or.inr (Or.inr (Or.inr (Or.inl (by assumption))))) | exact Or.inr (Or.inr (Or.inr (Or.inr (Or.inr (Or.inl (by assumption)))))) | exact Or.inr (Or.inr (Or.inr (Or.inr (Or.inr (Or.inr (by assumption)))))))).symm | exact (bI_f (by simp_all [isL])).symm)) ⟨rfl, rfl, trivial⟩
              · refine g_iconst (v := 1) hX (dk DX3_readTest_0 24 rfl) (by decide) ?_
                refine g_goto (tgt := 52) hX (dk DX3_readTest_0 25 rfl) (by decide) ?_
                exact g_fgt (loop52 _ (by first | exact (bI_t (by simp only [isL]; first | exact Or.inl (by assumption) | exact Or.inr (Or.inl (by assumption)) | exact Or.inr (Or.inr (Or.inl (by assumption))) | exact Or.inr (Or.inr (Or.inr (Or.inl (by assumption)))) | exact Or.inr (Or.inr (Or.inr (Or.inr (Or.inl (by assumption))))) | exact Or.inr (Or.inr (Or.inr (Or.inr (Or.inr (Or.inl (by assumption)))))) | exact Or.inr (Or.inr (Or.inr (Or.inr (Or.inr (Or.inr (by assumption)))))))).symm | exact (bI_f (by simp_all [isL])).symm)) ⟨rfl, rfl, trivial⟩
end
section
theorem ei_a {p : Nat} {W : It → It} {f k : Nat} {J : It} (hk : nI k = 0) (hk2 : k < 2 ^ 31) : eiR p W (f + 1) k J = eiR p W f (k + 1) (anR p W 100 (W J)) := by
  have : k = 0 := (nI_eq (b := 0) hk2 (by decide)).mp hk
  subst this
  rfl
theorem ei_b {p : Nat} {W : It → It} {f k : Nat} {J : It} (hk : ¬ nI k = 0) (ht : hereC p J = 124) : eiR p W (f + 1) k J = eiR p W f (k + 1) (kpW p 124 (anR p W 100 (W (tkW p 124 J)))) := by
  rw [eiR_s, if_neg (fun z => hk (by rw [z]; rfl)), if_pos ht]
theorem ei_c {p : Nat} {W : It → It} {f k : Nat} {J : It} (hk : ¬ nI k = 0) (ht : ¬ hereC p J = 124) : eiR p W (f + 1) k J = tkW p 124 J := by
  rw [eiR_s, if_neg (fun z => hk (by rw [z]; rfl)), if_neg ht]
theorem rf_a {p f k : Nat} {J : It} (hk : nI k = 0) (hk2 : k < 2 ^ 31) : rfR p (f + 1) k J = rfR p f (k + 1) (rcW p J) := by
  have : k = 0 := (nI_eq (b := 0) hk2 (by decide)).mp hk
  subst this
  rfl
theorem rf_b {p f k : Nat} {J : It} (hk : ¬ nI k = 0) (ht : hereC p J = 59) : rfR p (f + 1) k J = rfR p f (k + 1) (rcW p (tkW p 59 J)) := by
  rw [rfR_s, if_neg (fun z => hk (by rw [z]; rfl)), if_pos ht]
theorem rf_c {p f k : Nat} {J : It} (hk : ¬ nI k = 0) (ht : ¬ hereC p J = 59) : rfR p (f + 1) k J = tkW p 59 J := by
  rw [rfR_s, if_neg (fun z => hk (by rw [z]; rfl)), if_neg ht]
theorem nz_le {k : Nat} (hk : k < 2 ^ 31) (h : ¬ nI k = 0) (h2 : nI k ≤ 0) : False := h (Int32.le_antisymm h2 (nI_le (a := 0) (Nat.zero_le k) hk))
theorem z_nle {k : Nat} (h : nI k = 0) (h2 : ¬ nI k ≤ 0) : False := h2 (by rw [h]; decide)

set_option maxRecDepth 8000 in
set_option maxHeartbeats 4000000 in
theorem c_X3_readEither {G : Gt} (hG : Gok G) {I : It} {h : Ht}  (hH : HX h) {p : Nat} (hp : p < 6) {w : Int32} {dd : Nat} (h2 : 2 ≤ dd) {W : It → It} (hWk : ∀ I0 J, KP p I0 J → KP p I0 (W J)) (hWc : ∀ I0 J, KP p I0 J → Con G dd 0 0 mX3_readPart [.ref (43 + 5 * p), .int w] J h (rV (W J) h)) {I0 : It} (hK : KP p I0 I) : Con G (dd + 1) 0 0 mX3_readEither [.ref (43 + 5 * p), .int w] I h (rV (eiF p W I) h) := by
  refine con_intro (own := RX3) (lo0 := [some (.ref (43 + 5 * p)), some (.int w), none, none]) hG rfl pl_X3 (Nat.le_of_ble_eq_true rfl) rfl (fun X hX => ?_)
  have loop28 : ∀ (kv : Nat) (R : It), GG G (dd + 1) 0 0 X (rV (eiF p W I) h) 60 [some (.ref (43 + 5 * p)), some (.int (w)), some (.int (nI kv)), none] [] R h 0 0 → ∀ (f j : Nat) (J : It), j + f = 100 → KP p I0 J → anR p W f J = R → GG G (dd + 1) 0 0 X (rV (eiF p W I) h) 28 [some (.ref (43 + 5 * p)), some (.int w), some (.int (nI kv)), some (.int (nI j))] [] (J) (h) 0 0 := by
    intro kv R kk f
    induction f using Nat.strongRecOn with | _ f ih => ?_
    intro j J hk hJ hR
    refine g_iload_3 hX (dk DX3_readEither 16 rfl) ?_
    refine g_bipush (v := 100) hX (dk DX3_readEither 17 rfl) (by decide) ?_
    refine g_icmp_ge (tgt := 60) hX (dk DX3_readEither 18 rfl) (by decide) (fun hc1 => ?_) (fun hc1 => ?_)
    · first
      | exact g_fgt (lo2 := [some (.ref (43 + 5 * p)), some (.int (w)), some (.int (nI kv)), none]) (by have hk0 := ct_end (e := 100) hk (by decide) hc1; subst hk0; rw [show J = R from hR]; exact kk) ⟨rfl, rfl, rfl, trivial⟩
      | exact g_fgt (lo2 := [some (.ref (43 + 5 * p)), some (.int (w)), some (.int (nI kv)), none]) (by rw [show tkW p 38 J = R by rw [← hR, anR_s, if_neg hc1]]; exact kk) ⟨rfl, rfl, rfl, trivial⟩
    · obtain ⟨f, rfl⟩ := ct_go (e := 100) hk (by decide) hc1
      refine g_aload_0 hX (dk DX3_readEither 19 rfl) ?_
      refine g_bipush (v := 38) hX (dk DX3_readEither 20 rfl) (by decide) ?_
      refine g_c2I hX sX3_readEither_37 (by omega) (Nat.le_of_ble_eq_true rfl) (rc0 rfl (PL0 hH hp) (PSh hH hp)) (by decide) (by decide) (c_X3_takes hG hH hp) ?_
      refine g_ifb_eq (tgt := 60) hX (dk DX3_readEither 22 rfl) (by decide) (fun hc2 => ?_) (fun hc2 => ?_)
      · first
        | exact g_fgt (lo2 := [some (.ref (43 + 5 * p)), some (.int (w)), some (.int (nI kv)), none]) (by have hk0 := ct_end (e := 100) hk (by decide) hc2; subst hk0; rw [show J = R from hR]; exact kk) ⟨rfl, rfl, rfl, trivial⟩
        | exact g_fgt (lo2 := [some (.ref (43 + 5 * p)), some (.int (w)), some (.int (nI kv)), none]) (by rw [show tkW p 38 J = R by rw [← hR, anR_s, if_neg hc2]]; exact kk) ⟨rfl, rfl, rfl, trivial⟩
      · refine g_aload_0 hX (dk DX3_readEither 23 rfl) ?_
        refine g_iload_1 hX (dk DX3_readEither 24 rfl) ?_
        refine g_c2V hX sX3_readEither_45 (by omega) (Nat.le_of_ble_eq_true rfl) (rc0 rfl (PL0 hH hp) (PSh hH hp)) (by decide) (by decide) (hWc I0 _ (by exact hJ.tk)) ?_
        refine g_aload_0 hX (dk DX3_readEither 26 rfl) ?_
        refine g_bipush (v := 38) hX (dk DX3_readEither 27 rfl) (by decide) ?_
        refine g_c2V hX sX3_readEither_51 (by omega) (Nat.le_of_ble_eq_true rfl) (rc0 rfl (PL0 hH hp) (PSh hH hp)) (by decide) (by decide) (c_X3_keep hG hH hp (I0 := I0) (by exact (hWk _ _ hJ.tk))) ?_
        refine g_iinc_3 hX (dk DX3_readEither 29 rfl) (nI_1 j) (by decide) rfl ?_
        refine g_goto (tgt := 28) hX (dk DX3_readEither 30 rfl) (by decide) ?_
        exact g_fgt (ih f (by omega) (j + 1) _ (by omega) (KP.kp (hWk _ _ hJ.tk)) (by rw [← hR, anR_s, if_pos (by assumption)])) ⟨rfl, rfl, rfl, rfl, trivial⟩
  have loop2 : ∀ (f k : Nat) (J : It), k + f = 100 → KP p I0 J → eiR p W f k J = eiF p W I → GG G (dd + 1) 0 0 X (rV (eiF p W I) h) 2 [some (.ref (43 + 5 * p)), some (.int w), some (.int (nI k)), none] [] (J) (h) 0 0 := by
    intro f
    induction f using Nat.strongRecOn with | _ f ih => ?_
    intro k J hk hJ hR
    refine g_iload_2 hX (dk DX3_readEither 2 rfl) ?_
    refine g_bipush (v := 100) hX (dk DX3_readEither 3 rfl) (by decide) ?_
    refine g_icmp_ge (tgt := 76) hX (dk DX3_readEither 4 rfl) (by decide) (fun hc1 => ?_) (fun hc1 => ?_)
    · refine g_return hX (dk DX3_readEither 38 rfl) rfl (by decide) (by decide) ?_
      first
      | exact rV_of (by rw [← hR, ei_c (k := k) (by assumption) (by assumption)]) rfl
      | (have hk0 := ct_end (e := 100) hk (by decide) hc1; subst hk0; exact rV_of hR rfl)
    · obtain ⟨f, rfl⟩ := ct_go (e := 100) hk (by decide) hc1
      refine g_iload_2 hX (dk DX3_readEither 5 rfl) ?_
      refine g_if_eq (tgt := 21) hX (dk DX3_readEither 6 rfl) (by decide) (fun hc2 => ?_) (fun hc2 => ?_)
      · refine g_aload_0 hX (dk DX3_readEither 11 rfl) ?_
        refine g_iload_1 hX (dk DX3_readEither 12 rfl) ?_
        refine g_c2V hX sX3_readEither_23 (by omega) (Nat.le_of_ble_eq_true rfl) (rc0 rfl (PL0 hH hp) (PSh hH hp)) (by decide) (by decide) (hWc I0 _ (by first | exact hJ | exact hJ.tk)) ?_
        refine g_iconst (v := 0) hX (dk DX3_readEither 14 rfl) (by decide) ?_
        refine g_istore_3 hX (dk DX3_readEither 15 rfl) (by decide) rfl ?_
        refine loop28 k _ ?_ 100 0 _ (by decide) (hWk _ _ (by first | exact hJ | exact hJ.tk)) rfl
        · skip
          refine g_iload_2 hX (dk DX3_readEither 31 rfl) ?_
          refine g_if_le (tgt := 70) hX (dk DX3_readEither 32 rfl) (by decide) (fun hc101 => ?_) (fun hc101 => ?_)
          · refine g_iinc_2 hX (dk DX3_readEither 36 rfl) (nI_1 k) (by decide) rfl ?_
            refine g_goto (tgt := 2) hX (dk DX3_readEither 37 rfl) (by decide) ?_
            first
            | exact (nz_le (k := k) (by omega) (by assumption) (by assumption)).elim
            | exact (z_nle (k := k) (by assumption) (by assumption)).elim
            | exact g_fgt (ih f (by omega) (k + 1) _ (by omega) (KP.an hWk 100 (hWk _ _ hJ)) (by rw [← hR, ei_a (k := k) (by assumption) (by omega)])) ⟨rfl, rfl, rfl, trivial⟩
            | exact g_fgt (ih f (by omega) (k + 1) _ (by omega) (KP.kp (KP.an hWk 100 (hWk _ _ hJ.tk))) (by rw [← hR, ei_b (k := k) (by assumption) (by assumption)])) ⟨rfl, rfl, rfl, trivial⟩
          · refine g_aload_0 hX (dk DX3_readEither 33 rfl) ?_
            refine g_bipush (v := 124) hX (dk DX3_readEither 34 rfl) (by decide) ?_
            refine g_c2V hX sX3_readEither_67 (by omega) (Nat.le_of_ble_eq_true rfl) (rc0 rfl (PL0 hH hp) (PSh hH hp)) (by decide) (by decide) (c_X3_keep hG hH hp (I0 := I0) (by exact (KP.an hWk 100 (hWk _ _ (by first | exact hJ | exact hJ.tk))))) ?_
            refine g_iinc_2 hX (dk DX3_readEither 36 rfl) (nI_1 k) (by decide) rfl ?_
            refine g_goto (tgt := 2) hX (dk DX3_readEither 37 rfl) (by decide) ?_
            first
            | exact (nz_le (k := k) (by omega) (by assumption) (by assumption)).elim
            | exact (z_nle (k := k) (by assumption) (by assumption)).elim
            | exact g_fgt (ih f (by omega) (k + 1) _ (by omega) (KP.an hWk 100 (hWk _ _ hJ)) (by rw [← hR, ei_a (k := k) (by assumption) (by omega)])) ⟨rfl, rfl, rfl, trivial⟩
            | exact g_fgt (ih f (by omega) (k + 1) _ (by omega) (KP.kp (KP.an hWk 100 (hWk _ _ hJ.tk))) (by rw [← hR, ei_b (k := k) (by assumption) (by assumption)])) ⟨rfl, rfl, rfl, trivial⟩
      · refine g_aload_0 hX (dk DX3_readEither 7 rfl) ?_
        refine g_bipush (v := 124) hX (dk DX3_readEither 8 rfl) (by decide) ?_
        refine g_c2I hX sX3_readEither_15 (by omega) (Nat.le_of_ble_eq_true rfl) (rc0 rfl (PL0 hH hp) (PSh hH hp)) (by decide) (by decide) (c_X3_takes hG hH hp) ?_
        refine g_ifb_eq (tgt := 76) hX (dk DX3_readEither 10 rfl) (by decide) (fun hc3 => ?_) (fun hc3 => ?_)
        · refine g_return hX (dk DX3_readEither 38 rfl) rfl (by decide) (by decide) ?_
          first
          | exact rV_of (by rw [← hR, ei_c (k := k) (by assumption) (by assumption)]) rfl
          | (have hk0 := ct_end (e := 100) hk (by decide) hc1; subst hk0; exact rV_of hR rfl)
        · refine g_aload_0 hX (dk DX3_readEither 11 rfl) ?_
          refine g_iload_1 hX (dk DX3_readEither 12 rfl) ?_
          refine g_c2V hX sX3_readEither_23 (by omega) (Nat.le_of_ble_eq_true rfl) (rc0 rfl (PL0 hH hp) (PSh hH hp)) (by decide) (by decide) (hWc I0 _ (by first | exact hJ | exact hJ.tk)) ?_
          refine g_iconst (v := 0) hX (dk DX3_readEither 14 rfl) (by decide) ?_
          refine g_istore_3 hX (dk DX3_readEither 15 rfl) (by decide) rfl ?_
          refine loop28 k _ ?_ 100 0 _ (by decide) (hWk _ _ (by first | exact hJ | exact hJ.tk)) rfl
          · skip
            refine g_iload_2 hX (dk DX3_readEither 31 rfl) ?_
            refine g_if_le (tgt := 70) hX (dk DX3_readEither 32 rfl) (by decide) (fun hc101 => ?_) (fun hc101 => ?_)
            · refine g_iinc_2 hX (dk DX3_readEither 36 rfl) (nI_1 k) (by decide) rfl ?_
              refine g_goto (tgt := 2) hX (dk DX3_readEither 37 rfl) (by decide) ?_
              first
              | exact (nz_le (k := k) (by omega) (by assumption) (by assumption)).elim
              | exact (z_nle (k := k) (by assumption) (by assumption)).elim
              | exact g_fgt (ih f (by omega) (k + 1) _ (by omega) (KP.an hWk 100 (hWk _ _ hJ)) (by rw [← hR, ei_a (k := k) (by assumption) (by omega)])) ⟨rfl, rfl, rfl, trivial⟩
              | exact g_fgt (ih f (by omega) (k + 1) _ (by omega) (KP.kp (KP.an hWk 100 (hWk _ _ hJ.tk))) (by rw [← hR, ei_b (k := k) (by assumption) (by assumption)])) ⟨rfl, rfl, rfl, trivial⟩
            · refine g_aload_0 hX (dk DX3_readEither 33 rfl) ?_
              refine g_bipush (v := 124) hX (dk DX3_readEither 34 rfl) (by decide) ?_
              refine g_c2V hX sX3_readEither_67 (by omega) (Nat.le_of_ble_eq_true rfl) (rc0 rfl (PL0 hH hp) (PSh hH hp)) (by decide) (by decide) (c_X3_keep hG hH hp (I0 := I0) (by exact (KP.an hWk 100 (hWk _ _ (by first | exact hJ | exact hJ.tk))))) ?_
              refine g_iinc_2 hX (dk DX3_readEither 36 rfl) (nI_1 k) (by decide) rfl ?_
              refine g_goto (tgt := 2) hX (dk DX3_readEither 37 rfl) (by decide) ?_
              first
              | exact (nz_le (k := k) (by omega) (by assumption) (by assumption)).elim
              | exact (z_nle (k := k) (by assumption) (by assumption)).elim
              | exact g_fgt (ih f (by omega) (k + 1) _ (by omega) (KP.an hWk 100 (hWk _ _ hJ)) (by rw [← hR, ei_a (k := k) (by assumption) (by omega)])) ⟨rfl, rfl, rfl, trivial⟩
              | exact g_fgt (ih f (by omega) (k + 1) _ (by omega) (KP.kp (KP.an hWk 100 (hWk _ _ hJ.tk))) (by rw [← hR, ei_b (k := k) (by assumption) (by assumption)])) ⟨rfl, rfl, rfl, trivial⟩
  refine g_iconst (v := 0) hX (dk DX3_readEither 0 rfl) (by decide) ?_
  refine g_istore_2 hX (dk DX3_readEither 1 rfl) (by decide) rfl ?_
  exact g_fgt (loop2 100 0 I (by decide) hK rfl) ⟨rfl, rfl, rfl, trivial⟩
end
section
set_option maxRecDepth 8000 in
set_option maxHeartbeats 4000000 in
theorem c_X3_part4 {G : Gt} (hG : Gok G) {I : It} {h : Ht}  (hH : HX h) {p : Nat} (hp : p < 6) {I0 : It} (hK : KP p I0 I) : Con G (4) 0 0 mX3_readPart [.ref (43 + 5 * p), .int 4] I h (rV (tsW p I) h) := by
  refine con_intro (own := RX3) (lo0 := [some (.ref (43 + 5 * p)), some (.int 4)]) hG rfl pl_X3 (Nat.le_of_ble_eq_true rfl) rfl (fun X hX => ?_)
  refine g_iload_1 hX (dk DX3_readPart 0 rfl) ?_
  refine g_iconst (v := 4) hX (dk DX3_readPart 1 rfl) (by decide) ?_
  refine g_icmp_ge (tgt := 30) hX (dk DX3_readPart 2 rfl) (by decide) (fun hc1 => ?_) (fun hc1 => absurd (by decide) hc1)
  refine g_iload_1 hX (dk DX3_readPart 16 rfl) ?_
  refine g_iconst (v := 4) hX (dk DX3_readPart 17 rfl) (by decide) ?_
  refine g_icmp_ge (tgt := 60) hX (dk DX3_readPart 18 rfl) (by decide) (fun hc2 => ?_) (fun hc2 => absurd (by decide) hc2)
  refine g_aload_0 hX (dk DX3_readPart 32 rfl) ?_
  refine g_c1V hX sX3_readPart_61 (by decide) (Nat.le_of_ble_eq_true rfl) (rc0 rfl (PL0 hH hp) (PSh hH hp)) (by decide) (by decide) (c_X3_readTest hG hH hp hK) ?_
  refine g_return hX (dk DX3_readPart 34 rfl) rfl (by decide) (by decide) ?_
  exact rV_of rfl rfl

set_option maxRecDepth 8000 in
set_option maxHeartbeats 4000000 in
theorem c_X3_partN {G : Gt} (hG : Gok G) {I : It} {h : Ht}  (hH : HX h) {p : Nat} (hp : p < 6) {w n dd : Nat} (hw : w + (n + 1) = 4) (h2 : 3 ≤ dd) (hPc : ∀ I0 J, KP p I0 J → Con G dd 0 0 mX3_readPart [.ref (43 + 5 * p), .int (nI (w + 1))] J h (rV (paF p n J) h)) (hEc : ∀ I0 J, KP p I0 J → Con G (dd + 1) 0 0 mX3_readEither [.ref (43 + 5 * p), .int (nI (w + 1))] J h (rV (eiF p (paF p n) J) h)) {I0 : It} (hK : KP p I0 I) : Con G (dd + 2) 0 0 mX3_readPart [.ref (43 + 5 * p), .int (nI w)] I h (rV (paF p (n + 1) I) h) := by
  refine con_intro (own := RX3) (lo0 := [some (.ref (43 + 5 * p)), some (.int (nI w))]) hG rfl pl_X3 (Nat.le_of_ble_eq_true rfl) rfl (fun X hX => ?_)
  refine g_iload_1 hX (dk DX3_readPart 0 rfl) ?_
  refine g_iconst (v := 4) hX (dk DX3_readPart 1 rfl) (by decide) ?_
  refine g_icmp_ge (tgt := 30) hX (dk DX3_readPart 2 rfl) (by decide) (fun hc1 => absurd (nI_lt (a := w) (b := 4) (by omega) (by decide)) (Int32.not_lt.mpr hc1)) (fun hc1 => ?_)
  refine g_aload_0 hX (dk DX3_readPart 3 rfl) ?_
  refine g_bipush (v := 33) hX (dk DX3_readPart 4 rfl) (by decide) ?_
  refine g_c2I hX sX3_readPart_8 (by omega) (Nat.le_of_ble_eq_true rfl) (rc0 rfl (PL0 hH hp) (PSh hH hp)) (by decide) (by decide) (c_X3_takes hG hH hp) ?_
  refine g_ifb_eq (tgt := 30) hX (dk DX3_readPart 6 rfl) (by decide) (fun hc2 => ?_) (fun hc2 => ?_)
  · refine g_iload_1 hX (dk DX3_readPart 16 rfl) ?_
    refine g_iconst (v := 4) hX (dk DX3_readPart 17 rfl) (by decide) ?_
    refine g_icmp_ge (tgt := 60) hX (dk DX3_readPart 18 rfl) (by decide) (fun hc3 => absurd (nI_lt (a := w) (b := 4) (by omega) (by decide)) (Int32.not_lt.mpr hc3)) (fun hc3 => ?_)
    refine g_aload_0 hX (dk DX3_readPart 19 rfl) ?_
    refine g_bipush (v := 40) hX (dk DX3_readPart 20 rfl) (by decide) ?_
    refine g_c2I hX sX3_readPart_38 (by omega) (Nat.le_of_ble_eq_true rfl) (rc0 rfl (PL0 hH hp) (PSh hH hp)) (by decide) (by decide) (c_X3_takes hG hH hp) ?_
    refine g_ifb_eq (tgt := 60) hX (dk DX3_readPart 22 rfl) (by decide) (fun hc4 => ?_) (fun hc4 => ?_)
    · refine g_aload_0 hX (dk DX3_readPart 32 rfl) ?_
      refine g_c1V hX sX3_readPart_61 (by omega) (Nat.le_of_ble_eq_true rfl) (rc0 rfl (PL0 hH hp) (PSh hH hp)) (by decide) (by decide) (c_X3_readTest hG hH hp (I0 := I0) (by exact hK.tk.tk)) ?_
      refine g_return hX (dk DX3_readPart 34 rfl) rfl (by decide) (by decide) ?_
      exact rV_of (by rw [paF_s]; (try first | rw [if_pos hc1] | rw [if_neg hc1] | rw [if_neg (not_not_intro hc1)]); (try first | rw [if_pos hc2] | rw [if_neg hc2] | rw [if_neg (not_not_intro hc2)]); (try first | rw [if_pos hc3] | rw [if_neg hc3] | rw [if_neg (not_not_intro hc3)]); (try first | rw [if_pos hc4] | rw [if_neg hc4] | rw [if_neg (not_not_intro hc4)]); first | done | rfl) rfl
    · refine g_aload_0 hX (dk DX3_readPart 23 rfl) ?_
      refine g_iload_1 hX (dk DX3_readPart 24 rfl) ?_
      refine g_iconst (v := 1) hX (dk DX3_readPart 25 rfl) (by decide) ?_
      refine g_iadd hX (dk DX3_readPart 26 rfl) ?_
      refine g_nmI (nI (w + 1)) (nI_1 w) ?_
      refine g_c2V hX sX3_readPart_48 (by omega) (Nat.le_of_ble_eq_true rfl) (rc0 rfl (PL0 hH hp) (PSh hH hp)) (by decide) (by decide) (hEc I0 _ (by exact hK.tk.tk)) ?_
      refine g_aload_0 hX (dk DX3_readPart 28 rfl) ?_
      refine g_bipush (v := 41) hX (dk DX3_readPart 29 rfl) (by decide) ?_
      refine g_c2V hX sX3_readPart_54 (by omega) (Nat.le_of_ble_eq_true rfl) (rc0 rfl (PL0 hH hp) (PSh hH hp)) (by decide) (by decide) (c_X3_needs hG hH hp) ?_
      refine g_goto (tgt := 64) hX (dk DX3_readPart 31 rfl) (by decide) ?_
      refine g_return hX (dk DX3_readPart 34 rfl) rfl (by decide) (by decide) ?_
      exact rV_of (by rw [paF_s]; (try first | rw [if_pos hc1] | rw [if_neg hc1] | rw [if_neg (not_not_intro hc1)]); (try first | rw [if_pos hc2] | rw [if_neg hc2] | rw [if_neg (not_not_intro hc2)]); (try first | rw [if_pos hc3] | rw [if_neg hc3] | rw [if_neg (not_not_intro hc3)]); (try first | rw [if_pos hc4] | rw [if_neg hc4] | rw [if_neg (not_not_intro hc4)]); first | done | rfl) rfl
  · refine g_aload_0 hX (dk DX3_readPart 7 rfl) ?_
    refine g_iload_1 hX (dk DX3_readPart 8 rfl) ?_
    refine g_iconst (v := 1) hX (dk DX3_readPart 9 rfl) (by decide) ?_
    refine g_iadd hX (dk DX3_readPart 10 rfl) ?_
    refine g_nmI (nI (w + 1)) (nI_1 w) ?_
    refine g_c2V hX sX3_readPart_18 (by omega) (Nat.le_of_ble_eq_true rfl) (rc0 rfl (PL0 hH hp) (PSh hH hp)) (by decide) (by decide) (hPc I0 _ (by exact hK.tk)) ?_
    refine g_aload_0 hX (dk DX3_readPart 12 rfl) ?_
    refine g_bipush (v := 33) hX (dk DX3_readPart 13 rfl) (by decide) ?_
    refine g_c2V hX sX3_readPart_24 (by omega) (Nat.le_of_ble_eq_true rfl) (rc0 rfl (PL0 hH hp) (PSh hH hp)) (by decide) (by decide) (c_X3_keep hG hH hp (I0 := I0) (by exact (KP.pa n hK.tk))) ?_
    refine g_goto (tgt := 64) hX (dk DX3_readPart 15 rfl) (by decide) ?_
    refine g_return hX (dk DX3_readPart 34 rfl) rfl (by decide) (by decide) ?_
    exact rV_of (by rw [paF_s]; (try first | rw [if_pos hc1] | rw [if_neg hc1] | rw [if_neg (not_not_intro hc1)]); (try first | rw [if_pos hc2] | rw [if_neg hc2] | rw [if_neg (not_not_intro hc2)]); first | done | rfl) rfl

theorem c_X3_part {G : Gt} (hG : Gok G) {h : Ht} (hH : HX h) {p : Nat} (hp : p < 6) (n : Nat) : ∀ w, w + n = 4 → ∀ I0 J, KP p I0 J → Con G (4 + 2 * n) 0 0 mX3_readPart [.ref (43 + 5 * p), .int (nI w)] J h (rV (paF p n J) h) := by
  induction n with
  | zero =>
    intro w hw I0 J hK
    have : w = 4 := by omega
    subst this
    exact c_X3_part4 hG hH hp hK
  | succ n ih =>
    intro w hw I0 J hK
    exact c_X3_partN hG hH hp hw (dd := 4 + 2 * n) (by omega) (ih (w + 1) (by omega)) (fun I0 J hK => c_X3_readEither hG hH hp (by omega) (fun _ _ h => h.pa n) (ih (w + 1) (by omega)) hK) hK
theorem c_X3_ei0 {G : Gt} (hG : Gok G) {h : Ht} (hH : HX h) {p : Nat} (hp : p < 6) {I0 J : It} (hK : KP p I0 J) : Con G 13 0 0 mX3_readEither [.ref (43 + 5 * p), .int 0] J h (rV (eiF p (paF p 4) J) h) :=
  c_X3_readEither hG hH hp (dd := 12) (by decide) (fun _ _ h => h.pa 4) (c_X3_part hG hH hp 4 0 rfl) hK
end
section
set_option maxRecDepth 8000 in
set_option maxHeartbeats 4000000 in
theorem c_X3_readWord {G : Gt} (hG : Gok G) {I : It} {h : Ht}  (hH : HX h) {p : Nat} (hp : p < 6)  : Con G (3) 0 0 mX3_readWord [.ref (43 + 5 * p)] I h (rI (wdV p I) (wdW p I) h) := by
  refine con_intro (own := RX3) (lo0 := [some (.ref (43 + 5 * p))]) hG rfl pl_X3 (Nat.le_of_ble_eq_true rfl) rfl (fun X hX => ?_)
  refine g_aload_0 hX (dk DX3_readWord 0 rfl) ?_
  refine g_bipush (v := 115) hX (dk DX3_readWord 1 rfl) (by decide) ?_
  refine g_c2I hX sX3_readWord_3 (by decide) (Nat.le_of_ble_eq_true rfl) (rc0 rfl (PL0 hH hp) (PSh hH hp)) (by decide) (by decide) (c_X3_takes hG hH hp) ?_
  refine g_ifb_eq (tgt := 24) hX (dk DX3_readWord 3 rfl) (by decide) (fun hc1 => ?_) (fun hc1 => ?_)
  · refine g_aload_0 hX (dk DX3_readWord 12 rfl) ?_
    refine g_bipush (v := 102) hX (dk DX3_readWord 13 rfl) (by decide) ?_
    refine g_c2I hX sX3_readWord_27 (by decide) (Nat.le_of_ble_eq_true rfl) (rc0 rfl (PL0 hH hp) (PSh hH hp)) (by decide) (by decide) (c_X3_takes hG hH hp) ?_
    refine g_ifb_eq (tgt := 54) hX (dk DX3_readWord 15 rfl) (by decide) (fun hc2 => ?_) (fun hc2 => ?_)
    · refine g_aload_0 hX (dk DX3_readWord 27 rfl) ?_
      refine g_bipush (v := 99) hX (dk DX3_readWord 28 rfl) (by decide) ?_
      refine g_c2V hX sX3_readWord_57 (by decide) (Nat.le_of_ble_eq_true rfl) (rc0 rfl (PL0 hH hp) (PSh hH hp)) (by decide) (by decide) (c_X3_needs hG hH hp) ?_
      refine g_aload_0 hX (dk DX3_readWord 30 rfl) ?_
      refine g_bipush (v := 111) hX (dk DX3_readWord 31 rfl) (by decide) ?_
      refine g_c2I hX sX3_readWord_63 (by decide) (Nat.le_of_ble_eq_true rfl) (rc0 rfl (PL0 hH hp) (PSh hH hp)) (by decide) (by decide) (c_X3_takes hG hH hp) ?_
      refine g_ifb_eq (tgt := 84) hX (dk DX3_readWord 33 rfl) (by decide) (fun hc3 => ?_) (fun hc3 => ?_)
      · refine g_aload_0 hX (dk DX3_readWord 42 rfl) ?_
        refine g_bipush (v := 97) hX (dk DX3_readWord 43 rfl) (by decide) ?_
        refine g_c2V hX sX3_readWord_87 (by decide) (Nat.le_of_ble_eq_true rfl) (rc0 rfl (PL0 hH hp) (PSh hH hp)) (by decide) (by decide) (c_X3_needs hG hH hp) ?_
        refine g_aload_0 hX (dk DX3_readWord 45 rfl) ?_
        refine g_bipush (v := 108) hX (dk DX3_readWord 46 rfl) (by decide) ?_
        refine g_c2V hX sX3_readWord_93 (by decide) (Nat.le_of_ble_eq_true rfl) (rc0 rfl (PL0 hH hp) (PSh hH hp)) (by decide) (by decide) (c_X3_needs hG hH hp) ?_
        refine g_aload_0 hX (dk DX3_readWord 48 rfl) ?_
        refine g_bipush (v := 108) hX (dk DX3_readWord 49 rfl) (by decide) ?_
        refine g_c2V hX sX3_readWord_99 (by decide) (Nat.le_of_ble_eq_true rfl) (rc0 rfl (PL0 hH hp) (PSh hH hp)) (by decide) (by decide) (c_X3_needs hG hH hp) ?_
        refine g_bipush (v := 108) hX (dk DX3_readWord 51 rfl) (by decide) ?_
        refine g_ireturn hX (dk DX3_readWord 52 rfl) rfl (rfl) (by decide) (by decide) ?_
        exact rI_of (by unfold wdV wdA; (try first | rw [if_pos hc1] | rw [if_neg hc1] | rw [if_neg (not_not_intro hc1)]); (try first | rw [if_pos hc2] | rw [if_neg hc2] | rw [if_neg (not_not_intro hc2)]); (try first | rw [if_pos hc3] | rw [if_neg hc3] | rw [if_neg (not_not_intro hc3)]); first | done | rfl) (by unfold wdW wdA; (try first | rw [if_pos hc1] | rw [if_neg hc1] | rw [if_neg (not_not_intro hc1)]); (try first | rw [if_pos hc2] | rw [if_neg hc2] | rw [if_neg (not_not_intro hc2)]); (try first | rw [if_pos hc3] | rw [if_neg hc3] | rw [if_neg (not_not_intro hc3)]); first | done | rfl) rfl
      · refine g_aload_0 hX (dk DX3_readWord 34 rfl) ?_
        refine g_bipush (v := 115) hX (dk DX3_readWord 35 rfl) (by decide) ?_
        refine g_c2V hX sX3_readWord_72 (by decide) (Nat.le_of_ble_eq_true rfl) (rc0 rfl (PL0 hH hp) (PSh hH hp)) (by decide) (by decide) (c_X3_needs hG hH hp) ?_
        refine g_aload_0 hX (dk DX3_readWord 37 rfl) ?_
        refine g_bipush (v := 116) hX (dk DX3_readWord 38 rfl) (by decide) ?_
        refine g_c2V hX sX3_readWord_78 (by decide) (Nat.le_of_ble_eq_true rfl) (rc0 rfl (PL0 hH hp) (PSh hH hp)) (by decide) (by decide) (c_X3_needs hG hH hp) ?_
        refine g_bipush (v := 99) hX (dk DX3_readWord 40 rfl) (by decide) ?_
        refine g_ireturn hX (dk DX3_readWord 41 rfl) rfl (rfl) (by decide) (by decide) ?_
        exact rI_of (by unfold wdV wdA; (try first | rw [if_pos hc1] | rw [if_neg hc1] | rw [if_neg (not_not_intro hc1)]); (try first | rw [if_pos hc2] | rw [if_neg hc2] | rw [if_neg (not_not_intro hc2)]); (try first | rw [if_pos hc3] | rw [if_neg hc3] | rw [if_neg (not_not_intro hc3)]); first | done | rfl) (by unfold wdW wdA; (try first | rw [if_pos hc1] | rw [if_neg hc1] | rw [if_neg (not_not_intro hc1)]); (try first | rw [if_pos hc2] | rw [if_neg hc2] | rw [if_neg (not_not_intro hc2)]); (try first | rw [if_pos hc3] | rw [if_neg hc3] | rw [if_neg (not_not_intro hc3)]); first | done | rfl) rfl
    · refine g_aload_0 hX (dk DX3_readWord 16 rfl) ?_
      refine g_bipush (v := 97) hX (dk DX3_readWord 17 rfl) (by decide) ?_
      refine g_c2V hX sX3_readWord_36 (by decide) (Nat.le_of_ble_eq_true rfl) (rc0 rfl (PL0 hH hp) (PSh hH hp)) (by decide) (by decide) (c_X3_needs hG hH hp) ?_
      refine g_aload_0 hX (dk DX3_readWord 19 rfl) ?_
      refine g_bipush (v := 100) hX (dk DX3_readWord 20 rfl) (by decide) ?_
      refine g_c2V hX sX3_readWord_42 (by decide) (Nat.le_of_ble_eq_true rfl) (rc0 rfl (PL0 hH hp) (PSh hH hp)) (by decide) (by decide) (c_X3_needs hG hH hp) ?_
      refine g_aload_0 hX (dk DX3_readWord 22 rfl) ?_
      refine g_bipush (v := 101) hX (dk DX3_readWord 23 rfl) (by decide) ?_
      refine g_c2V hX sX3_readWord_48 (by decide) (Nat.le_of_ble_eq_true rfl) (rc0 rfl (PL0 hH hp) (PSh hH hp)) (by decide) (by decide) (c_X3_needs hG hH hp) ?_
      refine g_bipush (v := 102) hX (dk DX3_readWord 25 rfl) (by decide) ?_
      refine g_ireturn hX (dk DX3_readWord 26 rfl) rfl (rfl) (by decide) (by decide) ?_
      exact rI_of (by unfold wdV wdA; (try first | rw [if_pos hc1] | rw [if_neg hc1] | rw [if_neg (not_not_intro hc1)]); (try first | rw [if_pos hc2] | rw [if_neg hc2] | rw [if_neg (not_not_intro hc2)]); first | done | rfl) (by unfold wdW wdA; (try first | rw [if_pos hc1] | rw [if_neg hc1] | rw [if_neg (not_not_intro hc1)]); (try first | rw [if_pos hc2] | rw [if_neg hc2] | rw [if_neg (not_not_intro hc2)]); first | done | rfl) rfl
  · refine g_aload_0 hX (dk DX3_readWord 4 rfl) ?_
    refine g_bipush (v := 97) hX (dk DX3_readWord 5 rfl) (by decide) ?_
    refine g_c2V hX sX3_readWord_12 (by decide) (Nat.le_of_ble_eq_true rfl) (rc0 rfl (PL0 hH hp) (PSh hH hp)) (by decide) (by decide) (c_X3_needs hG hH hp) ?_
    refine g_aload_0 hX (dk DX3_readWord 7 rfl) ?_
    refine g_bipush (v := 121) hX (dk DX3_readWord 8 rfl) (by decide) ?_
    refine g_c2V hX sX3_readWord_18 (by decide) (Nat.le_of_ble_eq_true rfl) (rc0 rfl (PL0 hH hp) (PSh hH hp)) (by decide) (by decide) (c_X3_needs hG hH hp) ?_
    refine g_bipush (v := 115) hX (dk DX3_readWord 10 rfl) (by decide) ?_
    refine g_ireturn hX (dk DX3_readWord 11 rfl) rfl (rfl) (by decide) (by decide) ?_
    exact rI_of (by unfold wdV wdA; (try first | rw [if_pos hc1] | rw [if_neg hc1] | rw [if_neg (not_not_intro hc1)]); first | done | rfl) (by unfold wdW wdA; (try first | rw [if_pos hc1] | rw [if_neg hc1] | rw [if_neg (not_not_intro hc1)]); first | done | rfl) rfl

set_option maxRecDepth 8000 in
set_option maxHeartbeats 4000000 in
theorem c_X3_readClause {G : Gt} (hG : Gok G) {I : It} {h : Ht}  (hH : HX h) {p : Nat} (hp : p < 6) {I0 : It} (hK : KP p I0 I) : Con G (14) 0 0 mX3_readClause [.ref (43 + 5 * p)] I h (rV (rcW p I) h) := by
  refine con_intro (own := RX3) (lo0 := [some (.ref (43 + 5 * p)), none, none]) hG rfl pl_X3 (Nat.le_of_ble_eq_true rfl) rfl (fun X hX => ?_)
  have loop61 : ∀ (J : It), J = rc2 p I → GG G (14) 0 0 X (rV (rcW p I) h) 61 [some (.ref (43 + 5 * p)), some (.int (wdV p I)), some (.int (rcN_ p I))] [] (J) (h) 0 0 := by
    rintro _ rfl
    have hK2 := hK.rcB
    refine g_aload_0 hX (dk DX3_readClause_0 32 rfl) ?_
    refine g_getI hX (dk DX3_readClause_0 33 rfl) KX3 fX3_41 (by decide) rfl (PL0 hH hp) (PSh hH hp) ?_
    refine g_if_ne (tgt := 120) hX (dk DX3_readClause_0 34 rfl) (by decide) (fun hc1 => ?_) (fun hc1 => ?_)
    · refine g_return hX (dk DX3_readClause_1 4 rfl) rfl (by decide) (by decide) ?_
      exact rV_of (by unfold rcW clW; (try first | rw [if_pos hc1] | rw [if_neg hc1] | rw [if_neg (not_not_intro hc1)]); first | done | rfl) rfl
    · refine g_aload_0 hX (dk DX3_readClause_0 35 rfl) ?_
      refine g_getI hX (dk DX3_readClause_0 36 rfl) KX3 fX3_45 (by decide) rfl (PL0 hH hp) (PSh hH hp) ?_
      refine g_bipush (v := 10) hX (dk DX3_readClause_0 37 rfl) (by decide) ?_
      refine g_icmp_ge (tgt := 120) hX (dk DX3_readClause_0 38 rfl) (by decide) (fun hc2 => ?_) (fun hc2 => ?_)
      · refine g_return hX (dk DX3_readClause_1 4 rfl) rfl (by decide) (by decide) ?_
        exact rV_of (by unfold rcW clW; (try first | rw [if_pos hc1] | rw [if_neg hc1] | rw [if_neg (not_not_intro hc1)]); (try first | rw [if_pos hc2] | rw [if_neg hc2] | rw [if_neg (not_not_intro hc2)]); first | done | rfl) rfl
      · refine g_aload_0 hX (dk DX3_readClause_0 39 rfl) ?_
        refine g_getRs (r := (44 + 5 * p)) hX (dk DX3_readClause_0 40 rfl) KX3 fX3_11 (by decide) rfl (PL0 hH hp) (PSh hH hp) (PR3 hH hp) ?_
        refine g_aload_0 hX (dk DX3_readClause_0 41 rfl) ?_
        refine g_getI hX (dk DX3_readClause_0 42 rfl) KX3 fX3_45 (by decide) rfl (PL0 hH hp) (PSh hH hp) ?_
        refine g_iload_1 hX (dk DX3_readClause_0 43 rfl) ?_
        refine i_iastore hX (dk DX3_readClause_0 44 rfl) (PLt hH (j := 1) hp (by decide)) (PA4 hH hp) (kp_ix (b := 10) (by decide) hK2.2.2.1 (by assumption)) ?_
        refine g_aload_0 hX (dk DX3_readClause_0 45 rfl) ?_
        refine g_getRs (r := (45 + 5 * p)) hX (dk DX3_readClause_0 46 rfl) KX3 fX3_15 (by decide) rfl (PL0 hH hp) (PSh hH hp) (PR4 hH hp) ?_
        refine g_aload_0 hX (dk DX3_readClause_0 47 rfl) ?_
        refine g_getIv hX (dk DX3_readClause_0 48 rfl) KX3 fX3_45 (by decide) rfl (PL0 hH hp) (PSh hH hp) (congrFun (cl_P p (wdV p I) (rcN_ p I) (rc2 p I)).1 2) ?_
        refine g_iload_2 hX (dk DX3_readClause_0 49 rfl) ?_
        refine i_iastore hX (dk DX3_readClause_0 50 rfl) (PLt hH (j := 2) hp (by decide)) (PA5 hH hp) (kp_ix (b := 10) (by decide) hK2.2.2.1 (by assumption)) ?_
        refine g_aload_0 hX (dk DX3_readClause_0 51 rfl) ?_
        refine g_getRs (r := (46 + 5 * p)) hX (dk DX3_readClause_0 52 rfl) KX3 fX3_18 (by decide) rfl (PL0 hH hp) (PSh hH hp) (PR5 hH hp) ?_
        refine g_aload_0 hX (dk DX3_readClause_0 53 rfl) ?_
        refine g_getIv hX (dk DX3_readClause_0 54 rfl) KX3 fX3_45 (by decide) rfl (PL0 hH hp) (PSh hH hp) (congrFun (cl_P p (wdV p I) (rcN_ p I) (rc2 p I)).2.1 2) ?_
        refine g_aload_0 hX (dk DX3_readClause_0 55 rfl) ?_
        refine g_getI hX (dk DX3_readClause_0 56 rfl) KX3 fX3_48 (by decide) rfl (PL0 hH hp) (PSh hH hp) ?_
        refine i_iastore hX (dk DX3_readClause_0 57 rfl) (PLt hH (j := 3) hp (by decide)) (PA6 hH hp) (kp_ix (b := 10) (by decide) hK2.2.2.1 (by assumption)) ?_
        refine g_aload_0 hX (dk DX3_readClause_0 58 rfl) ?_
        refine g_dup hX (dk DX3_readClause_0 59 rfl) rfl ?_
        refine g_getI hX (dk DX3_readClause_1 0 rfl) KX3 fX3_45 (by decide) rfl (PL0 hH hp) (PSh hH hp) ?_
        refine g_iconst (v := 1) hX (dk DX3_readClause_1 1 rfl) (by decide) ?_
        refine g_iadd hX (dk DX3_readClause_1 2 rfl) ?_
        refine g_putI hX (dk DX3_readClause_1 3 rfl) KX3 fX3_45 (by decide) rfl (PL0 hH hp) (PSh hH hp) (Or.inl rfl) (rfl) (rfl) ?_
        refine g_return hX (dk DX3_readClause_1 4 rfl) rfl (by decide) (by decide) ?_
        exact rV_of (by unfold rcW clW; (try first | rw [if_pos hc1] | rw [if_neg hc1] | rw [if_neg (not_not_intro hc1)]); (try first | rw [if_pos hc2] | rw [if_neg hc2] | rw [if_neg (not_not_intro hc2)]); first | done | rfl) rfl
  refine g_aload_0 hX (dk DX3_readClause_0 0 rfl) ?_
  refine g_c1I hX sX3_readClause_1 (by decide) (Nat.le_of_ble_eq_true rfl) (rc0 rfl (PL0 hH hp) (PSh hH hp)) (by decide) (by decide) (c_X3_readWord hG hH hp) ?_
  refine g_istore_1 hX (dk DX3_readClause_0 2 rfl) (by decide) rfl ?_
  refine g_aload_0 hX (dk DX3_readClause_0 3 rfl) ?_
  refine g_bipush (v := 32) hX (dk DX3_readClause_0 4 rfl) (by decide) ?_
  refine g_c2V hX sX3_readClause_8 (by decide) (Nat.le_of_ble_eq_true rfl) (rc0 rfl (PL0 hH hp) (PSh hH hp)) (by decide) (by decide) (c_X3_needs hG hH hp) ?_
  refine g_aload_0 hX (dk DX3_readClause_0 6 rfl) ?_
  refine g_c1I hX sX3_readClause_12 (by decide) (Nat.le_of_ble_eq_true rfl) (rc0 rfl (PL0 hH hp) (PSh hH hp)) (by decide) (by decide) (c_X3_readNumber hG hH hp) ?_
  refine g_istore_2 hX (dk DX3_readClause_0 8 rfl) (by decide) rfl ?_
  refine g_iload_1 hX (dk DX3_readClause_0 9 rfl) ?_
  refine g_bipush (v := 115) hX (dk DX3_readClause_0 10 rfl) (by decide) ?_
  refine g_icmp_eq (tgt := 28) hX (dk DX3_readClause_0 11 rfl) (by decide) (fun hc1 => ?_) (fun hc1 => ?_)
  · refine g_aload_0 hX (dk DX3_readClause_0 15 rfl) ?_
    refine g_bipush (v := 32) hX (dk DX3_readClause_0 16 rfl) (by decide) ?_
    refine g_c2V hX sX3_readClause_31 (by decide) (Nat.le_of_ble_eq_true rfl) (rc0 rfl (PL0 hH hp) (PSh hH hp)) (by decide) (by decide) (c_X3_needs hG hH hp) ?_
    refine g_aload_0 hX (dk DX3_readClause_0 18 rfl) ?_
    refine g_iconst (v := 0) hX (dk DX3_readClause_0 19 rfl) (by decide) ?_
    refine g_c2V hX sX3_readClause_36 (by decide) (Nat.le_of_ble_eq_true rfl) (rc0 rfl (PL0 hH hp) (PSh hH hp)) (by decide) (by decide) (c_X3_ei0 hG hH hp (I0 := I0) (by exact hK.rcA.nd)) ?_
    refine g_goto (tgt := 61) hX (dk DX3_readClause_0 21 rfl) (by decide) ?_
    exact g_fgt (loop61 _ (by unfold rc2; first | (rw [if_pos (Or.inl (by assumption))]; rfl) | (rw [if_pos (Or.inr (by assumption))]; rfl) | (rw [if_neg (fun z => z.elim (by assumption) (by assumption)), if_pos (by assumption)]; rfl) | (rw [if_neg (fun z => z.elim (by assumption) (by assumption)), if_neg (by assumption)]; rfl))) ⟨rfl, rfl, rfl, trivial⟩
  · refine g_iload_1 hX (dk DX3_readClause_0 12 rfl) ?_
    refine g_bipush (v := 99) hX (dk DX3_readClause_0 13 rfl) (by decide) ?_
    refine g_icmp_ne (tgt := 42) hX (dk DX3_readClause_0 14 rfl) (by decide) (fun hc2 => ?_) (fun hc2 => ?_)
    · refine g_iload_1 hX (dk DX3_readClause_0 22 rfl) ?_
      refine g_bipush (v := 108) hX (dk DX3_readClause_0 23 rfl) (by decide) ?_
      refine g_icmp_ne (tgt := 56) hX (dk DX3_readClause_0 24 rfl) (by decide) (fun hc3 => ?_) (fun hc3 => ?_)
      · refine g_aload_0 hX (dk DX3_readClause_0 29 rfl) ?_
        refine g_iload_2 hX (dk DX3_readClause_0 30 rfl) ?_
        refine g_putI hX (dk DX3_readClause_0 31 rfl) KX3 fX3_54 (by decide) rfl (PL0 hH hp) (PSh hH hp) (Or.inl rfl) (rfl) (rfl) ?_
        exact g_fgt (loop61 _ (by unfold rc2; first | (rw [if_pos (Or.inl (by assumption))]; rfl) | (rw [if_pos (Or.inr (by assumption))]; rfl) | (rw [if_neg (fun z => z.elim (by assumption) (by assumption)), if_pos (by assumption)]; rfl) | (rw [if_neg (fun z => z.elim (by assumption) (by assumption)), if_neg (by assumption)]; rfl))) ⟨rfl, rfl, rfl, trivial⟩
      · refine g_aload_0 hX (dk DX3_readClause_0 25 rfl) ?_
        refine g_iload_2 hX (dk DX3_readClause_0 26 rfl) ?_
        refine g_putI hX (dk DX3_readClause_0 27 rfl) KX3 fX3_51 (by decide) rfl (PL0 hH hp) (PSh hH hp) (Or.inl rfl) (rfl) (rfl) ?_
        refine g_goto (tgt := 61) hX (dk DX3_readClause_0 28 rfl) (by decide) ?_
        exact g_fgt (loop61 _ (by unfold rc2; first | (rw [if_pos (Or.inl (by assumption))]; rfl) | (rw [if_pos (Or.inr (by assumption))]; rfl) | (rw [if_neg (fun z => z.elim (by assumption) (by assumption)), if_pos (by assumption)]; rfl) | (rw [if_neg (fun z => z.elim (by assumption) (by assumption)), if_neg (by assumption)]; rfl))) ⟨rfl, rfl, rfl, trivial⟩
    · refine g_aload_0 hX (dk DX3_readClause_0 15 rfl) ?_
      refine g_bipush (v := 32) hX (dk DX3_readClause_0 16 rfl) (by decide) ?_
      refine g_c2V hX sX3_readClause_31 (by decide) (Nat.le_of_ble_eq_true rfl) (rc0 rfl (PL0 hH hp) (PSh hH hp)) (by decide) (by decide) (c_X3_needs hG hH hp) ?_
      refine g_aload_0 hX (dk DX3_readClause_0 18 rfl) ?_
      refine g_iconst (v := 0) hX (dk DX3_readClause_0 19 rfl) (by decide) ?_
      refine g_c2V hX sX3_readClause_36 (by decide) (Nat.le_of_ble_eq_true rfl) (rc0 rfl (PL0 hH hp) (PSh hH hp)) (by decide) (by decide) (c_X3_ei0 hG hH hp (I0 := I0) (by exact hK.rcA.nd)) ?_
      refine g_goto (tgt := 61) hX (dk DX3_readClause_0 21 rfl) (by decide) ?_
      exact g_fgt (loop61 _ (by unfold rc2; first | (rw [if_pos (Or.inl (by assumption))]; rfl) | (rw [if_pos (Or.inr (by assumption))]; rfl) | (rw [if_neg (fun z => z.elim (by assumption) (by assumption)), if_pos (by assumption)]; rfl) | (rw [if_neg (fun z => z.elim (by assumption) (by assumption)), if_neg (by assumption)]; rfl))) ⟨rfl, rfl, rfl, trivial⟩
end
section
set_option maxRecDepth 8000 in
set_option maxHeartbeats 4000000 in
theorem c_X3_readFrom {G : Gt} (hG : Gok G) {I : It} {h : Ht}  (hH : HX h) {p : Nat} (hp : p < 6) {s : Int32} (hPO : PO I h) : Con G (15) 0 0 mX3_readFrom [.ref (43 + 5 * p), .int s] I h (rI (rfV p (rfW p s I)) (rfW p s I) h) := by
  refine con_intro (own := RX3) (lo0 := [some (.ref (43 + 5 * p)), some (.int s), none]) hG rfl pl_X3 (Nat.le_of_ble_eq_true rfl) rfl (fun X hX => ?_)
  have loop75 : ∀ (J : It), J = rfW p s I → GG G (15) 0 0 X (rI (rfV p (rfW p s I)) (rfW p s I) h) 75 [some (.ref (43 + 5 * p)), some (.int s), none] [] (J) (h) 0 0 := by
    intro J hJ
    refine g_aload_0 hX (dk DX3_readFrom 40 rfl) ?_
    refine g_getI hX (dk DX3_readFrom 41 rfl) KX3 fX3_41 (by decide) rfl (PL0 hH hp) (PSh hH hp) ?_
    refine g_if_ne (tgt := 97) hX (dk DX3_readFrom 42 rfl) (by decide) (fun hc1 => ?_) (fun hc1 => ?_)
    · refine g_aload_0 hX (dk DX3_readFrom 50 rfl) ?_
      refine g_getI hX (dk DX3_readFrom 51 rfl) KX3 fX3_38 (by decide) rfl (PL0 hH hp) (PSh hH hp) ?_
      refine g_ireturn hX (dk DX3_readFrom 52 rfl) rfl (rfl) (by decide) (by decide) ?_
      exact rI_of (by rw [← hJ]; unfold rfV; (try first | rw [if_pos hc1] | rw [if_neg hc1] | rw [if_neg (not_not_intro hc1)]); first | done | rfl) hJ rfl
    · refine g_aload_0 hX (dk DX3_readFrom 43 rfl) ?_
      refine g_getI hX (dk DX3_readFrom 44 rfl) KX3 fX3_38 (by decide) rfl (PL0 hH hp) (PSh hH hp) ?_
      refine g_aload_0 hX (dk DX3_readFrom 45 rfl) ?_
      refine g_getI hX (dk DX3_readFrom 46 rfl) KX3 fX3_34 (by decide) rfl (PL0 hH hp) (PSh hH hp) ?_
      refine g_icmp_ne (tgt := 97) hX (dk DX3_readFrom 47 rfl) (by decide) (fun hc2 => ?_) (fun hc2 => ?_)
      · refine g_aload_0 hX (dk DX3_readFrom 50 rfl) ?_
        refine g_getI hX (dk DX3_readFrom 51 rfl) KX3 fX3_38 (by decide) rfl (PL0 hH hp) (PSh hH hp) ?_
        refine g_ireturn hX (dk DX3_readFrom 52 rfl) rfl (rfl) (by decide) (by decide) ?_
        exact rI_of (by rw [← hJ]; unfold rfV; (try first | rw [if_pos hc1] | rw [if_neg hc1] | rw [if_neg (not_not_intro hc1)]); (try first | rw [if_pos hc2] | rw [if_neg hc2] | rw [if_neg (not_not_intro hc2)]); first | done | rfl) hJ rfl
      · refine g_iconst (v := -1) hX (dk DX3_readFrom 48 rfl) (by decide) ?_
        refine g_goto (tgt := 101) hX (dk DX3_readFrom 49 rfl) (by decide) ?_
        refine g_ireturn hX (dk DX3_readFrom 52 rfl) rfl (rfl) (by decide) (by decide) ?_
        exact rI_of (by rw [← hJ]; unfold rfV; (try first | rw [if_pos hc1] | rw [if_neg hc1] | rw [if_neg (not_not_intro hc1)]); (try first | rw [if_pos hc2] | rw [if_neg hc2] | rw [if_neg (not_not_intro hc2)]); first | done | rfl) hJ rfl
  have loop46 : ∀ (f k : Nat) (J : It), k + f = 10 → KP p I J → rfR p f k J = rfW p s I → GG G (15) 0 0 X (rI (rfV p (rfW p s I)) (rfW p s I) h) 46 [some (.ref (43 + 5 * p)), some (.int s), some (.int (nI k))] [] (J) (h) 0 0 := by
    intro f
    induction f using Nat.strongRecOn with | _ f ih => ?_
    intro k J hk hJ hR
    refine g_iload_2 hX (dk DX3_readFrom 27 rfl) ?_
    refine g_bipush (v := 10) hX (dk DX3_readFrom 28 rfl) (by decide) ?_
    refine g_icmp_ge (tgt := 75) hX (dk DX3_readFrom 29 rfl) (by decide) (fun hc1 => ?_) (fun hc1 => ?_)
    · first
      | exact g_fgt (loop75 _ (by rw [← hR, rf_c (k := k) (by assumption) (by assumption)])) ⟨rfl, rfl, trivial⟩
      | (have hk0 := ct_end (e := 10) hk (by decide) hc1; subst hk0; exact g_fgt (loop75 _ hR) ⟨rfl, rfl, trivial⟩)
    · obtain ⟨f, rfl⟩ := ct_go (e := 10) hk (by decide) hc1
      refine g_iload_2 hX (dk DX3_readFrom 30 rfl) ?_
      refine g_if_eq (tgt := 65) hX (dk DX3_readFrom 31 rfl) (by decide) (fun hc2 => ?_) (fun hc2 => ?_)
      · refine g_aload_0 hX (dk DX3_readFrom 36 rfl) ?_
        refine g_c1V hX sX3_readFrom_66 (by decide) (Nat.le_of_ble_eq_true rfl) (rc0 rfl (PL0 hH hp) (PSh hH hp)) (by decide) (by decide) (c_X3_readClause hG hH hp (I0 := I) (by first | exact KP.tk hJ | exact hJ)) ?_
        refine g_iinc_2 hX (dk DX3_readFrom 38 rfl) (nI_1 k) (by decide) rfl ?_
        refine g_goto (tgt := 46) hX (dk DX3_readFrom 39 rfl) (by decide) ?_
        first
        | (have h0 : nI k = 0 := by assumption
           have hE := rf_a (p := p) (f := f) (k := k) (J := J) h0 (by omega)
           exact g_fgt (ih f (by omega) (k + 1) (rcW p J) (by omega) hJ.rc (hE.symm.trans hR)) ⟨rfl, rfl, rfl, trivial⟩)
        | (have h0 : ¬ nI k = 0 := by assumption
           have hE := rf_b (p := p) (f := f) (k := k) (J := J) h0 (by assumption)
           exact g_fgt (ih f (by omega) (k + 1) (rcW p (tkW p 59 J)) (by omega) hJ.tk.rc (hE.symm.trans hR)) ⟨rfl, rfl, rfl, trivial⟩)
      · refine g_aload_0 hX (dk DX3_readFrom 32 rfl) ?_
        refine g_bipush (v := 59) hX (dk DX3_readFrom 33 rfl) (by decide) ?_
        refine g_c2I hX sX3_readFrom_59 (by decide) (Nat.le_of_ble_eq_true rfl) (rc0 rfl (PL0 hH hp) (PSh hH hp)) (by decide) (by decide) (c_X3_takes hG hH hp) ?_
        refine g_ifb_eq (tgt := 75) hX (dk DX3_readFrom 35 rfl) (by decide) (fun hc3 => ?_) (fun hc3 => ?_)
        · first
          | exact g_fgt (loop75 _ (by rw [← hR, rf_c (k := k) (by assumption) (by assumption)])) ⟨rfl, rfl, trivial⟩
          | (have hk0 := ct_end (e := 10) hk (by decide) hc3; subst hk0; exact g_fgt (loop75 _ hR) ⟨rfl, rfl, trivial⟩)
        · refine g_aload_0 hX (dk DX3_readFrom 36 rfl) ?_
          refine g_c1V hX sX3_readFrom_66 (by decide) (Nat.le_of_ble_eq_true rfl) (rc0 rfl (PL0 hH hp) (PSh hH hp)) (by decide) (by decide) (c_X3_readClause hG hH hp (I0 := I) (by first | exact KP.tk hJ | exact hJ)) ?_
          refine g_iinc_2 hX (dk DX3_readFrom 38 rfl) (nI_1 k) (by decide) rfl ?_
          refine g_goto (tgt := 46) hX (dk DX3_readFrom 39 rfl) (by decide) ?_
          first
          | (have h0 : nI k = 0 := by assumption
             have hE := rf_a (p := p) (f := f) (k := k) (J := J) h0 (by omega)
             exact g_fgt (ih f (by omega) (k + 1) (rcW p J) (by omega) hJ.rc (hE.symm.trans hR)) ⟨rfl, rfl, rfl, trivial⟩)
          | (have h0 : ¬ nI k = 0 := by assumption
             have hE := rf_b (p := p) (f := f) (k := k) (J := J) h0 (by assumption)
             exact g_fgt (ih f (by omega) (k + 1) (rcW p (tkW p 59 J)) (by omega) hJ.tk.rc (hE.symm.trans hR)) ⟨rfl, rfl, rfl, trivial⟩)
  refine g_aload_0 hX (dk DX3_readFrom 0 rfl) ?_
  refine g_iload_1 hX (dk DX3_readFrom 1 rfl) ?_
  refine g_aload_0 hX (dk DX3_readFrom 2 rfl) ?_
  refine g_getRs (r := 31) hX (dk DX3_readFrom 3 rfl) KX3 fX3_24 (by decide) rfl (PL0 hH hp) (PSh hH hp) (PR8 hH hp) ?_
  refine g_alen (v := 100) hX (dk DX3_readFrom 4 rfl) (CLt hH (q := 31) (by decide)) (CS hH 31 (by decide) rfl) (by decide) (i0 := 2) rfl (by decide) ?_
  refine g_c2I hX sX3_readFrom_7 (by decide) (Nat.le_of_ble_eq_true rfl) rcN (by decide) (by decide) (c_J9_min_7cf53 hG) ?_
  refine g_putI hX (dk DX3_readFrom 6 rfl) KX3 fX3_34 (by decide) rfl (PL0 hH hp) (PSh hH hp) (Or.inl rfl) (rfl) (rfl) ?_
  refine g_aload_0 hX (dk DX3_readFrom 7 rfl) ?_
  refine g_iconst (v := 0) hX (dk DX3_readFrom 8 rfl) (by decide) ?_
  refine g_putI hX (dk DX3_readFrom 9 rfl) KX3 fX3_38 (by decide) rfl (PL0 hH hp) (PSh hH hp) (Or.inl rfl) (rfl) (rfl) ?_
  refine g_aload_0 hX (dk DX3_readFrom 10 rfl) ?_
  refine g_iconst (v := 0) hX (dk DX3_readFrom 11 rfl) (by decide) ?_
  refine g_putI hX (dk DX3_readFrom 12 rfl) KX3 fX3_41 (by decide) rfl (PL0 hH hp) (PSh hH hp) (Or.inl rfl) (by decide) (by decide) ?_
  refine g_aload_0 hX (dk DX3_readFrom 13 rfl) ?_
  refine g_iconst (v := 0) hX (dk DX3_readFrom 14 rfl) (by decide) ?_
  refine g_putI hX (dk DX3_readFrom 15 rfl) KX3 fX3_45 (by decide) rfl (PL0 hH hp) (PSh hH hp) (Or.inl rfl) (rfl) (rfl) ?_
  refine g_aload_0 hX (dk DX3_readFrom 16 rfl) ?_
  refine g_iconst (v := 0) hX (dk DX3_readFrom 17 rfl) (by decide) ?_
  refine g_putI hX (dk DX3_readFrom 18 rfl) KX3 fX3_48 (by decide) rfl (PL0 hH hp) (PSh hH hp) (Or.inl rfl) (rfl) (rfl) ?_
  refine g_aload_0 hX (dk DX3_readFrom 19 rfl) ?_
  refine g_bipush (v := 7) hX (dk DX3_readFrom 20 rfl) (by decide) ?_
  refine g_putI hX (dk DX3_readFrom 21 rfl) KX3 fX3_51 (by decide) rfl (PL0 hH hp) (PSh hH hp) (Or.inl rfl) (rfl) (rfl) ?_
  refine g_aload_0 hX (dk DX3_readFrom 22 rfl) ?_
  refine g_iconst (v := 1) hX (dk DX3_readFrom 23 rfl) (by decide) ?_
  refine g_putI hX (dk DX3_readFrom 24 rfl) KX3 fX3_54 (by decide) rfl (PL0 hH hp) (PSh hH hp) (Or.inl rfl) (rfl) (rfl) ?_
  refine g_iconst (v := 0) hX (dk DX3_readFrom 25 rfl) (by decide) ?_
  refine g_istore_2 hX (dk DX3_readFrom 26 rfl) (by decide) rfl ?_
  exact g_fgt (loop46 10 0 (rf0 p s I) (by decide) (KP.rfZ (fun _ _ => rfl) (fun k hk => (hPO.2 p hp).2 k hk)) rfl) ⟨rfl, rfl, rfl, trivial⟩
end
section
/-! the class's memory against the reference's picture E and its items L, posts left out -/
def DoR (c d : Nat) (k v r p co ne : Int32) (I : It) (h : Ht) : Prop :=
  ∃ a, hR h c d = some a ∧ 73 ≤ a ∧ a < hn h ∧ (hs h a).1 = kcl k ∧ I a 0 = nI d ∧ I a 1 = v ∧ I a 2 = r ∧ I a 3 = p ∧ I a 4 = co ∧ I a 5 = ne
def StR (s : Nat) (n w idl rows : Int32) (kd v rd pl co ne od hr : Nat → Int32) (I : It) (h : Ht) : Prop :=
  (I s 2 = n ∧ I s 6 = w ∧ I s 4 = idl ∧ I s 12 = rows) ∧ (∀ j, j < 10 → I (s + 2) j = od j) ∧ (∀ y, y < 4 → I (s + 3) y = hr y) ∧ ∀ d, d < tN n → DoR (s + 1) d (kd d) (v d) (rd d) (pl d) (co d) (ne d) I h
def St1 (E I : It) (h : Ht) : Prop := StR 1 (E 0 0) (E 0 1) (E 0 6) (E 0 44) (E 1) (E 2) (E 3) (E 4) (E 5) (E 6) (E 7) (E 8) I h
def St7 (E I : It) (h : Ht) : Prop := StR 7 (E 0 49) (E 0 50) (E 0 55) (E 0 56) (E 25) (E 26) (E 27) (E 28) (E 29) (E 30) (E 31) (E 32) I h
def TpR (E : It) (L : Nat → Int64) (I : It) (h : Ht) : Prop := ∀ t, t < 6 → I 34 t = E 36 t ∧ I 35 t = E 37 t ∧ ∀ j, j < 60 → hL h (37 + t) j = L (60 * t + j)
def RY (E : It) (L : Nat → Int64) (I : It) (h : Ht) : Prop :=
  HX h ∧ St1 E I h ∧ (I 0 2 = E 0 47 ∧ (E 0 47 = 1 → St7 E I h)) ∧ ((∀ j, j < 10 → okD h (hR h 2 j)) ∧ ∀ j, j < 10 → okD h (hR h 8 j)) ∧
  (PO I h ∧ ∀ r, hR h 7 13 = some r → ∃ p, p < 6 ∧ r = 43 + 5 * p) ∧ (I 32 1 = E 0 67 ∧ ∀ j, j < 20 → I 33 j = E 35 j) ∧ TpR E L I h ∧ (∃ k, k ≤ 6 ∧ I 0 5 = nI k) ∧ ∃ s, s ≤ 100 ∧ I 0 7 = nI s
theorem DoR.keep {c d : Nat} {k v r p co ne : Int32} {I J : It} {h h2 : Ht} (hD : DoR c d k v r p co ne I h) (e1 : hR h2 c d = hR h c d) (e2 : hn h ≤ hn h2) (e3 : ∀ a, a < hn h → hs h2 a = hs h a) (e4 : ∀ a, 73 ≤ a → a < hn h → J a = I a) : DoR c d k v r p co ne J h2 := by
  obtain ⟨a, g1, g2, g3, g4, g5⟩ := hD
  refine ⟨a, e1.trans g1, g2, by omega, by rw [e3 a g3]; exact g4, ?_⟩
  rw [e4 a g2 g3]; exact g5
theorem StR.keep {s : Nat} {n w idl rows : Int32} {kd v rd pl co ne od hr : Nat → Int32} {I J : It} {h h2 : Ht} (hS : StR s n w idl rows kd v rd pl co ne od hr I h) (hJ : ∀ a, (a = s ∨ a = s + 2 ∨ a = s + 3 ∨ (73 ≤ a ∧ a < hn h)) → J a = I a) (e1 : ∀ j, hR h2 (s + 1) j = hR h (s + 1) j) (e2 : hn h ≤ hn h2) (e3 : ∀ a, a < hn h → hs h2 a = hs h a) : StR s n w idl rows kd v rd pl co ne od hr J h2 := by
  obtain ⟨h1, h2', h3, h4⟩ := hS
  refine ⟨by rw [hJ s (Or.inl rfl)]; exact h1, ?_, ?_, fun d hd => (h4 d hd).keep (e1 d) e2 e3 (fun a z1 z2 => hJ a (Or.inr (Or.inr (Or.inr ⟨z1, z2⟩))))⟩
  · rw [hJ (s + 2) (Or.inr (Or.inl rfl))]; exact h2'
  · rw [hJ (s + 3) (Or.inr (Or.inr (Or.inl rfl)))]; exact h3
/-- the picture may differ where nothing is compared -/
theorem RY.eE {E E2 : It} {L : Nat → Int64} {I : It} {h : Ht} (hY : RY E L I h) (h0 : ∀ j, j ∈ [0, 1, 6, 44, 47, 49, 50, 55, 56, 67] → E2 0 j = E 0 j) (h1 : ∀ a, a ∈ [1, 2, 3, 4, 5, 6, 7, 8, 25, 26, 27, 28, 29, 30, 31, 32, 35, 36, 37] → E2 a = E a) : RY E2 L I h := by
  unfold RY St1 St7 TpR
  rw [h0 0 (by decide), h0 1 (by decide), h0 6 (by decide), h0 44 (by decide), h0 47 (by decide), h0 49 (by decide), h0 50 (by decide), h0 55 (by decide), h0 56 (by decide), h0 67 (by decide),
    h1 1 (by decide), h1 2 (by decide), h1 3 (by decide), h1 4 (by decide), h1 5 (by decide), h1 6 (by decide), h1 7 (by decide), h1 8 (by decide), h1 25 (by decide), h1 26 (by decide), h1 27 (by decide), h1 28 (by decide), h1 29 (by decide), h1 30 (by decide), h1 31 (by decide), h1 32 (by decide), h1 35 (by decide), h1 36 (by decide), h1 37 (by decide)]
  exact hY
theorem RY.f {E : It} {L : Nat → Int64} {I : It} {h : Ht} {j : Nat} {x : Int32} (hY : RY E L I h) (hj : j ∉ [0, 1, 6, 44, 47, 49, 50, 55, 56, 67]) : RY (upI E 0 j x) L I h :=
  hY.eE (fun b hb => upn (fun z => hj (by rw [← z.2]; exact hb))) (fun a ha => upI_off (by rintro rfl; revert ha; decide))
theorem RY.cc {E : It} {L : Nat → Int64} {I : It} {h : Ht} {a j : Nat} {x : Int32} (hY : RY E L I h) (ha : a ∉ [0, 1, 2, 3, 4, 5, 6, 7, 8, 25, 26, 27, 28, 29, 30, 31, 32, 35, 36, 37]) : RY (upI E a j x) L I h :=
  hY.eE (fun b _ => upn (fun z => ha (by rw [← z.1]; decide))) (fun b hb => upI_off (by rintro rfl; exact ha (List.mem_cons_of_mem _ hb)))
/-- what is not compared may be written -/
theorem RY.kI {E : It} {L : Nat → Int64} {I J : It} {h : Ht} (hY : RY E L I h) (h1 : ∀ j, j ∈ [2, 6, 4, 12] → J 1 j = I 1 j) (h0 : ∀ j, j ∈ [2, 5, 7] → J 0 j = I 0 j) (hJ : ∀ a, (a = 3 ∨ a = 4 ∨ a = 7 ∨ a = 9 ∨ a = 10 ∨ (32 ≤ a ∧ a ≤ 35)) → J a = I a) (h73 : ∀ a, 73 ≤ a → a < hn h → J a = I a) (hPO : PO J h) : RY E L J h := by
  obtain ⟨g1, ⟨⟨s1, s2, s3, s4⟩, s5, s6, s7⟩, ⟨g3, g4⟩, g5, ⟨g6, g7⟩, ⟨g8, g9⟩, g10, g11, g12⟩ := hY
  refine ⟨g1, ⟨⟨(h1 2 (by decide)).trans s1, (h1 6 (by decide)).trans s2, (h1 4 (by decide)).trans s3, (h1 12 (by decide)).trans s4⟩, fun j hj => ?_, fun j hj => ?_, fun d hd => (s7 d hd).keep rfl (Nat.le_refl _) (fun _ _ => rfl) h73⟩, ⟨(h0 2 (by decide)).trans g3, fun e => StR.keep (g4 e) (fun a ha => ?_) (fun _ => rfl) (Nat.le_refl _) (fun _ _ => rfl)⟩, g5, ⟨hPO, g7⟩, ⟨?_, fun j hj => ?_⟩, fun t ht => ?_, ?_, ?_⟩
  · rw [hJ 3 (by omega)]; exact s5 j hj
  · rw [hJ 4 (by omega)]; exact s6 j hj
  · rcases ha with rfl | rfl | rfl | ⟨z1, z2⟩
    · exact hJ 7 (by omega)
    · exact hJ 9 (by omega)
    · exact hJ 10 (by omega)
    · exact h73 a z1 z2
  · rw [hJ 32 (by omega)]; exact g8
  · rw [hJ 33 (by omega)]; exact g9 j hj
  · rw [hJ 34 (by omega), hJ 35 (by omega)]; exact g10 t ht
  · rw [h0 5 (by decide)]; exact g11
  · rw [h0 7 (by decide)]; exact g12
theorem PO.mv {I J : It} {h : Ht} (hP : PO I h) (e : ∀ a, 43 ≤ a → a < 73 → J a = I a) : PO J h := ⟨hP.1, fun p hp => ⟨by rw [e _ (by omega) (by omega)]; exact (hP.2 p hp).1, fun k hk => by rw [e _ (by omega) (by omega)]; exact (hP.2 p hp).2 k hk⟩⟩
theorem RY.sc {E : It} {L : Nat → Int64} {I J : It} {h : Ht} (hY : RY E L I h) (hS : Sc I J) : RY E L J h :=
  hY.kI (fun _ _ => by rw [hS 1 (by omega)]) (fun _ _ => by rw [hS 0 (by omega)]) (fun a ha => hS a (by omega)) (fun a ha _ => hS a (by omega)) (hY.2.2.2.2.1.1.mv (fun a ha _ => hS a (by omega)))
theorem RY.u1 {E : It} {L : Nat → Int64} {I : It} {h : Ht} {j : Nat} {x : Int32} (hY : RY E L I h) (hj : j ∉ [2, 6, 4, 12]) : RY E L (upI I 1 j x) h :=
  hY.kI (fun b hb => upn (fun z => hj (by rw [← z.2]; exact hb))) (fun _ _ => by rw [upI_off (by decide)]) (fun a ha => upI_off (by omega)) (fun a ha _ => upI_off (by omega)) (hY.2.2.2.2.1.1.mv (fun a ha _ => upI_off (by omega)))
theorem RY.ua {E : It} {L : Nat → Int64} {I : It} {h : Ht} {a j : Nat} {x : Int32} (hY : RY E L I h) (ha : a ∈ [2, 5, 6, 8, 11, 12, 31, 36]) : RY E L (upI I a j x) h := by
  have h43 : a ≤ 36 ∧ a ≠ 0 ∧ a ≠ 1 ∧ a ≠ 3 ∧ a ≠ 4 ∧ a ≠ 7 ∧ a ≠ 9 ∧ a ≠ 10 ∧ ¬ (32 ≤ a ∧ a ≤ 35) := by revert ha; simp; omega
  exact hY.kI (fun _ _ => by rw [upI_off (by omega)]) (fun _ _ => by rw [upI_off (by omega)]) (fun a ha => upI_off (by omega)) (fun a ha _ => upI_off (by omega)) (hY.2.2.2.2.1.1.mv (fun a ha _ => upI_off (by omega)))
/-! what the class's memory is, for the methods below -/
theorem RY.wx {E : It} {L : Nat → Int64} {I : It} {h : Ht} (hE : Inv E) (hY : RY E L I h) : WX I h := by
  obtain ⟨g1, ⟨⟨s1, s2, s3, s4⟩, s5, s6, s7⟩, -, g5, ⟨g6, -⟩, -⟩ := hY
  obtain ⟨e0, hc⟩ := inv_cnt hE
  obtain ⟨ew, hw⟩ := inv_wk hE
  have ec : cN I = cnt E := by unfold cN cnt; rw [s1]
  have ee : weN I = wk E := by unfold weN wk; rw [s2]
  refine ⟨g1, ⟨by rw [s1, ec]; exact e0, by omega⟩, fun d hd => ?_, g6, ⟨by rw [s2, ee]; exact ew, by omega⟩, ?_⟩
  · rw [ec] at hd
    obtain ⟨a, a1, a2, a3, a4, a5, a6, a7, -⟩ := s7 d hd
    have ea : dn h d = a := by unfold dn; rw [show hR h 2 d = some a from a1]; rfl
    obtain ⟨-, -, ⟨r, r1, r2, er, -⟩, -⟩ := inv_d hE hd
    unfold OD
    rw [ea]
    refine ⟨a1, a2, a3, by rw [a4]; exact kcl_dc _, a5, ?_⟩
    rw [a7, er]
    intro z
    have := (nI_eq (b := 0) (by omega) (by decide)).mp z
    omega
  · obtain ⟨r, hr, e⟩ := inv_rows hE
    exact ⟨r, hr, by rw [s4]; exact e⟩
/-- DOING d -/
theorem RY.d {E : It} {L : Nat → Int64} {I : It} {h : Ht} (hY : RY E L I h) {d : Nat} (hd : d < cnt E) : hR h 2 d = some (dn h d) ∧ 73 ≤ dn h d ∧ dn h d < hn h ∧ (hs h (dn h d)).1 = kcl (E 1 d) ∧ I (dn h d) 0 = nI d ∧ I (dn h d) 1 = E 2 d ∧ I (dn h d) 2 = E 3 d ∧ I (dn h d) 3 = E 4 d ∧ I (dn h d) 4 = E 5 d ∧ I (dn h d) 5 = E 6 d := by
  obtain ⟨a, a1, a2⟩ := hY.2.1.2.2.2 d hd
  have ea : dn h d = a := by unfold dn; rw [show hR h 2 d = some a from a1]; rfl
  rw [ea]
  exact ⟨a1, a2⟩
theorem RY.cn {E : It} {L : Nat → Int64} {I : It} {h : Ht} (hY : RY E L I h) : cN I = cnt E := by unfold cN cnt; rw [hY.2.1.1.1]
theorem RY.we {E : It} {L : Nat → Int64} {I : It} {h : Ht} (hY : RY E L I h) : weN I = wk E := by unfold weN wk; rw [hY.2.1.1.2.1]
theorem RY.no {E : It} {L : Nat → Int64} {I : It} {h : Ht} (hE : Inv E) (hY : RY E L I h) {a : Int32} (hno : ¬ isD E a) : ¬ (0 ≤ a ∧ a < I 1 2) := by
  rintro ⟨z1, z2⟩
  obtain ⟨e0, hc⟩ := inv_cnt hE
  rw [hY.2.1.1.1, e0] at z2
  obtain ⟨j, hj, rfl⟩ := nI_of (Int32.not_lt.mpr z1)
  exact hno (isD_mk hE (lt_nI hj (by omega) z2))
/-! what a public method answers, and the relation behind it; nX: at most one new cell -/
def qX (s : Int32 × It) (L : Nat → Int64) (N : Nat) : Pt3 := qI fun x I' h' => x = s.1 ∧ RY s.2 L I' h' ∧ hn h' ≤ N
def qXL (v : Int64) (E : It) (L : Nat → Int64) (N : Nat) : Pt3 := qL fun x I' h' => x = v ∧ RY E L I' h' ∧ hn h' ≤ N
def qW (E : It) (L : Nat → Int64) (N : Nat) : Pt3 := qI fun _ I' h' => RY E L I' h' ∧ hn h' ≤ N
theorem qX_of {s : Int32 × It} {v : Int32} {E' J : It} {L : Nat → Int64} {h : Ht} (e : s = (v, E')) (hY : RY E' L J h) : qX s L (hn h) (some (.int v)) J h := ⟨v, rfl, by rw [e], by rw [e]; exact hY, Nat.le_refl _⟩
theorem qXL_of {v w : Int64} {E J : It} {L : Nat → Int64} {h : Ht} (e : w = v) (hY : RY E L J h) : qXL v E L (hn h) (some (.long w)) J h := ⟨w, rfl, e, hY, Nat.le_refl _⟩
theorem qW_of {v : Int32} {E J : It} {L : Nat → Int64} {h : Ht} (hY : RY E L J h) : qW E L (hn h) (some (.int v)) J h := ⟨v, rfl, hY, Nat.le_refl _⟩
/-- numbers of the state are written, in both -/
theorem RY.kE {E E2 : It} {L : Nat → Int64} {I J : It} {h : Ht} (hY : RY E L I h) (w1 : J 1 2 = E 0 0) (w2 : J 1 6 = E2 0 1) (w3 : J 1 4 = E2 0 6) (w4 : J 1 12 = E2 0 44) (w5 : ∀ j, j < 10 → J 3 j = E2 7 j) (w6 : ∀ y, y < 4 → J 4 y = E2 8 y)
    (e0 : ∀ j, j ∈ [0, 47, 49, 50, 55, 56, 67] → E2 0 j = E 0 j) (e1 : ∀ a, a ∈ [1, 2, 3, 4, 5, 6, 25, 26, 27, 28, 29, 30, 31, 32, 35, 36, 37] → E2 a = E a)
    (h0 : ∀ j, j ∈ [2, 5, 7] → J 0 j = I 0 j) (hJ : ∀ a, (a = 7 ∨ a = 9 ∨ a = 10 ∨ (32 ≤ a ∧ a ≤ 35)) → J a = I a) (h73 : ∀ a, 43 ≤ a → J a = I a) : RY E2 L J h := by
  have q : RY (fun a j => if a = 0 then (if j = 1 ∨ j = 6 ∨ j = 44 then E 0 j else E2 0 j) else if a = 7 ∨ a = 8 then E a j else E2 a j) L I h := by
    refine hY.eE (fun j hj => ?_) (fun a ha => ?_)
    · show (if (0 : Nat) = 0 then (if j = 1 ∨ j = 6 ∨ j = 44 then E 0 j else E2 0 j) else _) = E 0 j
      rw [if_pos rfl]
      split
      · rfl
      · exact e0 j (by simp at hj ⊢; omega)
    · funext j
      show (if a = 0 then (if j = 1 ∨ j = 6 ∨ j = 44 then E 0 j else E2 0 j) else if a = 7 ∨ a = 8 then E a j else E2 a j) = E a j
      rw [if_neg (by simp at ha; omega)]
      split
      · rfl
      · rw [e1 a (by simp at ha ⊢; omega)]
  obtain ⟨g1, ⟨⟨s1, s2, s3, s4⟩, s5, s6, s7⟩, ⟨g3, g4⟩, g5, ⟨g6, g7⟩, ⟨g8, g9⟩, g10, g11, g12⟩ := q
  refine ⟨g1, ⟨⟨by rw [w1, e0 0 (by decide)], w2, w3, w4⟩, w5, w6, fun d hd => DoR.keep (s7 d hd) rfl (Nat.le_refl _) (fun _ _ => rfl) (fun a ha _ => h73 a (by omega))⟩, ⟨by rw [h0 2 (by decide)]; exact g3, fun e => StR.keep (g4 e) (fun a ha => ?_) (fun _ => rfl) (Nat.le_refl _) (fun _ _ => rfl)⟩, g5, ⟨g6.mv (fun a ha _ => h73 a ha), g7⟩, ⟨by rw [hJ 32 (by omega)]; exact g8, fun j hj => by rw [hJ 33 (by omega)]; exact g9 j hj⟩, fun t ht => by rw [hJ 34 (by omega), hJ 35 (by omega)]; exact g10 t ht, by rw [h0 5 (by decide)]; exact g11, by rw [h0 7 (by decide)]; exact g12⟩
  rcases ha with rfl | rfl | rfl | ⟨z1, z2⟩
  · exact hJ 7 (by omega)
  · exact hJ 9 (by omega)
  · exact hJ 10 (by omega)
  · exact h73 a (by omega)
theorem RY.wN {E : It} {L : Nat → Int64} {I : It} {h : Ht} {x : Int32} (hY : RY E L I h) : RY (upI E 0 6 x) L (upI I 1 4 x) h :=
  hY.kE (by rw [upn (by decide)]; exact hY.2.1.1.1) (by rw [upn (by decide), upn (by decide)]; exact hY.2.1.1.2.1) (by rw [up0, up0]) (by rw [upn (by decide), upn (by decide)]; exact hY.2.1.1.2.2.2) (fun j hj => by rw [upI_off (by decide), upI_off (by decide)]; exact hY.2.1.2.1 j hj) (fun j hj => by rw [upI_off (by decide), upI_off (by decide)]; exact hY.2.1.2.2.1 j hj)
    (fun j hj => upn (by rintro ⟨-, rfl⟩; revert hj; decide)) (fun a ha => upI_off (by rintro rfl; revert ha; decide)) (fun _ _ => by rw [upI_off (by decide)]) (fun a ha => upI_off (by omega)) (fun a ha => upI_off (by omega))
theorem RY.wW {E : It} {L : Nat → Int64} {I : It} {h : Ht} {x : Int32} (hY : RY E L I h) : RY (upI E 0 1 x) L (upI I 1 6 x) h :=
  hY.kE (by rw [upn (by decide)]; exact hY.2.1.1.1) (by rw [up0, up0]) (by rw [upn (by decide), upn (by decide)]; exact hY.2.1.1.2.2.1) (by rw [upn (by decide), upn (by decide)]; exact hY.2.1.1.2.2.2) (fun j hj => by rw [upI_off (by decide), upI_off (by decide)]; exact hY.2.1.2.1 j hj) (fun j hj => by rw [upI_off (by decide), upI_off (by decide)]; exact hY.2.1.2.2.1 j hj)
    (fun j hj => upn (by rintro ⟨-, rfl⟩; revert hj; decide)) (fun a ha => upI_off (by rintro rfl; revert ha; decide)) (fun _ _ => by rw [upI_off (by decide)]) (fun a ha => upI_off (by omega)) (fun a ha => upI_off (by omega))
theorem RY.wR {E : It} {L : Nat → Int64} {I : It} {h : Ht} {x : Int32} (hY : RY E L I h) : RY (upI E 0 44 x) L (upI I 1 12 x) h :=
  hY.kE (by rw [upn (by decide)]; exact hY.2.1.1.1) (by rw [upn (by decide), upn (by decide)]; exact hY.2.1.1.2.1) (by rw [upn (by decide), upn (by decide)]; exact hY.2.1.1.2.2.1) (by rw [up0, up0]) (fun j hj => by rw [upI_off (by decide), upI_off (by decide)]; exact hY.2.1.2.1 j hj) (fun j hj => by rw [upI_off (by decide), upI_off (by decide)]; exact hY.2.1.2.2.1 j hj)
    (fun j hj => upn (by rintro ⟨-, rfl⟩; revert hj; decide)) (fun a ha => upI_off (by rintro rfl; revert ha; decide)) (fun _ _ => by rw [upI_off (by decide)]) (fun a ha => upI_off (by omega)) (fun a ha => upI_off (by omega))
theorem RY.wO {E : It} {L : Nat → Int64} {I : It} {h : Ht} {d : Nat} {x : Int32} (hY : RY E L I h) : RY (upI E 7 d x) L (upI I 3 d x) h :=
  hY.kE (by rw [upI_off (by decide)]; exact hY.2.1.1.1) (by rw [upI_off (by decide), upI_off (by decide)]; exact hY.2.1.1.2.1) (by rw [upI_off (by decide), upI_off (by decide)]; exact hY.2.1.1.2.2.1) (by rw [upI_off (by decide), upI_off (by decide)]; exact hY.2.1.1.2.2.2)
    (fun j hj => by
      by_cases e : j = d
      · rw [e, up0, up0]
      · rw [upn (fun z => e z.2), upn (fun z => e z.2)]; exact hY.2.1.2.1 j hj) (fun j hj => by rw [upI_off (by decide), upI_off (by decide)]; exact hY.2.1.2.2.1 j hj)
    (fun j _ => by rw [upI_off (by decide)]) (fun a ha => upI_off (by rintro rfl; revert ha; decide)) (fun _ _ => by rw [upI_off (by decide)]) (fun a ha => upI_off (by omega)) (fun a ha => upI_off (by omega))
theorem RY.wH {E : It} {L : Nat → Int64} {I : It} {h : Ht} {d : Nat} {x : Int32} (hY : RY E L I h) : RY (upI E 8 d x) L (upI I 4 d x) h :=
  hY.kE (by rw [upI_off (by decide)]; exact hY.2.1.1.1) (by rw [upI_off (by decide), upI_off (by decide)]; exact hY.2.1.1.2.1) (by rw [upI_off (by decide), upI_off (by decide)]; exact hY.2.1.1.2.2.1) (by rw [upI_off (by decide), upI_off (by decide)]; exact hY.2.1.1.2.2.2) (fun j hj => by rw [upI_off (by decide), upI_off (by decide)]; exact hY.2.1.2.1 j hj)
    (fun j hj => by
      by_cases e : j = d
      · rw [e, up0, up0]
      · rw [upn (fun z => e z.2), upn (fun z => e z.2)]; exact hY.2.1.2.2.1 j hj)
    (fun j _ => by rw [upI_off (by decide)]) (fun a ha => upI_off (by rintro rfl; revert ha; decide)) (fun _ _ => by rw [upI_off (by decide)]) (fun a ha => upI_off (by omega)) (fun a ha => upI_off (by omega))
theorem and1_01 (x : Int32) : x &&& 1 = 0 ∨ x &&& 1 = 1 := by
  have h : (x &&& 1).toBitVec.toNat = x.toBitVec.toNat % 2 := by
    rw [Int32.toBitVec_and, BitVec.toNat_and]
    exact Nat.and_one_is_mod _
  rcases Nat.mod_two_eq_zero_or_one x.toBitVec.toNat with e | e
  · left
    apply Int32.toBitVec.inj
    apply BitVec.eq_of_toNat_eq
    rw [h, e]; rfl
  · right
    apply Int32.toBitVec.inj
    apply BitVec.eq_of_toNat_eq
    rw [h, e]; rfl
theorem hasI_if (s k : Int32) {A : Type} (x y : A) : (if hasI s k = 1 then x else y) = if hasI s k = 0 then y else x := by
  rcases and1_01 (s >>> (k &&& 31)) with e | e
  · rw [show hasI s k = 0 from e]; rfl
  · rw [show hasI s k = 1 from e]; rfl
theorem needless_e {E : It} {a z : Int32} (h : isD E a) : needlessS E a z = (hasI (E 0 6) a, upI E 0 6 (withI (E 0 6) a z)) := by
  unfold needlessS
  rw [if_neg (not_not_intro h)]
  rcases and1_01 (E 0 6 >>> (a &&& 31)) with e | e
  · rw [show hasI (E 0 6) a = 0 from e, if_neg (by decide)]
  · rw [show hasI (E 0 6) a = 1 from e, if_pos rfl]
theorem learn_e {E : It} {a z : Int32} (h : isD E a) : (learnS E a z).2 = upI E 0 5 (withI (E 0 5) a z) := by
  unfold learnS
  rw [if_neg (not_not_intro h)]
  split <;> rfl
theorem here_ix20 {x : Int32} (h0 : ¬ x < 0) (h1 : x < 20) : idx x (tN x) 20 := by
  obtain ⟨j, hj, rfl⟩ := nI_of h0
  exact ⟨by rw [tN_nI hj], by rw [tN_nI hj]; exact lt_nI hj (by decide) h1, by decide⟩
theorem lt20_le {x : Int32} (h : idx x (tN x) 20) : x ≤ 19 := by
  rw [h.1]
  exact nI_le (a := tN x) (b := 19) (by have := h.2.1; omega) (by decide)
theorem RY.u07 {E : It} {L : Nat → Int64} {I : It} {h : Ht} {s : Nat} (hY : RY E L I h) (hs : s ≤ 100) : RY E L (upI I 0 7 (nI s)) h := by
  obtain ⟨g1, g2, ⟨g3, g4⟩, g5, ⟨g6, g7⟩, g8, g9, g10, g11⟩ := hY
  refine ⟨g1, StR.keep g2 (fun a ha => upI_off (by omega)) (fun _ => rfl) (Nat.le_refl _) (fun _ _ => rfl), ⟨(upn (by decide)).trans g3, fun e => StR.keep (g4 e) (fun a ha => upI_off (by omega)) (fun _ => rfl) (Nat.le_refl _) (fun _ _ => rfl)⟩, g5, ⟨g6.mv (fun a ha _ => upI_off (by omega)), g7⟩, ?_, ?_, ?_, ⟨s, hs, up0 _ _ _ _⟩⟩
  · rw [upI_off (by decide), upI_off (by decide)]; exact g8
  · intro t ht; rw [upI_off (by decide), upI_off (by decide)]; exact g9 t ht
  · rw [upn (by decide)]; exact g10
theorem RY.u05 {E : It} {L : Nat → Int64} {I : It} {h : Ht} {s : Nat} (hY : RY E L I h) (hs : s ≤ 6) : RY E L (upI I 0 5 (nI s)) h := by
  obtain ⟨g1, g2, ⟨g3, g4⟩, g5, ⟨g6, g7⟩, g8, g9, g10, g11⟩ := hY
  refine ⟨g1, StR.keep g2 (fun a ha => upI_off (by omega)) (fun _ => rfl) (Nat.le_refl _) (fun _ _ => rfl), ⟨(upn (by decide)).trans g3, fun e => StR.keep (g4 e) (fun a ha => upI_off (by omega)) (fun _ => rfl) (Nat.le_refl _) (fun _ _ => rfl)⟩, g5, ⟨g6.mv (fun a ha _ => upI_off (by omega)), g7⟩, ?_, ?_, ⟨s, hs, up0 _ _ _ _⟩, ?_⟩
  · rw [upI_off (by decide), upI_off (by decide)]; exact g8
  · intro t ht; rw [upI_off (by decide), upI_off (by decide)]; exact g9 t ht
  · rw [upn (by decide)]; exact g11
theorem feed_w {E : It} {L : Nat → Int64} {I : It} {h : Ht} {j : Nat} {x : Int32} {s : Nat} (hY : RY E L I h) (hs : s ≤ 100) (e : I 0 7 = nI s) (hlt : I 0 7 < 100) : RY E L (upI (upI I 31 j x) 0 7 (upI I 31 j x 0 7 + 1)) h := by
  have e2 : upI I 31 j x 0 7 = I 0 7 := upn (by omega)
  rw [e] at hlt
  have hs2 := lt_nI (b := 100) (by omega) (by decide) hlt
  rw [e2, e, nI_1]
  exact RY.u07 (hY.ua (by decide)) (by omega)
end
section
set_option maxRecDepth 8000 in
set_option maxHeartbeats 4000000 in
theorem y_needless {G : Gt} (hG : Gok G) {I : It} {h : Ht}  {E : It} {L : Nat → Int64} (hE : Inv E) (hY : RY E L I h) {d : Nat} (hd : d < cnt E) {z : Int32} : Con G (3) 0 0 mX11_needless [.ref 0, .int (nI d), .int z] I h (qX (needlessS E (nI d) z) L (hn h)) := by
  refine con_intro (own := RX11) (lo0 := [some (.ref 0), some (.int (nI d)), some (.int z), none]) hG rfl pl_X11 (Nat.le_of_ble_eq_true rfl) rfl (fun X hX => ?_)
  have hW := hY.wx hE
  have hH := hW.1
  have hc10 := hW.2.1.2
  have hd10 : d < 10 := Nat.lt_of_lt_of_le hd (inv_cnt hE).2
  have hcd : d < cN I := by rw [hY.cn]; exact hd
  have hDD := isD_mk hE hd
  obtain ⟨g1, g2, g3, g4, g5, g6, g7, g8, g9, g10⟩ := hY.d hd
  refine g_aload_0 hX (dk DX11_needless 0 rfl) ?_
  refine g_getRs (r := 1) hX (dk DX11_needless 1 rfl) KX11 fX11_12 (by decide) rfl (CLt hH (q := 0) (by decide)) (CC hH 0 (by decide) rfl) (CR hH 0 0 1 (by decide)) ?_
  refine g_iload_1 hX (dk DX11_needless 2 rfl) ?_
  refine g_c2R hX sX11_needless_5 (by decide) (Nat.le_of_ble_eq_true rfl) (rc0 rfl (CLt hH (by decide)) (CC hH 1 (by decide) rfl)) (by decide) (by decide) (c_X5_find hG hW (by exact hcd)) ?_
  refine g_ifnonnull (tgt := 13) hX (dk DX11_needless 4 rfl) (by decide) ?_
  refine g_aload_0 hX (dk DX11_needless 7 rfl) ?_
  refine g_getRs (r := 1) hX (dk DX11_needless 8 rfl) KX11 fX11_12 (by decide) rfl (CLt hH (q := 0) (by decide)) (CC hH 0 (by decide) rfl) (CR hH 0 0 1 (by decide)) ?_
  refine g_getIv hX (dk DX11_needless 9 rfl) KX5 fX11_109 (by decide) rfl (CLt hH (q := 1) (by decide)) (CC hH 1 (by decide) rfl) (hY.2.1.1.2.2.1) ?_
  refine g_iload_1 hX (dk DX11_needless 10 rfl) ?_
  refine g_c2I hX sX11_needless_21 (by decide) (Nat.le_of_ble_eq_true rfl) rcN (by decide) (by decide) (c_X11_bit hG ) ?_
  refine g_istore_3 hX (dk DX11_needless 12 rfl) (by decide) rfl ?_
  refine g_aload_0 hX (dk DX11_needless 13 rfl) ?_
  refine g_getRs (r := 1) hX (dk DX11_needless 14 rfl) KX11 fX11_12 (by decide) rfl (CLt hH (q := 0) (by decide)) (CC hH 0 (by decide) rfl) (CR hH 0 0 1 (by decide)) ?_
  refine g_aload_0 hX (dk DX11_needless 15 rfl) ?_
  refine g_getRs (r := 1) hX (dk DX11_needless 16 rfl) KX11 fX11_12 (by decide) rfl (CLt hH (q := 0) (by decide)) (CC hH 0 (by decide) rfl) (CR hH 0 0 1 (by decide)) ?_
  refine g_getIv hX (dk DX11_needless 17 rfl) KX5 fX11_109 (by decide) rfl (CLt hH (q := 1) (by decide)) (CC hH 1 (by decide) rfl) (hY.2.1.1.2.2.1) ?_
  refine g_iload_1 hX (dk DX11_needless 18 rfl) ?_
  refine g_iload_2 hX (dk DX11_needless 19 rfl) ?_
  refine g_c3I hX sX11_needless_38 (by decide) (Nat.le_of_ble_eq_true rfl) rcN (by decide) (by decide) (c_X11_withBit hG ) ?_
  refine g_putI hX (dk DX11_needless 21 rfl) KX5 fX11_109 (by decide) rfl (CLt hH (q := 1) (by decide)) (CC hH 1 (by decide) rfl) (Or.inl rfl) (rfl) (rfl) ?_
  refine g_iload_3 hX (dk DX11_needless 22 rfl) ?_
  refine g_ireturn hX (dk DX11_needless 23 rfl) rfl (rfl) (by decide) (by decide) ?_
  exact qX_of (needless_e hDD) (by exact hY.wN)

set_option maxRecDepth 8000 in
set_option maxHeartbeats 4000000 in
theorem z_needless {G : Gt} (hG : Gok G) {I : It} {h : Ht}  {E : It} {L : Nat → Int64} (hE : Inv E) (hY : RY E L I h) {a : Int32} (hno : ¬ isD E a) {z : Int32} : Con G (3) 0 0 mX11_needless [.ref 0, .int a, .int z] I h (qX (needlessS E a z) L (hn h)) := by
  refine con_intro (own := RX11) (lo0 := [some (.ref 0), some (.int a), some (.int z), none]) hG rfl pl_X11 (Nat.le_of_ble_eq_true rfl) rfl (fun X hX => ?_)
  have hW := hY.wx hE
  have hH := hW.1
  have hc10 := hW.2.1.2
  refine g_aload_0 hX (dk DX11_needless 0 rfl) ?_
  refine g_getRs (r := 1) hX (dk DX11_needless 1 rfl) KX11 fX11_12 (by decide) rfl (CLt hH (q := 0) (by decide)) (CC hH 0 (by decide) rfl) (CR hH 0 0 1 (by decide)) ?_
  refine g_iload_1 hX (dk DX11_needless 2 rfl) ?_
  refine g_c2R hX sX11_needless_5 (by decide) (Nat.le_of_ble_eq_true rfl) (rc0 rfl (CLt hH (by decide)) (CC hH 1 (by decide) rfl)) (by decide) (by decide) (c_X5_find0 hG hW (hY.no hE hno)) ?_
  refine g_ifnonnullN hX (dk DX11_needless 4 rfl) ?_
  refine g_iconst (v := -1) hX (dk DX11_needless 5 rfl) (by decide) ?_
  refine g_ireturn hX (dk DX11_needless 6 rfl) rfl (rfl) (by decide) (by decide) ?_
  exact qX_of (by unfold needlessS; rw [if_pos hno]) hY

theorem x_needless {G : Gt} (hG : Gok G) {I : It} {h : Ht} {E : It} {L : Nat → Int64} (hE : Inv E) (hY : RY E L I h) {a : Int32} {z : Int32} : Con G 3 0 0 mX11_needless [.ref 0, .int a, .int z] I h (qX (needlessS E a z) L (hn h)) := by
  by_cases hh : isD E a
  · obtain ⟨d, hd, rfl⟩ := isD_of hE hh
    exact y_needless hG hE hY hd (z := z)
  · exact z_needless hG hE hY hh (z := z)
set_option maxRecDepth 8000 in
set_option maxHeartbeats 4000000 in
theorem y_learn {G : Gt} (hG : Gok G) {I : It} {h : Ht}  {E : It} {L : Nat → Int64} (hE : Inv E) (hY : RY E L I h) {d : Nat} (hd : d < cnt E) {z : Int32} : Con G (3) 0 0 mX11_learn [.ref 0, .int (nI d), .int z] I h (qW (learnS E (nI d) z).2 L (hn h)) := by
  refine con_intro (own := RX11) (lo0 := [some (.ref 0), some (.int (nI d)), some (.int z), none]) hG rfl pl_X11 (Nat.le_of_ble_eq_true rfl) rfl (fun X hX => ?_)
  have hW := hY.wx hE
  have hH := hW.1
  have hc10 := hW.2.1.2
  have hd10 : d < 10 := Nat.lt_of_lt_of_le hd (inv_cnt hE).2
  have hcd : d < cN I := by rw [hY.cn]; exact hd
  have hDD := isD_mk hE hd
  obtain ⟨g1, g2, g3, g4, g5, g6, g7, g8, g9, g10⟩ := hY.d hd
  refine g_aload_0 hX (dk DX11_learn 0 rfl) ?_
  refine g_getRs (r := 1) hX (dk DX11_learn 1 rfl) KX11 fX11_12 (by decide) rfl (CLt hH (q := 0) (by decide)) (CC hH 0 (by decide) rfl) (CR hH 0 0 1 (by decide)) ?_
  refine g_iload_1 hX (dk DX11_learn 2 rfl) ?_
  refine g_c2R hX sX11_learn_5 (by decide) (Nat.le_of_ble_eq_true rfl) (rc0 rfl (CLt hH (by decide)) (CC hH 1 (by decide) rfl)) (by decide) (by decide) (c_X5_find hG hW (by exact hcd)) ?_
  refine g_ifnonnull (tgt := 13) hX (dk DX11_learn 4 rfl) (by decide) ?_
  refine g_aload_0 hX (dk DX11_learn 7 rfl) ?_
  refine g_getRs (r := 1) hX (dk DX11_learn 8 rfl) KX11 fX11_12 (by decide) rfl (CLt hH (q := 0) (by decide)) (CC hH 0 (by decide) rfl) (CR hH 0 0 1 (by decide)) ?_
  refine g_getI hX (dk DX11_learn 9 rfl) KX5 fX11_116 (by decide) rfl (CLt hH (q := 1) (by decide)) (CC hH 1 (by decide) rfl) ?_
  refine g_iload_1 hX (dk DX11_learn 10 rfl) ?_
  refine g_c2I hX sX11_learn_21 (by decide) (Nat.le_of_ble_eq_true rfl) rcN (by decide) (by decide) (c_X11_bit hG ) ?_
  refine g_istore_3 hX (dk DX11_learn 12 rfl) (by decide) rfl ?_
  refine g_aload_0 hX (dk DX11_learn 13 rfl) ?_
  refine g_getRs (r := 1) hX (dk DX11_learn 14 rfl) KX11 fX11_12 (by decide) rfl (CLt hH (q := 0) (by decide)) (CC hH 0 (by decide) rfl) (CR hH 0 0 1 (by decide)) ?_
  refine g_aload_0 hX (dk DX11_learn 15 rfl) ?_
  refine g_getRs (r := 1) hX (dk DX11_learn 16 rfl) KX11 fX11_12 (by decide) rfl (CLt hH (q := 0) (by decide)) (CC hH 0 (by decide) rfl) (CR hH 0 0 1 (by decide)) ?_
  refine g_getI hX (dk DX11_learn 17 rfl) KX5 fX11_116 (by decide) rfl (CLt hH (q := 1) (by decide)) (CC hH 1 (by decide) rfl) ?_
  refine g_iload_1 hX (dk DX11_learn 18 rfl) ?_
  refine g_iload_2 hX (dk DX11_learn 19 rfl) ?_
  refine g_c3I hX sX11_learn_38 (by decide) (Nat.le_of_ble_eq_true rfl) rcN (by decide) (by decide) (c_X11_withBit hG ) ?_
  refine g_putI hX (dk DX11_learn 21 rfl) KX5 fX11_116 (by decide) rfl (CLt hH (q := 1) (by decide)) (CC hH 1 (by decide) rfl) (Or.inl rfl) (rfl) (rfl) ?_
  refine g_iload_3 hX (dk DX11_learn 22 rfl) ?_
  refine g_ireturn hX (dk DX11_learn 23 rfl) rfl (rfl) (by decide) (by decide) ?_
  exact qW_of (by rw [learn_e hDD]; exact (hY.u1 (j := 3) (by decide)).f (by decide))

set_option maxRecDepth 8000 in
set_option maxHeartbeats 4000000 in
theorem z_learn {G : Gt} (hG : Gok G) {I : It} {h : Ht}  {E : It} {L : Nat → Int64} (hE : Inv E) (hY : RY E L I h) {a : Int32} (hno : ¬ isD E a) {z : Int32} : Con G (3) 0 0 mX11_learn [.ref 0, .int a, .int z] I h (qW (learnS E a z).2 L (hn h)) := by
  refine con_intro (own := RX11) (lo0 := [some (.ref 0), some (.int a), some (.int z), none]) hG rfl pl_X11 (Nat.le_of_ble_eq_true rfl) rfl (fun X hX => ?_)
  have hW := hY.wx hE
  have hH := hW.1
  have hc10 := hW.2.1.2
  refine g_aload_0 hX (dk DX11_learn 0 rfl) ?_
  refine g_getRs (r := 1) hX (dk DX11_learn 1 rfl) KX11 fX11_12 (by decide) rfl (CLt hH (q := 0) (by decide)) (CC hH 0 (by decide) rfl) (CR hH 0 0 1 (by decide)) ?_
  refine g_iload_1 hX (dk DX11_learn 2 rfl) ?_
  refine g_c2R hX sX11_learn_5 (by decide) (Nat.le_of_ble_eq_true rfl) (rc0 rfl (CLt hH (by decide)) (CC hH 1 (by decide) rfl)) (by decide) (by decide) (c_X5_find0 hG hW (hY.no hE hno)) ?_
  refine g_ifnonnullN hX (dk DX11_learn 4 rfl) ?_
  refine g_iconst (v := -1) hX (dk DX11_learn 5 rfl) (by decide) ?_
  refine g_ireturn hX (dk DX11_learn 6 rfl) rfl (rfl) (by decide) (by decide) ?_
  exact qW_of (by unfold learnS; rw [if_pos hno]; exact hY)

theorem x_learn {G : Gt} (hG : Gok G) {I : It} {h : Ht} {E : It} {L : Nat → Int64} (hE : Inv E) (hY : RY E L I h) {a : Int32} {z : Int32} : Con G 3 0 0 mX11_learn [.ref 0, .int a, .int z] I h (qW (learnS E a z).2 L (hn h)) := by
  by_cases hh : isD E a
  · obtain ⟨d, hd, rfl⟩ := isD_of hE hh
    exact y_learn hG hE hY hd (z := z)
  · exact z_learn hG hE hY hh (z := z)
set_option maxRecDepth 8000 in
set_option maxHeartbeats 4000000 in
theorem y_odds {G : Gt} (hG : Gok G) {I : It} {h : Ht}  {E : It} {L : Nat → Int64} (hE : Inv E) (hY : RY E L I h) {d : Nat} (hd : d < cnt E) {n : Int32} : Con G (3) 0 0 mX11_odds [.ref 0, .int (nI d), .int n] I h (qX (oddsS E (nI d) n) L (hn h)) := by
  refine con_intro (own := RX11) (lo0 := [some (.ref 0), some (.int (nI d)), some (.int n), none, none]) hG rfl pl_X11 (Nat.le_of_ble_eq_true rfl) rfl (fun X hX => ?_)
  have hW := hY.wx hE
  have hH := hW.1
  have hc10 := hW.2.1.2
  have hd10 : d < 10 := Nat.lt_of_lt_of_le hd (inv_cnt hE).2
  have hcd : d < cN I := by rw [hY.cn]; exact hd
  have hDD := isD_mk hE hd
  obtain ⟨g1, g2, g3, g4, g5, g6, g7, g8, g9, g10⟩ := hY.d hd
  refine g_aload_0 hX (dk DX11_odds 0 rfl) ?_
  refine g_getRs (r := 1) hX (dk DX11_odds 1 rfl) KX11 fX11_12 (by decide) rfl (CLt hH (q := 0) (by decide)) (CC hH 0 (by decide) rfl) (CR hH 0 0 1 (by decide)) ?_
  refine g_iload_1 hX (dk DX11_odds 2 rfl) ?_
  refine g_c2R hX sX11_odds_5 (by decide) (Nat.le_of_ble_eq_true rfl) (rc0 rfl (CLt hH (by decide)) (CC hH 1 (by decide) rfl)) (by decide) (by decide) (c_X5_find hG hW (by exact hcd)) ?_
  refine g_astore_3 hX (dk DX11_odds 4 rfl) (by decide) rfl ?_
  refine g_aload_3 hX (dk DX11_odds 5 rfl) ?_
  refine g_ifnonnull (tgt := 15) hX (dk DX11_odds 6 rfl) (by decide) ?_
  refine g_iload_2 hX (dk DX11_odds 9 rfl) ?_
  refine g_iconst (v := 0) hX (dk DX11_odds 10 rfl) (by decide) ?_
  refine g_bipush (v := 10) hX (dk DX11_odds 11 rfl) (by decide) ?_
  refine g_c3I hX sX11_odds_19 (by decide) (Nat.le_of_ble_eq_true rfl) rcN (by decide) (by decide) (c_X11_isNot hG ) ?_
  refine g_ifb_eq (tgt := 28) hX (dk DX11_odds 13 rfl) (by decide) (fun hc1 => ?_) (fun hc1 => ?_)
  · refine g_aload_0 hX (dk DX11_odds 16 rfl) ?_
    refine g_getRs (r := 1) hX (dk DX11_odds 17 rfl) KX11 fX11_12 (by decide) rfl (CLt hH (q := 0) (by decide)) (CC hH 0 (by decide) rfl) (CR hH 0 0 1 (by decide)) ?_
    refine g_getRs (r := 3) hX (dk DX11_odds 18 rfl) KX5 fX11_129 (by decide) rfl (CLt hH (q := 1) (by decide)) (CC hH 1 (by decide) rfl) (CR hH 1 1 3 (by decide)) ?_
    refine g_aload_3 hX (dk DX11_odds 19 rfl) ?_
    refine g_getD (v := (nI d)) hX (dk DX11_odds 20 rfl) fX11_132 (by decide) g3 (by rw [g4]; exact kcl_dc _) (g5) ?_
    refine v_iaload hX (dk DX11_odds 21 rfl) (CLt hH (q := 3) (by decide)) (CS hH 3 (by decide) rfl) (⟨rfl, hd10, by decide⟩) (hY.2.1.2.1 d hd10) ?_
    refine g_istore_4 hX (dk DX11_odds 22 rfl) (by decide) rfl ?_
    refine g_aload_0 hX (dk DX11_odds 23 rfl) ?_
    refine g_getRs (r := 1) hX (dk DX11_odds 24 rfl) KX11 fX11_12 (by decide) rfl (CLt hH (q := 0) (by decide)) (CC hH 0 (by decide) rfl) (CR hH 0 0 1 (by decide)) ?_
    refine g_getRs (r := 3) hX (dk DX11_odds 25 rfl) KX5 fX11_129 (by decide) rfl (CLt hH (q := 1) (by decide)) (CC hH 1 (by decide) rfl) (CR hH 1 1 3 (by decide)) ?_
    refine g_aload_3 hX (dk DX11_odds 26 rfl) ?_
    refine g_getD (v := (nI d)) hX (dk DX11_odds 27 rfl) fX11_132 (by decide) g3 (by rw [g4]; exact kcl_dc _) (g5) ?_
    refine g_iload_2 hX (dk DX11_odds 28 rfl) ?_
    refine i_iastore hX (dk DX11_odds 29 rfl) (CLt hH (q := 3) (by decide)) (CS hH 3 (by decide) rfl) (⟨rfl, hd10, by decide⟩) ?_
    refine g_iload_4 hX (dk DX11_odds 30 rfl) ?_
    refine g_ireturn hX (dk DX11_odds 31 rfl) rfl (rfl) (by decide) (by decide) ?_
    exact qX_of (by unfold oddsS; rw [if_neg (not_not_intro hDD)]; (try first | rw [if_pos hc1] | rw [if_neg hc1] | rw [if_neg (not_not_intro hc1)]); first | done | rfl | (first | rw [tN_nI (by omega)] | (rw [tN_nI (by omega)]; rfl))) hY.wO
  · refine g_bipush (v := -2) hX (dk DX11_odds 14 rfl) (by decide) ?_
    refine g_ireturn hX (dk DX11_odds 15 rfl) rfl (rfl) (by decide) (by decide) ?_
    exact qX_of (by unfold oddsS; rw [if_neg (not_not_intro hDD)]; (try first | rw [if_pos hc1] | rw [if_neg hc1] | rw [if_neg (not_not_intro hc1)]); first | done | rfl | (first | rw [tN_nI (by omega)] | (rw [tN_nI (by omega)]; rfl))) hY

set_option maxRecDepth 8000 in
set_option maxHeartbeats 4000000 in
theorem z_odds {G : Gt} (hG : Gok G) {I : It} {h : Ht}  {E : It} {L : Nat → Int64} (hE : Inv E) (hY : RY E L I h) {a : Int32} (hno : ¬ isD E a) {n : Int32} : Con G (3) 0 0 mX11_odds [.ref 0, .int a, .int n] I h (qX (oddsS E a n) L (hn h)) := by
  refine con_intro (own := RX11) (lo0 := [some (.ref 0), some (.int a), some (.int n), none, none]) hG rfl pl_X11 (Nat.le_of_ble_eq_true rfl) rfl (fun X hX => ?_)
  have hW := hY.wx hE
  have hH := hW.1
  have hc10 := hW.2.1.2
  refine g_aload_0 hX (dk DX11_odds 0 rfl) ?_
  refine g_getRs (r := 1) hX (dk DX11_odds 1 rfl) KX11 fX11_12 (by decide) rfl (CLt hH (q := 0) (by decide)) (CC hH 0 (by decide) rfl) (CR hH 0 0 1 (by decide)) ?_
  refine g_iload_1 hX (dk DX11_odds 2 rfl) ?_
  refine g_c2R hX sX11_odds_5 (by decide) (Nat.le_of_ble_eq_true rfl) (rc0 rfl (CLt hH (by decide)) (CC hH 1 (by decide) rfl)) (by decide) (by decide) (c_X5_find0 hG hW (hY.no hE hno)) ?_
  refine g_astoreN_3 hX (dk DX11_odds 4 rfl) (by decide) rfl ?_
  refine g_aloadN_3 hX (dk DX11_odds 5 rfl) ?_
  refine g_ifnonnullN hX (dk DX11_odds 6 rfl) ?_
  refine g_iconst (v := -1) hX (dk DX11_odds 7 rfl) (by decide) ?_
  refine g_ireturn hX (dk DX11_odds 8 rfl) rfl (rfl) (by decide) (by decide) ?_
  exact qX_of (by unfold oddsS; rw [if_pos hno]) hY

theorem x_odds {G : Gt} (hG : Gok G) {I : It} {h : Ht} {E : It} {L : Nat → Int64} (hE : Inv E) (hY : RY E L I h) {a : Int32} {n : Int32} : Con G 3 0 0 mX11_odds [.ref 0, .int a, .int n] I h (qX (oddsS E a n) L (hn h)) := by
  by_cases hh : isD E a
  · obtain ⟨d, hd, rfl⟩ := isD_of hE hh
    exact y_odds hG hE hY hd (n := n)
  · exact z_odds hG hE hY hh (n := n)
set_option maxRecDepth 8000 in
set_option maxHeartbeats 4000000 in
theorem x_hours {G : Gt} (hG : Gok G) {I : It} {h : Ht}  {E : It} {L : Nat → Int64} (hE : Inv E) (hY : RY E L I h) {a n : Int32} : Con G (3) 0 0 mX11_hours [.ref 0, .int a, .int n] I h (qX (hoursS E a n) L (hn h)) := by
  refine con_intro (own := RX11) (lo0 := [some (.ref 0), some (.int a), some (.int n), none]) hG rfl pl_X11 (Nat.le_of_ble_eq_true rfl) rfl (fun X hX => ?_)
  have hW := hY.wx hE
  have hH := hW.1
  have hc10 := hW.2.1.2
  refine g_iload_1 hX (dk DX11_hours 0 rfl) ?_
  refine g_iconst (v := 0) hX (dk DX11_hours 1 rfl) (by decide) ?_
  refine g_iconst (v := 3) hX (dk DX11_hours 2 rfl) (by decide) ?_
  refine g_c3I hX sX11_hours_3 (by decide) (Nat.le_of_ble_eq_true rfl) rcN (by decide) (by decide) (c_X11_isNot hG ) ?_
  refine g_ifb_eq (tgt := 11) hX (dk DX11_hours 4 rfl) (by decide) (fun hc1 => ?_) (fun hc1 => ?_)
  · refine g_iload_2 hX (dk DX11_hours 7 rfl) ?_
    refine g_iconst (v := 0) hX (dk DX11_hours 8 rfl) (by decide) ?_
    refine g_bipush (v := 9) hX (dk DX11_hours 9 rfl) (by decide) ?_
    refine g_c3I hX sX11_hours_15 (by decide) (Nat.le_of_ble_eq_true rfl) rcN (by decide) (by decide) (c_X11_isNot hG ) ?_
    refine g_ifb_eq (tgt := 24) hX (dk DX11_hours 11 rfl) (by decide) (fun hc2 => ?_) (fun hc2 => ?_)
    · obtain ⟨y, hy, rfl⟩ := in_of (b := 3) (by decide) (Decidable.not_not.mp hc1)
      refine g_aload_0 hX (dk DX11_hours 14 rfl) ?_
      refine g_getRs (r := 1) hX (dk DX11_hours 15 rfl) KX11 fX11_12 (by decide) rfl (CLt hH (q := 0) (by decide)) (CC hH 0 (by decide) rfl) (CR hH 0 0 1 (by decide)) ?_
      refine g_getRs (r := 4) hX (dk DX11_hours 16 rfl) KX5 fX11_139 (by decide) rfl (CLt hH (q := 1) (by decide)) (CC hH 1 (by decide) rfl) (CR hH 1 5 4 (by decide)) ?_
      refine g_iload_1 hX (dk DX11_hours 17 rfl) ?_
      refine v_iaload hX (dk DX11_hours 18 rfl) (CLt hH (q := 4) (by decide)) (CS hH 4 (by decide) rfl) (⟨rfl, by omega, by decide⟩) (hY.2.1.2.2.1 y (by omega)) ?_
      refine g_istore_3 hX (dk DX11_hours 19 rfl) (by decide) rfl ?_
      refine g_aload_0 hX (dk DX11_hours 20 rfl) ?_
      refine g_getRs (r := 1) hX (dk DX11_hours 21 rfl) KX11 fX11_12 (by decide) rfl (CLt hH (q := 0) (by decide)) (CC hH 0 (by decide) rfl) (CR hH 0 0 1 (by decide)) ?_
      refine g_getRs (r := 4) hX (dk DX11_hours 22 rfl) KX5 fX11_139 (by decide) rfl (CLt hH (q := 1) (by decide)) (CC hH 1 (by decide) rfl) (CR hH 1 5 4 (by decide)) ?_
      refine g_iload_1 hX (dk DX11_hours 23 rfl) ?_
      refine g_iload_2 hX (dk DX11_hours 24 rfl) ?_
      refine i_iastore hX (dk DX11_hours 25 rfl) (CLt hH (q := 4) (by decide)) (CS hH 4 (by decide) rfl) (⟨rfl, by omega, by decide⟩) ?_
      refine g_iload_3 hX (dk DX11_hours 26 rfl) ?_
      refine g_ireturn hX (dk DX11_hours 27 rfl) rfl (rfl) (by decide) (by decide) ?_
      exact qX_of (by unfold hoursS; (try first | rw [if_pos hc1] | rw [if_neg hc1] | rw [if_neg (not_not_intro hc1)]); (try first | rw [if_pos hc2] | rw [if_neg hc2] | rw [if_neg (not_not_intro hc2)]); rw [tN_nI (by omega)]) (by exact hY.wH)
    · refine g_bipush (v := -2) hX (dk DX11_hours 12 rfl) (by decide) ?_
      refine g_ireturn hX (dk DX11_hours 13 rfl) rfl (rfl) (by decide) (by decide) ?_
      exact qX_of (by unfold hoursS; (try first | rw [if_pos hc1] | rw [if_neg hc1] | rw [if_neg (not_not_intro hc1)]); (try first | rw [if_pos hc2] | rw [if_neg hc2] | rw [if_neg (not_not_intro hc2)]); first | done | rfl) hY
  · refine g_iconst (v := -1) hX (dk DX11_hours 5 rfl) (by decide) ?_
    refine g_ireturn hX (dk DX11_hours 6 rfl) rfl (rfl) (by decide) (by decide) ?_
    exact qX_of (by unfold hoursS; (try first | rw [if_pos hc1] | rw [if_neg hc1] | rw [if_neg (not_not_intro hc1)]); first | done | rfl) hY

set_option maxRecDepth 8000 in
set_option maxHeartbeats 4000000 in
theorem x_trace {G : Gt} (hG : Gok G) {I : It} {h : Ht}  {E : It} {L : Nat → Int64} (hE : Inv E) (hY : RY E L I h) {a : Int32} : Con G (1) 0 0 mX11_trace [.ref 0, .int a] I h (qX (traceS E a) L (hn h)) := by
  refine con_intro (own := RX11) (lo0 := [some (.ref 0), some (.int a)]) hG rfl pl_X11 (Nat.le_of_ble_eq_true rfl) rfl (fun X hX => ?_)
  have hW := hY.wx hE
  have hH := hW.1
  have hc10 := hW.2.1.2
  refine g_iload_1 hX (dk DX11_trace 0 rfl) ?_
  refine g_if_lt (tgt := 27) hX (dk DX11_trace 1 rfl) (by decide) (fun hc1 => ?_) (fun hc1 => ?_)
  · refine g_iconst (v := -1) hX (dk DX11_trace 13 rfl) (by decide) ?_
    refine g_ireturn hX (dk DX11_trace 14 rfl) rfl (rfl) (by decide) (by decide) ?_
    first
    | exact qX_of (by unfold traceS; rw [if_pos (fun z => Int32.not_lt.mpr z.1 (show a < 0 by assumption))]) hY
    | exact qX_of (by unfold traceS; rw [if_pos (fun z => absurd (Int32.le_trans (Int32.not_lt.mp (show ¬ a < 20 by assumption)) z.2) (by decide))]) hY
    | exact qX_of (by unfold traceS; split <;> first | rfl | rw [if_pos (show E 0 67 ≤ a by assumption)]) hY
  · refine g_iload_1 hX (dk DX11_trace 2 rfl) ?_
    refine g_aload_0 hX (dk DX11_trace 3 rfl) ?_
    refine g_getRs (r := 32) hX (dk DX11_trace 4 rfl) KX11 fX11_43 (by decide) rfl (CLt hH (q := 0) (by decide)) (CC hH 0 (by decide) rfl) (CR hH 0 8 32 (by decide)) ?_
    refine g_getIv hX (dk DX11_trace 5 rfl) KX7 fX11_258 (by decide) rfl (CLt hH (q := 32) (by decide)) (CC hH 32 (by decide) rfl) (hY.2.2.2.2.2.1.1) ?_
    refine g_icmp_ge (tgt := 27) hX (dk DX11_trace 6 rfl) (by decide) (fun hc2 => ?_) (fun hc2 => ?_)
    · refine g_iconst (v := -1) hX (dk DX11_trace 13 rfl) (by decide) ?_
      refine g_ireturn hX (dk DX11_trace 14 rfl) rfl (rfl) (by decide) (by decide) ?_
      first
      | exact qX_of (by unfold traceS; rw [if_pos (fun z => Int32.not_lt.mpr z.1 (show a < 0 by assumption))]) hY
      | exact qX_of (by unfold traceS; rw [if_pos (fun z => absurd (Int32.le_trans (Int32.not_lt.mp (show ¬ a < 20 by assumption)) z.2) (by decide))]) hY
      | exact qX_of (by unfold traceS; split <;> first | rfl | rw [if_pos (show E 0 67 ≤ a by assumption)]) hY
    · refine g_iload_1 hX (dk DX11_trace 7 rfl) ?_
      refine g_aload_0 hX (dk DX11_trace 8 rfl) ?_
      refine g_getRs (r := 32) hX (dk DX11_trace 9 rfl) KX11 fX11_43 (by decide) rfl (CLt hH (q := 0) (by decide)) (CC hH 0 (by decide) rfl) (CR hH 0 8 32 (by decide)) ?_
      refine g_getRs (r := 33) hX (dk DX11_trace 10 rfl) KX7 fX11_271 (by decide) rfl (CLt hH (q := 32) (by decide)) (CC hH 32 (by decide) rfl) (CR hH 32 0 33 (by decide)) ?_
      refine g_alen (v := 20) hX (dk DX11_trace 11 rfl) (CLt hH (q := 33) (by decide)) (CS hH 33 (by decide) rfl) (by decide) (i0 := 0) rfl (by decide) ?_
      refine g_icmp_lt (tgt := 29) hX (dk DX11_trace 12 rfl) (by decide) (fun hc3 => ?_) (fun hc3 => ?_)
      · have hix : idx a (tN a) 20 := here_ix20 (by assumption) hc3
        refine g_aload_0 hX (dk DX11_trace 15 rfl) ?_
        refine g_getRs (r := 32) hX (dk DX11_trace 16 rfl) KX11 fX11_43 (by decide) rfl (CLt hH (q := 0) (by decide)) (CC hH 0 (by decide) rfl) (CR hH 0 8 32 (by decide)) ?_
        refine g_getRs (r := 33) hX (dk DX11_trace 17 rfl) KX7 fX11_271 (by decide) rfl (CLt hH (q := 32) (by decide)) (CC hH 32 (by decide) rfl) (CR hH 32 0 33 (by decide)) ?_
        refine g_iload_1 hX (dk DX11_trace 18 rfl) ?_
        refine v_iaload hX (dk DX11_trace 19 rfl) (CLt hH (q := 33) (by decide)) (CS hH 33 (by decide) rfl) (hix) (hY.2.2.2.2.2.1.2 (tN a) hix.2.1) ?_
        refine g_ireturn hX (dk DX11_trace 20 rfl) rfl (rfl) (by decide) (by decide) ?_
        exact qX_of (by unfold traceS; rw [if_neg (not_not_intro ⟨Int32.not_lt.mp (by assumption), lt20_le hix⟩), if_neg (by assumption)]) hY
      · refine g_iconst (v := -1) hX (dk DX11_trace 13 rfl) (by decide) ?_
        refine g_ireturn hX (dk DX11_trace 14 rfl) rfl (rfl) (by decide) (by decide) ?_
        first
        | exact qX_of (by unfold traceS; rw [if_pos (fun z => Int32.not_lt.mpr z.1 (show a < 0 by assumption))]) hY
        | exact qX_of (by unfold traceS; rw [if_pos (fun z => absurd (Int32.le_trans (Int32.not_lt.mp (show ¬ a < 20 by assumption)) z.2) (by decide))]) hY
        | exact qX_of (by unfold traceS; split <;> first | rfl | rw [if_pos (show E 0 67 ≤ a by assumption)]) hY
end
section
/-! weeks: floor modulus against the reference's search -/
theorem xor_neg {x y : Int32} (hx : x < 0) (hy : 0 ≤ y) : ¬ 0 ≤ x ^^^ y := by
  intro h
  have h1 : (x ^^^ y).toBitVec.msb = (x.toBitVec.msb ^^ y.toBitVec.msb) := by rw [Int32.toBitVec_xor]; exact BitVec.msb_xor
  rw [BitVec.msb_eq_toInt, BitVec.msb_eq_toInt, BitVec.msb_eq_toInt] at h1
  have z0 : (0 : Int32).toInt = 0 := by decide
  have a1 : x.toBitVec.toInt < 0 := by have := Int32.lt_iff_toInt_lt.mp hx; rw [z0] at this; exact this
  have a2 : ¬ y.toBitVec.toInt < 0 := by have := Int32.le_iff_toInt_le.mp hy; rw [z0] at this; exact Int.not_lt.mpr this
  have a3 : ¬ (x ^^^ y).toBitVec.toInt < 0 := by have := Int32.le_iff_toInt_le.mp h; rw [z0] at this; exact Int.not_lt.mpr this
  rw [decide_eq_false a3, decide_eq_true a1, decide_eq_false a2] at h1
  exact absurd h1 (by decide)
theorem bm_in {x : Int} (h1 : -2147483648 ≤ x) (h2 : x < 2147483648) : x.bmod (2 ^ 32) = x := Int.bmod_eq_of_le (by omega) (by omega)
theorem rem_neg {k r : Nat} (hk : k ≤ 20000) (h0 : 0 < r) (hr : r ≤ 60) : (remI (nI 0 - nI k) (nI r)).toInt = -((k % r : Nat) : Int) := by
  have e1 : (nI 0 - nI k).toInt = -(k : Int) := by
    rw [Int32.toInt_sub, nI_toInt (by decide), nI_toInt (by omega), bm_in (by omega) (by omega)]; omega
  have hd : k / r ≤ k := Nat.div_le_self _ _
  have e2 : ((nI 0 - nI k) / nI r).toInt = -((k / r : Nat) : Int) := by
    have hc : ((k : Int) / (r : Int)) = ((k / r : Nat) : Int) := rfl
    rw [Int32.toInt_div, e1, nI_toInt (by omega), Int.neg_tdiv, Int.tdiv_eq_ediv_of_nonneg (by omega), hc]
    generalize k / r = q at hd
    exact bm_in (by omega) (by omega)
  have hm : (k / r) * r ≤ k := Nat.div_mul_le_self _ _
  have hmod : (k / r) * r + k % r = k := by rw [Nat.mul_comm]; exact Nat.div_add_mod k r
  have e3 : ((nI 0 - nI k) / nI r * nI r).toInt = -(((k / r) * r : Nat) : Int) := by
    rw [Int32.toInt_mul, e2, nI_toInt (by omega), Int.neg_mul, ← Int.natCast_mul, bm_in (by omega) (by omega)]
  unfold remI
  rw [Int32.toInt_sub, e1, e3, bm_in (by omega) (by omega)]
  omega
theorem fm_pw {p r w : Nat} (hp : p < r) (hr : r ≤ 60) (hw : w ≤ 20000) : fmI (nI p - nI w) (nI r) = nI ((p + (r - w % r)) % r) := by
  have hwr : w % r < r := Nat.mod_lt _ (by omega)
  rcases Nat.lt_or_ge p w with z | z
  · have ex : nI p - nI w = nI 0 - nI (w - p) := by
      apply Int32.toInt_inj.mp
      rw [Int32.toInt_sub, Int32.toInt_sub, nI_toInt (by omega), nI_toInt (by omega), nI_toInt (by decide), nI_toInt (by omega), bm_in (by omega) (by omega), bm_in (by omega) (by omega)]
      omega
    have hneg : nI p - nI w < 0 := by
      rw [ex, Int32.lt_iff_toInt_lt, Int32.toInt_sub, nI_toInt (by decide), nI_toInt (by omega), bm_in (by omega) (by omega)]
      show _ < (0 : Int32).toInt
      have : (0 : Int32).toInt = 0 := by decide
      omega
    have hrem := rem_neg (k := w - p) (by omega) (show 0 < r by omega) hr
    rw [← ex] at hrem
    have hkr : (w - p) % r < r := Nat.mod_lt _ (by omega)
    have key : (p + (r - w % r)) % r = if (w - p) % r = 0 then 0 else r - (w - p) % r := by
      have h1 := Nat.div_add_mod w r
      have h2 := Nat.div_add_mod (w - p) r
      rcases Nat.lt_or_ge p (w % r) with q | q
      · have e : (w - p) % r = w % r - p := by
          rw [show w - p = (w % r - p) + r * (w / r) by omega, Nat.add_mul_mod_self_left, Nat.mod_eq_of_lt (by omega)]
        rw [e, if_neg (by omega), Nat.mod_eq_of_lt (by omega)]
        omega
      · rw [show p + (r - w % r) = (p - w % r) + r by omega, Nat.add_mod_right, Nat.mod_eq_of_lt (by omega)]
        by_cases q0 : p = w % r
        · have e : (w - p) % r = 0 := by rw [show w - p = r * (w / r) by omega, Nat.mul_mod_right]
          rw [e, if_pos rfl]; omega
        · have hq1 : 1 ≤ w / r := by
            rcases Nat.eq_zero_or_pos (w / r) with y | y
            · rw [y] at h1; omega
            · exact y
          have hmul : r * (w / r) = r * (w / r - 1) + r := by
            have : w / r = (w / r - 1) + 1 := by omega
            rw [this, Nat.mul_add, Nat.mul_one, Nat.add_sub_cancel]
          have e : (w - p) % r = r - (p - w % r) := by
            rw [show w - p = (r - (p - w % r)) + r * (w / r - 1) by omega, Nat.add_mul_mod_self_left, Nat.mod_eq_of_lt (by omega)]
          rw [e, if_neg (by omega)]; omega
    unfold fmI
    rw [if_neg (xor_neg hneg (nI_pos' (by omega))), key]
    by_cases hz : (w - p) % r = 0
    · have : remI (nI p - nI w) (nI r) = 0 := by
        apply Int32.toInt_inj.mp
        rw [hrem, hz]; rfl
      rw [this, if_pos rfl, if_pos hz]; rfl
    · have hne : ¬ remI (nI p - nI w) (nI r) = 0 := by
        intro y
        rw [y] at hrem
        have : (0 : Int32).toInt = 0 := by decide
        omega
      rw [if_neg hne, if_neg hz]
      apply Int32.toInt_inj.mp
      rw [Int32.toInt_add, hrem, nI_toInt (by omega), nI_toInt (by omega), bm_in (by omega) (by omega)]
      omega
  · rw [pk_sub z, fm_nI (by omega) (by omega) (by omega)]
    have : w % r = w := Nat.mod_eq_of_lt (by omega)
    rw [this, show p + (r - w) = (p - w) + r by omega, Nat.add_mod_right]
/-- in how many weeks from w on d comes first -/
def wu (E : It) (d w : Nat) : Nat := (tN (E 4 d) + (tN (E 3 d) - w % tN (E 3 d))) % tN (E 3 d)
theorem wu_lt {p r w : Nat} (hp : p < r) : (p + (r - w % r)) % r < r := Nat.mod_lt _ (by omega)
theorem wu_hit {p r w : Nat} (hp : p < r) : (w + (p + (r - w % r)) % r) % r = p := by
  have h1 : w % r < r := Nat.mod_lt _ (by omega)
  rcases Nat.lt_or_ge p (w % r) with z | z
  · rw [Nat.mod_eq_of_lt (show p + (r - w % r) < r by omega), Nat.add_mod, Nat.mod_eq_of_lt (show p + (r - w % r) < r by omega), show w % r + (p + (r - w % r)) = p + r by omega, Nat.add_mod_right, Nat.mod_eq_of_lt hp]
  · rw [show p + (r - w % r) = (p - w % r) + r by omega, Nat.add_mod_right, Nat.mod_eq_of_lt (show p - w % r < r by omega), Nat.add_mod, Nat.mod_eq_of_lt (show p - w % r < r by omega), show w % r + (p - w % r) = p by omega, Nat.mod_eq_of_lt hp]
theorem wu_no {p r w j : Nat} (hp : p < r) (hj : j < (p + (r - w % r)) % r) : (w + j) % r ≠ p := by
  have h1 : w % r < r := Nat.mod_lt _ (by omega)
  have h2 := wu_lt (w := w) hp
  intro e
  have h3 := wu_hit (w := w) hp
  have hjr : j < r := by omega
  rcases Nat.lt_or_ge (w % r + j) r with q | q
  · rw [Nat.add_mod, Nat.mod_eq_of_lt hjr, Nat.mod_eq_of_lt q] at e
    rw [show p + (r - w % r) = j + r by omega, Nat.add_mod_right, Nat.mod_eq_of_lt hjr] at hj
    omega
  · rw [Nat.add_mod, Nat.mod_eq_of_lt hjr, Nat.mod_eq_sub_mod q, Nat.mod_eq_of_lt (show w % r + j - r < r by omega)] at e
    rw [show p + (r - w % r) = j by omega, Nat.mod_eq_of_lt hjr] at hj
    omega
theorem d_rp {E : It} (hE : Inv E) {d : Nat} (hd : d < cnt E) : ∃ r p, 1 ≤ r ∧ r ≤ 60 ∧ p < r ∧ E 3 d = nI r ∧ E 4 d = nI p ∧ tN (E 3 d) = r ∧ tN (E 4 d) = p := by
  obtain ⟨-, -, ⟨r, r1, r2, er, p, hp, ep⟩, -⟩ := inv_d hE hd
  exact ⟨r, p, r1, r2, hp, er, ep, by rw [er, tN_nI (by omega)], by rw [ep, tN_nI (by omega)]⟩
theorem wu_fm {E : It} (hE : Inv E) {d : Nat} (hd : d < cnt E) {w : Nat} (hw : w ≤ 20000) : fmI (E 4 d - nI w) (E 3 d) = nI (wu E d w) ∧ wu E d w < 60 := by
  obtain ⟨r, p, r1, r2, hp, er, ep, er2, ep2⟩ := d_rp hE hd
  unfold wu
  rw [er2, ep2, er, ep]
  exact ⟨fm_pw hp r2 hw, by have := wu_lt (w := w) hp; omega⟩
theorem wu_rem {E : It} (hE : Inv E) {d : Nat} (hd : d < cnt E) {w : Nat} (hw : w ≤ 20000) (j : Nat) (hj : w + j ≤ 30000) : (remI (nI (w + j)) (E 3 d) = E 4 d) ↔ (w + j) % tN (E 3 d) = tN (E 4 d) := by
  obtain ⟨r, p, r1, r2, hp, er, ep, er2, ep2⟩ := d_rp hE hd
  rw [er2, ep2, er, ep, rem_nI (by omega) (by omega) (by omega)]
  have := Nat.mod_lt (w + j) (show 0 < r by omega)
  exact nI_eq (by omega) (by omega)
theorem wu_at {E : It} (hE : Inv E) {d : Nat} (hd : d < cnt E) {w : Nat} (hw : w ≤ 20000) : remI (nI (w + wu E d w)) (E 3 d) = E 4 d := by
  have h60 := (wu_fm hE hd hw).2
  refine (wu_rem hE hd hw _ (by omega)).mpr ?_
  obtain ⟨r, p, r1, r2, hp, er, ep, er2, ep2⟩ := d_rp hE hd
  unfold wu
  rw [er2, ep2]
  exact wu_hit hp
theorem wu_bf {E : It} (hE : Inv E) {d : Nat} (hd : d < cnt E) {w : Nat} (hw : w ≤ 20000) {j : Nat} (hj : j < wu E d w) : ¬ remI (nI (w + j)) (E 3 d) = E 4 d := by
  have h60 := (wu_fm hE hd hw).2
  intro e
  have e2 := (wu_rem hE hd hw j (by omega)).mp e
  obtain ⟨r, p, r1, r2, hp, er, ep, er2, ep2⟩ := d_rp hE hd
  unfold wu at hj
  rw [er2, ep2] at e2 hj
  exact wu_no hp hj e2
theorem wu_0 {E : It} (hE : Inv E) {d : Nat} (hd : d < cnt E) {w : Nat} (hw : w ≤ 20000) : (nI (wu E d w) = 0) ↔ remI (nI w) (E 3 d) = E 4 d := by
  have h60 := (wu_fm hE hd hw).2
  constructor
  · intro e
    have e0 : wu E d w = 0 := (nI_eq (b := 0) (by omega) (by decide)).mp e
    have := wu_at hE hd hw
    rw [e0] at this
    exact this
  · intro e
    rcases Nat.eq_zero_or_pos (wu E d w) with z | z
    · rw [z]; rfl
    · have h0 := wu_bf hE hd hw (j := 0) z
      rw [Nat.add_zero] at h0
      exact absurd e h0
theorem whR_hit {E : It} {d : Nat} : ∀ (k w j : Nat), j < k → remI (nI (w + j)) (E 3 d) = E 4 d → (∀ i, i < j → ¬ remI (nI (w + i)) (E 3 d) = E 4 d) → whR E d k w = w + j := by
  intro k
  induction k with
  | zero => intro w j hj; omega
  | succ k ih =>
    intro w j hj h1 h2
    rw [whR_s]
    cases j with
    | zero =>
      rw [Nat.add_zero] at h1
      rw [if_pos h1, Nat.add_zero]
    | succ j =>
      have h20 := h2 0 (by omega)
      rw [Nat.add_zero] at h20
      rw [if_neg h20, ih (w + 1) j (by omega) (by rw [show w + 1 + j = w + (j + 1) by omega]; exact h1) (fun i hi => by rw [show w + 1 + i = w + (i + 1) by omega]; exact h2 (i + 1) (by omega))]
      omega
theorem when_e {E : It} (hE : Inv E) {d : Nat} (hd : d < cnt E) : E 0 1 + fmI (E 4 d - E 0 1) (E 3 d) = nI (whR E d 60 (wk E)) := by
  obtain ⟨ew, hw⟩ := inv_wk hE
  have hw2 : wk E ≤ 20000 := by omega
  rw [ew, (wu_fm hE hd hw2).1, nI_add, whR_hit 60 (wk E) (wu E d (wk E)) (wu_fm hE hd hw2).2 (wu_at hE hd hw2) (fun i hi => wu_bf hE hd hw2 hi)]
theorem r_12 {r : Nat} (h : r ≤ 12) (h2 : ¬ nI r < 12) : nI r = 12 := by
  rcases Nat.lt_or_ge r 12 with z | z
  · exact absurd (nI_lt z (by decide)) h2
  · have : r = 12 := by omega
    subst this
    rfl

set_option maxRecDepth 8000 in
set_option maxHeartbeats 4000000 in
theorem y_when {G : Gt} (hG : Gok G) {I : It} {h : Ht}  {E : It} {L : Nat → Int64} (hE : Inv E) (hY : RY E L I h) {d : Nat} (hd : d < cnt E)  : Con G (3) 0 0 mX11_when [.ref 0, .int (nI d)] I h (qX (whenS E (nI d)) L (hn h)) := by
  refine con_intro (own := RX11) (lo0 := [some (.ref 0), some (.int (nI d)), none]) hG rfl pl_X11 (Nat.le_of_ble_eq_true rfl) rfl (fun X hX => ?_)
  have hW := hY.wx hE
  have hH := hW.1
  have hc10 := hW.2.1.2
  have hd10 : d < 10 := Nat.lt_of_lt_of_le hd (inv_cnt hE).2
  have hcd : d < cN I := by rw [hY.cn]; exact hd
  have hDD := isD_mk hE hd
  obtain ⟨g1, g2, g3, g4, g5, g6, g7, g8, g9, g10⟩ := hY.d hd
  refine g_aload_0 hX (dk DX11_when 0 rfl) ?_
  refine g_getRs (r := 1) hX (dk DX11_when 1 rfl) KX11 fX11_12 (by decide) rfl (CLt hH (q := 0) (by decide)) (CC hH 0 (by decide) rfl) (CR hH 0 0 1 (by decide)) ?_
  refine g_iload_1 hX (dk DX11_when 2 rfl) ?_
  refine g_c2R hX sX11_when_5 (by decide) (Nat.le_of_ble_eq_true rfl) (rc0 rfl (CLt hH (by decide)) (CC hH 1 (by decide) rfl)) (by decide) (by decide) (c_X5_find hG hW (by exact hcd)) ?_
  refine g_astore_2 hX (dk DX11_when 4 rfl) (by decide) rfl ?_
  refine g_aload_2 hX (dk DX11_when 5 rfl) ?_
  refine g_ifnonnull (tgt := 17) hX (dk DX11_when 6 rfl) (by decide) ?_
  refine g_aload_0 hX (dk DX11_when 9 rfl) ?_
  refine g_getRs (r := 1) hX (dk DX11_when 10 rfl) KX11 fX11_12 (by decide) rfl (CLt hH (q := 0) (by decide)) (CC hH 0 (by decide) rfl) (CR hH 0 0 1 (by decide)) ?_
  refine g_getIv hX (dk DX11_when 11 rfl) KX5 fX11_122 (by decide) rfl (CLt hH (q := 1) (by decide)) (CC hH 1 (by decide) rfl) (hY.2.1.1.2.1) ?_
  refine g_aload_2 hX (dk DX11_when 12 rfl) ?_
  refine g_aload_0 hX (dk DX11_when 13 rfl) ?_
  refine g_getRs (r := 1) hX (dk DX11_when 14 rfl) KX11 fX11_12 (by decide) rfl (CLt hH (q := 0) (by decide)) (CC hH 0 (by decide) rfl) (CR hH 0 0 1 (by decide)) ?_
  refine g_getIv hX (dk DX11_when 15 rfl) KX5 fX11_122 (by decide) rfl (CLt hH (q := 1) (by decide)) (CC hH 1 (by decide) rfl) (hY.2.1.1.2.1) ?_
  refine g_c2I hX (sD_X11_when_32 _ (by rw [g4]; exact kcl_dc _)) (by decide) (Nat.le_of_ble_eq_true rfl) (rc0 rfl g3 rfl) (by decide) (by decide) (cD_weeksUntil hG g3 (by rw [g4]; exact kcl_dc _) (by exact (hW.2.2.1 d hcd).2.2.2.2.2)) ?_
  refine g_iadd hX (dk DX11_when 17 rfl) ?_
  refine g_ireturn hX (dk DX11_when 18 rfl) rfl (rfl) (by decide) (by decide) ?_
  exact qX_of (by unfold whenS; rw [if_neg (not_not_intro hDD), tN_nI (by omega), g7, g8, when_e hE hd]) hY

set_option maxRecDepth 8000 in
set_option maxHeartbeats 4000000 in
theorem z_when {G : Gt} (hG : Gok G) {I : It} {h : Ht}  {E : It} {L : Nat → Int64} (hE : Inv E) (hY : RY E L I h) {a : Int32} (hno : ¬ isD E a)  : Con G (3) 0 0 mX11_when [.ref 0, .int a] I h (qX (whenS E a) L (hn h)) := by
  refine con_intro (own := RX11) (lo0 := [some (.ref 0), some (.int a), none]) hG rfl pl_X11 (Nat.le_of_ble_eq_true rfl) rfl (fun X hX => ?_)
  have hW := hY.wx hE
  have hH := hW.1
  have hc10 := hW.2.1.2
  refine g_aload_0 hX (dk DX11_when 0 rfl) ?_
  refine g_getRs (r := 1) hX (dk DX11_when 1 rfl) KX11 fX11_12 (by decide) rfl (CLt hH (q := 0) (by decide)) (CC hH 0 (by decide) rfl) (CR hH 0 0 1 (by decide)) ?_
  refine g_iload_1 hX (dk DX11_when 2 rfl) ?_
  refine g_c2R hX sX11_when_5 (by decide) (Nat.le_of_ble_eq_true rfl) (rc0 rfl (CLt hH (by decide)) (CC hH 1 (by decide) rfl)) (by decide) (by decide) (c_X5_find0 hG hW (hY.no hE hno)) ?_
  refine g_astoreN_2 hX (dk DX11_when 4 rfl) (by decide) rfl ?_
  refine g_aloadN_2 hX (dk DX11_when 5 rfl) ?_
  refine g_ifnonnullN hX (dk DX11_when 6 rfl) ?_
  refine g_iconst (v := -1) hX (dk DX11_when 7 rfl) (by decide) ?_
  refine g_goto (tgt := 36) hX (dk DX11_when 8 rfl) (by decide) ?_
  refine g_ireturn hX (dk DX11_when 18 rfl) rfl (rfl) (by decide) (by decide) ?_
  exact qX_of (by unfold whenS; rw [if_pos hno]) hY

theorem x_when {G : Gt} (hG : Gok G) {I : It} {h : Ht} {E : It} {L : Nat → Int64} (hE : Inv E) (hY : RY E L I h) {a : Int32}  : Con G 3 0 0 mX11_when [.ref 0, .int a] I h (qX (whenS E a) L (hn h)) := by
  by_cases hh : isD E a
  · obtain ⟨d, hd, rfl⟩ := isD_of hE hh
    exact y_when hG hE hY hd
  · exact z_when hG hE hY hh
end
section
set_option maxRecDepth 8000 in
set_option maxHeartbeats 4000000 in
theorem x_told {G : Gt} (hG : Gok G) {I : It} {h : Ht}  {E : It} {L : Nat → Int64} (hE : Inv E) (hY : RY E L I h) {w : Int32} : Con G (3) 0 0 mX11_told [.ref 0, .int w] I h (qW E L (hn h)) := by
  refine con_intro (own := RX11) (lo0 := [some (.ref 0), some (.int w)]) hG rfl pl_X11 (Nat.le_of_ble_eq_true rfl) rfl (fun X hX => ?_)
  have hW := hY.wx hE
  have hH := hW.1
  have hc10 := hW.2.1.2
  refine g_iload_1 hX (dk DX11_told 0 rfl) ?_
  refine g_tswitch (dt := 88) hX [(0, 40), (1, 48), (2, 56), (3, 64), (4, 72), (5, 80)] (dk DX11_told 1 rfl) (by decide +kernel) ?_
  refine ⟨fun hc1 => ?_, fun hc1n => ?_⟩
  · show GG _ _ _ _ _ _ _ _ _ _ _ _ _
    refine g_aload_0 hX (dk DX11_told 2 rfl) ?_
    refine g_getRs (r := 1) hX (dk DX11_told 3 rfl) KX11 fX11_12 (by decide) rfl (CLt hH (q := 0) (by decide)) (CC hH 0 (by decide) rfl) (CR hH 0 0 1 (by decide)) ?_
    refine g_c1I hX sX11_told_44 (by decide) (Nat.le_of_ble_eq_true rfl) (rc0 rfl (CLt hH (by decide)) (CC hH 1 (by decide) rfl)) (by decide) (by decide) (c_X5_callsAtFirst hG hW) ?_
    refine g_ireturn hX (dk DX11_told 5 rfl) rfl (rfl) (by decide) (by decide) ?_
    exact qW_of hY
  refine ⟨fun hc2 => ?_, fun hc2n => ?_⟩
  · show GG _ _ _ _ _ _ _ _ _ _ _ _ _
    refine g_aload_0 hX (dk DX11_told 6 rfl) ?_
    refine g_getRs (r := 1) hX (dk DX11_told 7 rfl) KX11 fX11_12 (by decide) rfl (CLt hH (q := 0) (by decide)) (CC hH 0 (by decide) rfl) (CR hH 0 0 1 (by decide)) ?_
    refine g_c1I hX sX11_told_52 (by decide) (Nat.le_of_ble_eq_true rfl) (rc0 rfl (CLt hH (by decide)) (CC hH 1 (by decide) rfl)) (by decide) (by decide) (c_X5_callsFading hG hW) ?_
    refine g_ireturn hX (dk DX11_told 9 rfl) rfl (rfl) (by decide) (by decide) ?_
    exact qW_of hY
  refine ⟨fun hc3 => ?_, fun hc3n => ?_⟩
  · show GG _ _ _ _ _ _ _ _ _ _ _ _ _
    refine g_aload_0 hX (dk DX11_told 10 rfl) ?_
    refine g_getRs (r := 1) hX (dk DX11_told 11 rfl) KX11 fX11_12 (by decide) rfl (CLt hH (q := 0) (by decide)) (CC hH 0 (by decide) rfl) (CR hH 0 0 1 (by decide)) ?_
    refine g_getI hX (dk DX11_told 12 rfl) KX5 fX11_122 (by decide) rfl (CLt hH (q := 1) (by decide)) (CC hH 1 (by decide) rfl) ?_
    refine g_ireturn hX (dk DX11_told 13 rfl) rfl (rfl) (by decide) (by decide) ?_
    exact qW_of hY
  refine ⟨fun hc4 => ?_, fun hc4n => ?_⟩
  · show GG _ _ _ _ _ _ _ _ _ _ _ _ _
    refine g_aload_0 hX (dk DX11_told 14 rfl) ?_
    refine g_getRs (r := 1) hX (dk DX11_told 15 rfl) KX11 fX11_12 (by decide) rfl (CLt hH (q := 0) (by decide)) (CC hH 0 (by decide) rfl) (CR hH 0 0 1 (by decide)) ?_
    refine g_getI hX (dk DX11_told 16 rfl) KX5 fX11_162 (by decide) rfl (CLt hH (q := 1) (by decide)) (CC hH 1 (by decide) rfl) ?_
    refine g_ireturn hX (dk DX11_told 17 rfl) rfl (rfl) (by decide) (by decide) ?_
    exact qW_of hY
  refine ⟨fun hc5 => ?_, fun hc5n => ?_⟩
  · show GG _ _ _ _ _ _ _ _ _ _ _ _ _
    refine g_aload_0 hX (dk DX11_told 18 rfl) ?_
    refine g_getRs (r := 1) hX (dk DX11_told 19 rfl) KX11 fX11_12 (by decide) rfl (CLt hH (q := 0) (by decide)) (CC hH 0 (by decide) rfl) (CR hH 0 0 1 (by decide)) ?_
    refine g_getI hX (dk DX11_told 20 rfl) KX5 fX11_165 (by decide) rfl (CLt hH (q := 1) (by decide)) (CC hH 1 (by decide) rfl) ?_
    refine g_ireturn hX (dk DX11_told 21 rfl) rfl (rfl) (by decide) (by decide) ?_
    exact qW_of hY
  refine ⟨fun hc6 => ?_, fun hc6n => ?_⟩
  · show GG _ _ _ _ _ _ _ _ _ _ _ _ _
    refine g_aload_0 hX (dk DX11_told 22 rfl) ?_
    refine g_getRs (r := 1) hX (dk DX11_told 23 rfl) KX11 fX11_12 (by decide) rfl (CLt hH (q := 0) (by decide)) (CC hH 0 (by decide) rfl) (CR hH 0 0 1 (by decide)) ?_
    refine g_getI hX (dk DX11_told 24 rfl) KX5 fX11_168 (by decide) rfl (CLt hH (q := 1) (by decide)) (CC hH 1 (by decide) rfl) ?_
    refine g_ireturn hX (dk DX11_told 25 rfl) rfl (rfl) (by decide) (by decide) ?_
    exact qW_of hY
  show GG _ _ _ _ _ _ _ _ _ _ _ _ _
  refine g_iload_1 hX (dk DX11_told 26 rfl) ?_
  refine g_bipush (v := 10) hX (dk DX11_told 27 rfl) (by decide) ?_
  refine g_bipush (v := 13) hX (dk DX11_told 28 rfl) (by decide) ?_
  refine g_c3I hX sX11_told_93 (by decide) (Nat.le_of_ble_eq_true rfl) rcN (by decide) (by decide) (c_X11_isNot hG ) ?_
  refine g_ifb_eq (tgt := 103) hX (dk DX11_told 30 rfl) (by decide) (fun hc8 => ?_) (fun hc8 => ?_)
  · have hw := Decidable.not_not.mp hc8
    obtain ⟨y, hy1, hy2, rfl⟩ := in1_of (c := 10) (b := 13) (by decide) (by decide) hw
    refine g_aload_0 hX (dk DX11_told 33 rfl) ?_
    refine g_getRs (r := 1) hX (dk DX11_told 34 rfl) KX11 fX11_12 (by decide) rfl (CLt hH (q := 0) (by decide)) (CC hH 0 (by decide) rfl) (CR hH 0 0 1 (by decide)) ?_
    refine g_getRs (r := 4) hX (dk DX11_told 35 rfl) KX5 fX11_139 (by decide) rfl (CLt hH (q := 1) (by decide)) (CC hH 1 (by decide) rfl) (CR hH 1 5 4 (by decide)) ?_
    refine g_iload_1 hX (dk DX11_told 36 rfl) ?_
    refine g_bipush (v := 10) hX (dk DX11_told 37 rfl) (by decide) ?_
    refine g_isub hX (dk DX11_told 38 rfl) ?_
    refine g_nmI (nI (y - 10)) (pk_sub (a := y) (b := 10) hy1) ?_
    refine i_iaload hX (dk DX11_told 39 rfl) (CLt hH (q := 4) (by decide)) (CS hH 4 (by decide) rfl) (⟨rfl, by omega, by decide⟩) ?_
    refine g_ireturn hX (dk DX11_told 40 rfl) rfl (rfl) (by decide) (by decide) ?_
    exact qW_of hY
  · refine g_iconst (v := -1) hX (dk DX11_told 31 rfl) (by decide) ?_
    refine g_goto (tgt := 115) hX (dk DX11_told 32 rfl) (by decide) ?_
    refine g_ireturn hX (dk DX11_told 40 rfl) rfl (rfl) (by decide) (by decide) ?_
    exact qW_of hY

set_option maxRecDepth 8000 in
set_option maxHeartbeats 4000000 in
theorem y_said {G : Gt} (hG : Gok G) {I : It} {h : Ht}  {E : It} {L : Nat → Int64} (hE : Inv E) (hY : RY E L I h) {d : Nat} (hd : d < cnt E) {y : Int32} : Con G (6) 0 0 mX11_said [.ref 0, .int (nI d), .int y] I h (qW E L (hn h)) := by
  refine con_intro (own := RX11) (lo0 := [some (.ref 0), some (.int (nI d)), some (.int y), none]) hG rfl pl_X11 (Nat.le_of_ble_eq_true rfl) rfl (fun X hX => ?_)
  have hW := hY.wx hE
  have hH := hW.1
  have hc10 := hW.2.1.2
  have hd10 : d < 10 := Nat.lt_of_lt_of_le hd (inv_cnt hE).2
  have hcd : d < cN I := by rw [hY.cn]; exact hd
  have hDD := isD_mk hE hd
  obtain ⟨g1, g2, g3, g4, g5, g6, g7, g8, g9, g10⟩ := hY.d hd
  refine g_aload_0 hX (dk DX11_said 0 rfl) ?_
  refine g_getRs (r := 1) hX (dk DX11_said 1 rfl) KX11 fX11_12 (by decide) rfl (CLt hH (q := 0) (by decide)) (CC hH 0 (by decide) rfl) (CR hH 0 0 1 (by decide)) ?_
  refine g_iload_1 hX (dk DX11_said 2 rfl) ?_
  refine g_c2R hX sX11_said_5 (by decide) (Nat.le_of_ble_eq_true rfl) (rc0 rfl (CLt hH (by decide)) (CC hH 1 (by decide) rfl)) (by decide) (by decide) (c_X5_find hG hW (by exact hcd)) ?_
  refine g_astore_3 hX (dk DX11_said 4 rfl) (by decide) rfl ?_
  refine g_aload_3 hX (dk DX11_said 5 rfl) ?_
  refine g_ifnullR hX (dk DX11_said 6 rfl) ?_
  refine g_iload_2 hX (dk DX11_said 7 rfl) ?_
  refine g_iconst (v := 0) hX (dk DX11_said 8 rfl) (by decide) ?_
  refine g_iconst (v := 3) hX (dk DX11_said 9 rfl) (by decide) ?_
  refine g_c3I hX sX11_said_16 (by decide) (Nat.le_of_ble_eq_true rfl) rcN (by decide) (by decide) (c_X11_isNot hG ) ?_
  refine g_ifb_eq (tgt := 24) hX (dk DX11_said 11 rfl) (by decide) (fun hc1 => ?_) (fun hc1 => ?_)
  · refine g_aload_0 hX (dk DX11_said 14 rfl) ?_
    refine g_getRs (r := 1) hX (dk DX11_said 15 rfl) KX11 fX11_12 (by decide) rfl (CLt hH (q := 0) (by decide)) (CC hH 0 (by decide) rfl) (CR hH 0 0 1 (by decide)) ?_
    refine g_aload_3 hX (dk DX11_said 16 rfl) ?_
    refine g_iload_2 hX (dk DX11_said 17 rfl) ?_
    refine g_c3I hX sX11_said_30 (by decide) (Nat.le_of_ble_eq_true rfl) (rc0 rfl (CLt hH (by decide)) (CC hH 1 (by decide) rfl)) (by decide) (by decide) (c_X5_saidBy hG hW g3 (by rw [g4]; exact kcl_dc _)) ?_
    refine g_ireturn hX (dk DX11_said 19 rfl) rfl (rfl) (by decide) (by decide) ?_
    exact qW_of hY
  · refine g_iconst (v := -1) hX (dk DX11_said 12 rfl) (by decide) ?_
    refine g_ireturn hX (dk DX11_said 13 rfl) rfl (rfl) (by decide) (by decide) ?_
    exact qW_of hY

set_option maxRecDepth 8000 in
set_option maxHeartbeats 4000000 in
theorem z_said {G : Gt} (hG : Gok G) {I : It} {h : Ht}  {E : It} {L : Nat → Int64} (hE : Inv E) (hY : RY E L I h) {a : Int32} (hno : ¬ isD E a) {y : Int32} : Con G (6) 0 0 mX11_said [.ref 0, .int a, .int y] I h (qW E L (hn h)) := by
  refine con_intro (own := RX11) (lo0 := [some (.ref 0), some (.int a), some (.int y), none]) hG rfl pl_X11 (Nat.le_of_ble_eq_true rfl) rfl (fun X hX => ?_)
  have hW := hY.wx hE
  have hH := hW.1
  have hc10 := hW.2.1.2
  refine g_aload_0 hX (dk DX11_said 0 rfl) ?_
  refine g_getRs (r := 1) hX (dk DX11_said 1 rfl) KX11 fX11_12 (by decide) rfl (CLt hH (q := 0) (by decide)) (CC hH 0 (by decide) rfl) (CR hH 0 0 1 (by decide)) ?_
  refine g_iload_1 hX (dk DX11_said 2 rfl) ?_
  refine g_c2R hX sX11_said_5 (by decide) (Nat.le_of_ble_eq_true rfl) (rc0 rfl (CLt hH (by decide)) (CC hH 1 (by decide) rfl)) (by decide) (by decide) (c_X5_find0 hG hW (hY.no hE hno)) ?_
  refine g_astoreN_3 hX (dk DX11_said 4 rfl) (by decide) rfl ?_
  refine g_aloadN_3 hX (dk DX11_said 5 rfl) ?_
  refine g_ifnull (tgt := 22) hX (dk DX11_said 6 rfl) (by decide) ?_
  refine g_iconst (v := -1) hX (dk DX11_said 12 rfl) (by decide) ?_
  refine g_ireturn hX (dk DX11_said 13 rfl) rfl (rfl) (by decide) (by decide) ?_
  exact qW_of hY

theorem x_said {G : Gt} (hG : Gok G) {I : It} {h : Ht} {E : It} {L : Nat → Int64} (hE : Inv E) (hY : RY E L I h) {a : Int32} {y : Int32} : Con G 6 0 0 mX11_said [.ref 0, .int a, .int y] I h (qW E L (hn h)) := by
  by_cases hh : isD E a
  · obtain ⟨d, hd, rfl⟩ := isD_of hE hh
    exact y_said hG hE hY hd (y := y)
  · exact z_said hG hE hY hh (y := y)
set_option maxRecDepth 8000 in
set_option maxHeartbeats 4000000 in
theorem x_feed {G : Gt} (hG : Gok G) {I : It} {h : Ht}  {E : It} {L : Nat → Int64} (hE : Inv E) (hY : RY E L I h) {s : Int32} : Con G (2) 0 0 mX11_feed [.ref 0, .int s] I h (qW E L (hn h)) := by
  refine con_intro (own := RX11) (lo0 := [some (.ref 0), some (.int s)]) hG rfl pl_X11 (Nat.le_of_ble_eq_true rfl) rfl (fun X hX => ?_)
  have hW := hY.wx hE
  have hH := hW.1
  have hc10 := hW.2.1.2
  refine g_iload_1 hX (dk DX11_feed 0 rfl) ?_
  refine g_iconst (v := 0) hX (dk DX11_feed 1 rfl) (by decide) ?_
  refine g_bipush (v := 127) hX (dk DX11_feed 2 rfl) (by decide) ?_
  refine g_c3I hX sX11_feed_4 (by decide) (Nat.le_of_ble_eq_true rfl) rcN (by decide) (by decide) (c_X11_isNot hG ) ?_
  refine g_ifb_eq (tgt := 13) hX (dk DX11_feed 4 rfl) (by decide) (fun hc1 => ?_) (fun hc1 => ?_)
  · refine g_aload_0 hX (dk DX11_feed 7 rfl) ?_
    refine g_getI hX (dk DX11_feed 8 rfl) KX11 fX11_142 (by decide) rfl (CLt hH (q := 0) (by decide)) (CC hH 0 (by decide) rfl) ?_
    refine g_aload_0 hX (dk DX11_feed 9 rfl) ?_
    refine g_getRs (r := 31) hX (dk DX11_feed 10 rfl) KX11 fX11_36 (by decide) rfl (CLt hH (q := 0) (by decide)) (CC hH 0 (by decide) rfl) (CR hH 0 6 31 (by decide)) ?_
    refine g_alen (v := 100) hX (dk DX11_feed 11 rfl) (CLt hH (q := 31) (by decide)) (CS hH 31 (by decide) rfl) (by decide) (i0 := 2) rfl (by decide) ?_
    refine g_icmp_lt (tgt := 28) hX (dk DX11_feed 12 rfl) (by decide) (fun hc2 => ?_) (fun hc2 => ?_)
    · obtain ⟨sg, hsg, esg⟩ := hY.2.2.2.2.2.2.2.2
      have hix := kp_ix (b := 100) (by decide) ⟨sg, hsg, esg⟩ (fun z => absurd hc2 (Int32.not_lt.mpr z))
      have hlt := hc2
      refine g_aload_0 hX (dk DX11_feed 15 rfl) ?_
      refine g_getRs (r := 31) hX (dk DX11_feed 16 rfl) KX11 fX11_36 (by decide) rfl (CLt hH (q := 0) (by decide)) (CC hH 0 (by decide) rfl) (CR hH 0 6 31 (by decide)) ?_
      refine g_aload_0 hX (dk DX11_feed 17 rfl) ?_
      refine g_getI hX (dk DX11_feed 18 rfl) KX11 fX11_142 (by decide) rfl (CLt hH (q := 0) (by decide)) (CC hH 0 (by decide) rfl) ?_
      refine g_iload_1 hX (dk DX11_feed 19 rfl) ?_
      refine g_i2b hX (dk DX11_feed 20 rfl) ?_
      refine i_bastore hX (dk DX11_feed 21 rfl) (CLt hH (q := 31) (by decide)) (CS hH 31 (by decide) rfl) (hix) ?_
      refine g_aload_0 hX (dk DX11_feed 22 rfl) ?_
      refine g_dup hX (dk DX11_feed 23 rfl) rfl ?_
      refine g_getI hX (dk DX11_feed 24 rfl) KX11 fX11_142 (by decide) rfl (CLt hH (q := 0) (by decide)) (CC hH 0 (by decide) rfl) ?_
      refine g_iconst (v := 1) hX (dk DX11_feed 25 rfl) (by decide) ?_
      refine g_iadd hX (dk DX11_feed 26 rfl) ?_
      refine g_putI hX (dk DX11_feed 27 rfl) KX11 fX11_142 (by decide) rfl (CLt hH (q := 0) (by decide)) (CC hH 0 (by decide) rfl) (Or.inl rfl) (rfl) (rfl) ?_
      refine g_aload_0 hX (dk DX11_feed 28 rfl) ?_
      refine g_getI hX (dk DX11_feed 29 rfl) KX11 fX11_142 (by decide) rfl (CLt hH (q := 0) (by decide)) (CC hH 0 (by decide) rfl) ?_
      refine g_ireturn hX (dk DX11_feed 30 rfl) rfl (rfl) (by decide) (by decide) ?_
      exact qW_of (feed_w hY hsg esg hlt)
    · refine g_bipush (v := -4) hX (dk DX11_feed 13 rfl) (by decide) ?_
      refine g_ireturn hX (dk DX11_feed 14 rfl) rfl (rfl) (by decide) (by decide) ?_
      exact qW_of hY
  · refine g_bipush (v := -2) hX (dk DX11_feed 5 rfl) (by decide) ?_
    refine g_ireturn hX (dk DX11_feed 6 rfl) rfl (rfl) (by decide) (by decide) ?_
    exact qW_of hY

set_option maxRecDepth 8000 in
set_option maxHeartbeats 4000000 in
theorem x_count {G : Gt} (hG : Gok G) {I : It} {h : Ht}  {E : It} {L : Nat → Int64} (hE : Inv E) (hY : RY E L I h) {w : Int32} : Con G (2) 0 0 mX11_count [.ref 0, .int w] I h (qW E L (hn h)) := by
  refine con_intro (own := RX11) (lo0 := [some (.ref 0), some (.int w)]) hG rfl pl_X11 (Nat.le_of_ble_eq_true rfl) rfl (fun X hX => ?_)
  have hW := hY.wx hE
  have hH := hW.1
  have hc10 := hW.2.1.2
  refine g_iload_1 hX (dk DX11_count 0 rfl) ?_
  refine g_tswitch (dt := 85) hX [(0, 40), (1, 48), (2, 53), (3, 61), (4, 66), (5, 74)] (dk DX11_count 1 rfl) (by decide +kernel) ?_
  refine ⟨fun hc1 => ?_, fun hc1n => ?_⟩
  · show GG _ _ _ _ _ _ _ _ _ _ _ _ _
    refine g_aload_0 hX (dk DX11_count 2 rfl) ?_
    refine g_getRs (r := 1) hX (dk DX11_count 3 rfl) KX11 fX11_12 (by decide) rfl (CLt hH (q := 0) (by decide)) (CC hH 0 (by decide) rfl) (CR hH 0 0 1 (by decide)) ?_
    refine g_getI hX (dk DX11_count 4 rfl) KX5 fX11_72 (by decide) rfl (CLt hH (q := 1) (by decide)) (CC hH 1 (by decide) rfl) ?_
    refine g_ireturn hX (dk DX11_count 5 rfl) rfl (rfl) (by decide) (by decide) ?_
    exact qW_of hY
  refine ⟨fun hc2 => ?_, fun hc2n => ?_⟩
  · show GG _ _ _ _ _ _ _ _ _ _ _ _ _
    refine g_aload_0 hX (dk DX11_count 6 rfl) ?_
    refine g_getI hX (dk DX11_count 7 rfl) KX11 fX11_145 (by decide) rfl (CLt hH (q := 0) (by decide)) (CC hH 0 (by decide) rfl) ?_
    refine g_ireturn hX (dk DX11_count 8 rfl) rfl (rfl) (by decide) (by decide) ?_
    exact qW_of hY
  refine ⟨fun hc3 => ?_, fun hc3n => ?_⟩
  · show GG _ _ _ _ _ _ _ _ _ _ _ _ _
    refine g_aload_0 hX (dk DX11_count 9 rfl) ?_
    refine g_getRs (r := 1) hX (dk DX11_count 10 rfl) KX11 fX11_12 (by decide) rfl (CLt hH (q := 0) (by decide)) (CC hH 0 (by decide) rfl) (CR hH 0 0 1 (by decide)) ?_
    refine g_getI hX (dk DX11_count 11 rfl) KX5 fX11_231 (by decide) rfl (CLt hH (q := 1) (by decide)) (CC hH 1 (by decide) rfl) ?_
    refine g_ireturn hX (dk DX11_count 12 rfl) rfl (rfl) (by decide) (by decide) ?_
    exact qW_of hY
  refine ⟨fun hc4 => ?_, fun hc4n => ?_⟩
  · show GG _ _ _ _ _ _ _ _ _ _ _ _ _
    refine g_aload_0 hX (dk DX11_count 13 rfl) ?_
    refine g_getI hX (dk DX11_count 14 rfl) KX11 fX11_142 (by decide) rfl (CLt hH (q := 0) (by decide)) (CC hH 0 (by decide) rfl) ?_
    refine g_ireturn hX (dk DX11_count 15 rfl) rfl (rfl) (by decide) (by decide) ?_
    exact qW_of hY
  refine ⟨fun hc5 => ?_, fun hc5n => ?_⟩
  · show GG _ _ _ _ _ _ _ _ _ _ _ _ _
    refine g_aload_0 hX (dk DX11_count 16 rfl) ?_
    refine g_getRs (r := 32) hX (dk DX11_count 17 rfl) KX11 fX11_43 (by decide) rfl (CLt hH (q := 0) (by decide)) (CC hH 0 (by decide) rfl) (CR hH 0 8 32 (by decide)) ?_
    refine g_getI hX (dk DX11_count 18 rfl) KX7 fX11_258 (by decide) rfl (CLt hH (q := 32) (by decide)) (CC hH 32 (by decide) rfl) ?_
    refine g_ireturn hX (dk DX11_count 19 rfl) rfl (rfl) (by decide) (by decide) ?_
    exact qW_of hY
  refine ⟨fun hc6 => ?_, fun hc6n => ?_⟩
  · show GG _ _ _ _ _ _ _ _ _ _ _ _ _
    refine g_aload_0 hX (dk DX11_count 20 rfl) ?_
    refine g_getRs (r := 1) hX (dk DX11_count 21 rfl) KX11 fX11_12 (by decide) rfl (CLt hH (q := 0) (by decide)) (CC hH 0 (by decide) rfl) (CR hH 0 0 1 (by decide)) ?_
    refine g_getI hX (dk DX11_count 22 rfl) KX5 fX11_116 (by decide) rfl (CLt hH (q := 1) (by decide)) (CC hH 1 (by decide) rfl) ?_
    refine g_c1q hX sX11_count_81 (by decide) (Nat.le_of_ble_eq_true rfl) rcN (by decide) (by decide) (c_J6_bitCount_0f7a4 hG) ?_
    rintro _ _ _ ⟨-, rfl, rfl⟩
    refine g_ireturn hX (dk DX11_count 24 rfl) rfl (rfl) (by decide) (by decide) ?_
    exact qW_of hY
  show GG _ _ _ _ _ _ _ _ _ _ _ _ _
  refine g_bipush (v := -2) hX (dk DX11_count 25 rfl) (by decide) ?_
  refine g_ireturn hX (dk DX11_count 26 rfl) rfl (rfl) (by decide) (by decide) ?_
  exact qW_of hY

set_option maxRecDepth 8000 in
set_option maxHeartbeats 4000000 in
theorem y_of {G : Gt} (hG : Gok G) {I : It} {h : Ht}  {E : It} {L : Nat → Int64} (hE : Inv E) (hY : RY E L I h) {d : Nat} (hd : d < cnt E) {w : Int32} : Con G (8) 0 0 mX11_of [.ref 0, .int (nI d), .int w] I h (qW E L (hn h)) := by
  refine con_intro (own := RX11) (lo0 := [some (.ref 0), some (.int (nI d)), some (.int w), none]) hG rfl pl_X11 (Nat.le_of_ble_eq_true rfl) rfl (fun X hX => ?_)
  have hW := hY.wx hE
  have hH := hW.1
  have hc10 := hW.2.1.2
  have hd10 : d < 10 := Nat.lt_of_lt_of_le hd (inv_cnt hE).2
  have hcd : d < cN I := by rw [hY.cn]; exact hd
  have hDD := isD_mk hE hd
  obtain ⟨g1, g2, g3, g4, g5, g6, g7, g8, g9, g10⟩ := hY.d hd
  refine g_aload_0 hX (dk DX11_of_0 0 rfl) ?_
  refine g_getRs (r := 1) hX (dk DX11_of_0 1 rfl) KX11 fX11_12 (by decide) rfl (CLt hH (q := 0) (by decide)) (CC hH 0 (by decide) rfl) (CR hH 0 0 1 (by decide)) ?_
  refine g_iload_1 hX (dk DX11_of_0 2 rfl) ?_
  refine g_c2R hX sX11_of_5 (by decide) (Nat.le_of_ble_eq_true rfl) (rc0 rfl (CLt hH (by decide)) (CC hH 1 (by decide) rfl)) (by decide) (by decide) (c_X5_find hG hW (by exact hcd)) ?_
  refine g_astore_3 hX (dk DX11_of_0 4 rfl) (by decide) rfl ?_
  refine g_aload_3 hX (dk DX11_of_0 5 rfl) ?_
  refine g_ifnonnull (tgt := 17) hX (dk DX11_of_0 6 rfl) (by decide) ?_
  refine g_iload_2 hX (dk DX11_of_0 9 rfl) ?_
  refine g_tswitch (dt := 193) hX [(0, 80), (1, 85), (2, 90), (3, 95), (4, 100), (5, 105), (6, 110), (7, 122), (8, 134), (9, 143), (10, 164), (11, 180)] (dk DX11_of_0 10 rfl) (by decide +kernel) ?_
  refine ⟨fun hc1 => ?_, fun hc1n => ?_⟩
  · show GG _ _ _ _ _ _ _ _ _ _ _ _ _
    refine g_aload_3 hX (dk DX11_of_0 11 rfl) ?_
    refine g_c1I hX (sD_X11_of_81 _ (by rw [g4]; exact kcl_dc _)) (by decide) (Nat.le_of_ble_eq_true rfl) (rc0 rfl g3 rfl) (by decide) (by decide) (cD_kind hG g3 (by rw [g4]; exact kcl_dc _)) ?_
    refine g_ireturn hX (dk DX11_of_0 13 rfl) rfl (rfl) (by decide) (by decide) ?_
    first
    | exact qW_of hY
    | exact qW_of (hY.sc hS)
  refine ⟨fun hc2 => ?_, fun hc2n => ?_⟩
  · show GG _ _ _ _ _ _ _ _ _ _ _ _ _
    refine g_aload_3 hX (dk DX11_of_0 14 rfl) ?_
    refine g_getD (v := _) hX (dk DX11_of_0 15 rfl) fX11_94 (by decide) g3 (by rw [g4]; exact kcl_dc _) (rfl) ?_
    refine g_ireturn hX (dk DX11_of_0 16 rfl) rfl (rfl) (by decide) (by decide) ?_
    first
    | exact qW_of hY
    | exact qW_of (hY.sc hS)
  refine ⟨fun hc3 => ?_, fun hc3n => ?_⟩
  · show GG _ _ _ _ _ _ _ _ _ _ _ _ _
    refine g_aload_3 hX (dk DX11_of_0 17 rfl) ?_
    refine g_getD (v := _) hX (dk DX11_of_0 18 rfl) fX11_97 (by decide) g3 (by rw [g4]; exact kcl_dc _) (rfl) ?_
    refine g_ireturn hX (dk DX11_of_0 19 rfl) rfl (rfl) (by decide) (by decide) ?_
    first
    | exact qW_of hY
    | exact qW_of (hY.sc hS)
  refine ⟨fun hc4 => ?_, fun hc4n => ?_⟩
  · show GG _ _ _ _ _ _ _ _ _ _ _ _ _
    refine g_aload_3 hX (dk DX11_of_0 20 rfl) ?_
    refine g_getD (v := _) hX (dk DX11_of_0 21 rfl) fX11_100 (by decide) g3 (by rw [g4]; exact kcl_dc _) (rfl) ?_
    refine g_ireturn hX (dk DX11_of_0 22 rfl) rfl (rfl) (by decide) (by decide) ?_
    first
    | exact qW_of hY
    | exact qW_of (hY.sc hS)
  refine ⟨fun hc5 => ?_, fun hc5n => ?_⟩
  · show GG _ _ _ _ _ _ _ _ _ _ _ _ _
    refine g_aload_3 hX (dk DX11_of_0 23 rfl) ?_
    refine g_getD (v := _) hX (dk DX11_of_0 24 rfl) fX11_103 (by decide) g3 (by rw [g4]; exact kcl_dc _) (rfl) ?_
    refine g_ireturn hX (dk DX11_of_0 25 rfl) rfl (rfl) (by decide) (by decide) ?_
    first
    | exact qW_of hY
    | exact qW_of (hY.sc hS)
  refine ⟨fun hc6 => ?_, fun hc6n => ?_⟩
  · show GG _ _ _ _ _ _ _ _ _ _ _ _ _
    refine g_aload_3 hX (dk DX11_of_0 26 rfl) ?_
    refine g_getD (v := _) hX (dk DX11_of_0 27 rfl) fX11_106 (by decide) g3 (by rw [g4]; exact kcl_dc _) (rfl) ?_
    refine g_ireturn hX (dk DX11_of_0 28 rfl) rfl (rfl) (by decide) (by decide) ?_
    first
    | exact qW_of hY
    | exact qW_of (hY.sc hS)
  refine ⟨fun hc7 => ?_, fun hc7n => ?_⟩
  · show GG _ _ _ _ _ _ _ _ _ _ _ _ _
    refine g_aload_0 hX (dk DX11_of_0 29 rfl) ?_
    refine g_getRs (r := 1) hX (dk DX11_of_0 30 rfl) KX11 fX11_12 (by decide) rfl (CLt hH (q := 0) (by decide)) (CC hH 0 (by decide) rfl) (CR hH 0 0 1 (by decide)) ?_
    refine g_getI hX (dk DX11_of_0 31 rfl) KX5 fX11_109 (by decide) rfl (CLt hH (q := 1) (by decide)) (CC hH 1 (by decide) rfl) ?_
    refine g_iload_1 hX (dk DX11_of_0 32 rfl) ?_
    refine g_c2I hX sX11_of_118 (by decide) (Nat.le_of_ble_eq_true rfl) rcN (by decide) (by decide) (c_X11_bit hG ) ?_
    refine g_ireturn hX (dk DX11_of_0 34 rfl) rfl (rfl) (by decide) (by decide) ?_
    first
    | exact qW_of hY
    | exact qW_of (hY.sc hS)
  refine ⟨fun hc8 => ?_, fun hc8n => ?_⟩
  · show GG _ _ _ _ _ _ _ _ _ _ _ _ _
    refine g_aload_0 hX (dk DX11_of_0 35 rfl) ?_
    refine g_getRs (r := 1) hX (dk DX11_of_0 36 rfl) KX11 fX11_12 (by decide) rfl (CLt hH (q := 0) (by decide)) (CC hH 0 (by decide) rfl) (CR hH 0 0 1 (by decide)) ?_
    refine g_getI hX (dk DX11_of_0 37 rfl) KX5 fX11_116 (by decide) rfl (CLt hH (q := 1) (by decide)) (CC hH 1 (by decide) rfl) ?_
    refine g_iload_1 hX (dk DX11_of_0 38 rfl) ?_
    refine g_c2I hX sX11_of_130 (by decide) (Nat.le_of_ble_eq_true rfl) rcN (by decide) (by decide) (c_X11_bit hG ) ?_
    refine g_ireturn hX (dk DX11_of_0 40 rfl) rfl (rfl) (by decide) (by decide) ?_
    first
    | exact qW_of hY
    | exact qW_of (hY.sc hS)
  refine ⟨fun hc9 => ?_, fun hc9n => ?_⟩
  · show GG _ _ _ _ _ _ _ _ _ _ _ _ _
    refine g_aload_0 hX (dk DX11_of_0 41 rfl) ?_
    refine g_getRs (r := 13) hX (dk DX11_of_0 42 rfl) KX11 fX11_26 (by decide) rfl (CLt hH (q := 0) (by decide)) (CC hH 0 (by decide) rfl) (CR hH 0 3 13 (by decide)) ?_
    refine g_aload_3 hX (dk DX11_of_0 43 rfl) ?_
    refine g_c2q hX sX11_of_139 (by decide) (Nat.le_of_ble_eq_true rfl) (rc0 rfl (CLt hH (by decide)) (CC hH 13 (by decide) rfl)) (by decide) (by decide) (w_X0_saidOf hG hW hd10 g3 g2 (by rw [g4]; exact kcl_dc _) g5) ?_
    rintro _ J _ ⟨hS, rfl⟩
    refine g_ireturn hX (dk DX11_of_0 45 rfl) rfl (rfl) (by decide) (by decide) ?_
    first
    | exact qW_of hY
    | exact qW_of (hY.sc hS)
  refine ⟨fun hc10 => ?_, fun hc10n => ?_⟩
  · show GG _ _ _ _ _ _ _ _ _ _ _ _ _
    refine g_aload_0 hX (dk DX11_of_0 46 rfl) ?_
    refine g_getRs (r := 13) hX (dk DX11_of_0 47 rfl) KX11 fX11_26 (by decide) rfl (CLt hH (q := 0) (by decide)) (CC hH 0 (by decide) rfl) (CR hH 0 3 13 (by decide)) ?_
    refine g_aload_3 hX (dk DX11_of_0 48 rfl) ?_
    refine g_c2q hX sX11_of_148 (by decide) (Nat.le_of_ble_eq_true rfl) (rc0 rfl (CLt hH (by decide)) (CC hH 13 (by decide) rfl)) (by decide) (by decide) (w_X0_saidOf hG hW hd10 g3 g2 (by rw [g4]; exact kcl_dc _) g5) ?_
    rintro _ J _ ⟨hS, rfl⟩
    refine g_aload_3 hX (dk DX11_of_0 50 rfl) ?_
    refine g_getD (v := _) hX (dk DX11_of_0 51 rfl) fX11_106 (by decide) g3 (by rw [g4]; exact kcl_dc _) (rfl) ?_
    refine g_icmp_lt (tgt := 162) hX (dk DX11_of_0 52 rfl) (by decide) (fun hc11 => ?_) (fun hc11 => ?_)
    · refine g_iconst (v := 0) hX (dk DX11_of_0 55 rfl) (by decide) ?_
      refine g_ireturn hX (dk DX11_of_0 56 rfl) rfl (rfl) (by decide) (by decide) ?_
      first
      | exact qW_of hY
      | exact qW_of (hY.sc hS)
    · refine g_iconst (v := 1) hX (dk DX11_of_0 53 rfl) (by decide) ?_
      refine g_goto (tgt := 163) hX (dk DX11_of_0 54 rfl) (by decide) ?_
      refine g_ireturn hX (dk DX11_of_0 56 rfl) rfl (rfl) (by decide) (by decide) ?_
      first
      | exact qW_of hY
      | exact qW_of (hY.sc hS)
  refine ⟨fun hc12 => ?_, fun hc12n => ?_⟩
  · show GG _ _ _ _ _ _ _ _ _ _ _ _ _
    refine g_aload_0 hX (dk DX11_of_0 57 rfl) ?_
    refine g_getRs (r := 1) hX (dk DX11_of_0 58 rfl) KX11 fX11_12 (by decide) rfl (CLt hH (q := 0) (by decide)) (CC hH 0 (by decide) rfl) (CR hH 0 0 1 (by decide)) ?_
    refine g_aload_3 hX (dk DX11_of_0 59 rfl) ?_
    refine g_aload_0 hX (dk DX11_of_1 0 rfl) ?_
    refine g_getRs (r := 1) hX (dk DX11_of_1 1 rfl) KX11 fX11_12 (by decide) rfl (CLt hH (q := 0) (by decide)) (CC hH 0 (by decide) rfl) (CR hH 0 0 1 (by decide)) ?_
    refine g_getI hX (dk DX11_of_1 2 rfl) KX5 fX11_122 (by decide) rfl (CLt hH (q := 1) (by decide)) (CC hH 1 (by decide) rfl) ?_
    refine g_c3I hX sX11_of_176 (by decide) (Nat.le_of_ble_eq_true rfl) (rc0 rfl (CLt hH (by decide)) (CC hH 1 (by decide) rfl)) (by decide) (by decide) (c_X5_dearIn hG hW g3 (by rw [g4]; exact kcl_dc _)) ?_
    refine g_ireturn hX (dk DX11_of_1 4 rfl) rfl (rfl) (by decide) (by decide) ?_
    first
    | exact qW_of hY
    | exact qW_of (hY.sc hS)
  refine ⟨fun hc13 => ?_, fun hc13n => ?_⟩
  · show GG _ _ _ _ _ _ _ _ _ _ _ _ _
    refine g_aload_0 hX (dk DX11_of_1 5 rfl) ?_
    refine g_getRs (r := 1) hX (dk DX11_of_1 6 rfl) KX11 fX11_12 (by decide) rfl (CLt hH (q := 0) (by decide)) (CC hH 0 (by decide) rfl) (CR hH 0 0 1 (by decide)) ?_
    refine g_getRs (r := 3) hX (dk DX11_of_1 7 rfl) KX5 fX11_129 (by decide) rfl (CLt hH (q := 1) (by decide)) (CC hH 1 (by decide) rfl) (CR hH 1 1 3 (by decide)) ?_
    refine g_aload_3 hX (dk DX11_of_1 8 rfl) ?_
    refine g_getD (v := (nI d)) hX (dk DX11_of_1 9 rfl) fX11_132 (by decide) g3 (by rw [g4]; exact kcl_dc _) (g5) ?_
    refine i_iaload hX (dk DX11_of_1 10 rfl) (CLt hH (q := 3) (by decide)) (CS hH 3 (by decide) rfl) (⟨rfl, hd10, by decide⟩) ?_
    refine g_ireturn hX (dk DX11_of_1 11 rfl) rfl (rfl) (by decide) (by decide) ?_
    first
    | exact qW_of hY
    | exact qW_of (hY.sc hS)
  show GG _ _ _ _ _ _ _ _ _ _ _ _ _
  refine g_sipush (v := -10001) hX (dk DX11_of_1 12 rfl) (by decide) ?_
  refine g_ireturn hX (dk DX11_of_1 13 rfl) rfl (rfl) (by decide) (by decide) ?_
  first
  | exact qW_of hY
  | exact qW_of (hY.sc hS)

set_option maxRecDepth 8000 in
set_option maxHeartbeats 4000000 in
theorem z_of {G : Gt} (hG : Gok G) {I : It} {h : Ht}  {E : It} {L : Nat → Int64} (hE : Inv E) (hY : RY E L I h) {a : Int32} (hno : ¬ isD E a) {w : Int32} : Con G (8) 0 0 mX11_of [.ref 0, .int a, .int w] I h (qW E L (hn h)) := by
  refine con_intro (own := RX11) (lo0 := [some (.ref 0), some (.int a), some (.int w), none]) hG rfl pl_X11 (Nat.le_of_ble_eq_true rfl) rfl (fun X hX => ?_)
  have hW := hY.wx hE
  have hH := hW.1
  have hc10 := hW.2.1.2
  refine g_aload_0 hX (dk DX11_of_0 0 rfl) ?_
  refine g_getRs (r := 1) hX (dk DX11_of_0 1 rfl) KX11 fX11_12 (by decide) rfl (CLt hH (q := 0) (by decide)) (CC hH 0 (by decide) rfl) (CR hH 0 0 1 (by decide)) ?_
  refine g_iload_1 hX (dk DX11_of_0 2 rfl) ?_
  refine g_c2R hX sX11_of_5 (by decide) (Nat.le_of_ble_eq_true rfl) (rc0 rfl (CLt hH (by decide)) (CC hH 1 (by decide) rfl)) (by decide) (by decide) (c_X5_find0 hG hW (hY.no hE hno)) ?_
  refine g_astoreN_3 hX (dk DX11_of_0 4 rfl) (by decide) rfl ?_
  refine g_aloadN_3 hX (dk DX11_of_0 5 rfl) ?_
  refine g_ifnonnullN hX (dk DX11_of_0 6 rfl) ?_
  refine g_sipush (v := -10001) hX (dk DX11_of_0 7 rfl) (by decide) ?_
  refine g_ireturn hX (dk DX11_of_0 8 rfl) rfl (rfl) (by decide) (by decide) ?_
  exact qW_of hY

theorem x_of {G : Gt} (hG : Gok G) {I : It} {h : Ht} {E : It} {L : Nat → Int64} (hE : Inv E) (hY : RY E L I h) {a : Int32} {w : Int32} : Con G 8 0 0 mX11_of [.ref 0, .int a, .int w] I h (qW E L (hn h)) := by
  by_cases hh : isD E a
  · obtain ⟨d, hd, rfl⟩ := isD_of hE hh
    exact y_of hG hE hY hd (w := w)
  · exact z_of hG hE hY hh (w := w)
end
section
set_option maxRecDepth 8000 in
set_option maxHeartbeats 4000000 in
theorem x_hand {G : Gt} (hG : Gok G) {I : It} {h : Ht}  {E : It} {L : Nat → Int64} (hE : Inv E) (hY : RY E L I h)  : Con G (8) 0 0 mX11_hand [.ref 0] I h (qW E L (hn h)) := by
  refine con_intro (own := RX11) (lo0 := [some (.ref 0), none]) hG rfl pl_X11 (Nat.le_of_ble_eq_true rfl) rfl (fun X hX => ?_)
  have hW := hY.wx hE
  have hH := hW.1
  have hc10 := hW.2.1.2
  refine g_aload_0 hX (dk DX11_hand 0 rfl) ?_
  refine g_getRs (r := 13) hX (dk DX11_hand 1 rfl) KX11 fX11_26 (by decide) rfl (CLt hH (q := 0) (by decide)) (CC hH 0 (by decide) rfl) (CR hH 0 3 13 (by decide)) ?_
  refine g_c1v hX sX11_hand_4 (by decide) (Nat.le_of_ble_eq_true rfl) (rc0 rfl (CLt hH (by decide)) (CC hH 13 (by decide) rfl)) (by decide) (by decide) (w_X0_hear hG hW) ?_
  rintro J _ ⟨hS, h13, rfl⟩
  have hW2 := hW.sc hS
  refine g_aload_0 hX (dk DX11_hand 3 rfl) ?_
  refine g_getRs (r := 13) hX (dk DX11_hand 4 rfl) KX11 fX11_26 (by decide) rfl (CLt hH (q := 0) (by decide)) (CC hH 0 (by decide) rfl) (CR hH 0 3 13 (by decide)) ?_
  refine g_aload_0 hX (dk DX11_hand 5 rfl) ?_
  refine g_getRs (r := 1) hX (dk DX11_hand 6 rfl) KX11 fX11_12 (by decide) rfl (CLt hH (q := 0) (by decide)) (CC hH 0 (by decide) rfl) (CR hH 0 0 1 (by decide)) ?_
  refine g_getRs (r := 4) hX (dk DX11_hand 7 rfl) KX5 fX11_139 (by decide) rfl (CLt hH (q := 1) (by decide)) (CC hH 1 (by decide) rfl) (CR hH 1 5 4 (by decide)) ?_
  refine g_c2q hX sX11_hand_18 (by decide) (Nat.le_of_ble_eq_true rfl) (rc0 rfl (CLt hH (by decide)) (CC hH 13 (by decide) rfl)) (by decide) (by decide) (w_X0_goingOver hG hW2 (CLt hH (q := 4) (by decide)) (CS hH 4 (by decide) rfl)) ?_
  rintro _ _ _ ⟨rfl, rfl⟩
  refine g_aload_0 hX (dk DX11_hand 9 rfl) ?_
  refine g_getRs (r := 1) hX (dk DX11_hand 10 rfl) KX11 fX11_12 (by decide) rfl (CLt hH (q := 0) (by decide)) (CC hH 0 (by decide) rfl) (CR hH 0 0 1 (by decide)) ?_
  refine g_getI hX (dk DX11_hand 11 rfl) KX5 fX11_116 (by decide) rfl (CLt hH (q := 1) (by decide)) (CC hH 1 (by decide) rfl) ?_
  refine g_iconst (v := -1) hX (dk DX11_hand 12 rfl) (by decide) ?_
  refine g_ixor hX (dk DX11_hand 13 rfl) ?_
  refine g_iand hX (dk DX11_hand 14 rfl) ?_
  refine g_istore_1 hX (dk DX11_hand 15 rfl) (by decide) rfl ?_
  refine g_aload_0 hX (dk DX11_hand 16 rfl) ?_
  refine g_getRs (r := 1) hX (dk DX11_hand 17 rfl) KX11 fX11_12 (by decide) rfl (CLt hH (q := 0) (by decide)) (CC hH 0 (by decide) rfl) (CR hH 0 0 1 (by decide)) ?_
  refine g_dup hX (dk DX11_hand 18 rfl) rfl ?_
  refine g_getI hX (dk DX11_hand 19 rfl) KX5 fX11_116 (by decide) rfl (CLt hH (q := 1) (by decide)) (CC hH 1 (by decide) rfl) ?_
  refine g_iload_1 hX (dk DX11_hand 20 rfl) ?_
  refine g_ior hX (dk DX11_hand 21 rfl) ?_
  refine g_putI hX (dk DX11_hand 22 rfl) KX5 fX11_116 (by decide) rfl (CLt hH (q := 1) (by decide)) (CC hH 1 (by decide) rfl) (Or.inl rfl) (rfl) (rfl) ?_
  refine g_iload_1 hX (dk DX11_hand 23 rfl) ?_
  refine g_c1q hX sX11_hand_46 (by decide) (Nat.le_of_ble_eq_true rfl) rcN (by decide) (by decide) (c_J6_bitCount_0f7a4 hG) ?_
  rintro _ _ _ ⟨-, rfl, rfl⟩
  refine g_ireturn hX (dk DX11_hand 25 rfl) rfl (rfl) (by decide) (by decide) ?_
  exact qW_of ((hY.sc hS).u1 (by decide))

set_option maxRecDepth 8000 in
set_option maxHeartbeats 4000000 in
theorem x_run {G : Gt} (hG : Gok G) {I : It} {h : Ht}  {E : It} {L : Nat → Int64} (hE : Inv E) (hY : RY E L I h) {n w : Int32} : Con G (8) 0 0 mX11_run [.ref 0, .int n, .int w] I h (qW E L (hn h)) := by
  refine con_intro (own := RX11) (lo0 := [some (.ref 0), some (.int n), some (.int w), none]) hG rfl pl_X11 (Nat.le_of_ble_eq_true rfl) rfl (fun X hX => ?_)
  have hW := hY.wx hE
  have hH := hW.1
  have hc10 := hW.2.1.2
  refine g_iload_2 hX (dk DX11_run 0 rfl) ?_
  refine g_iconst (v := 0) hX (dk DX11_run 1 rfl) (by decide) ?_
  refine g_iconst (v := 5) hX (dk DX11_run 2 rfl) (by decide) ?_
  refine g_c3I hX sX11_run_3 (by decide) (Nat.le_of_ble_eq_true rfl) rcN (by decide) (by decide) (c_X11_isNot hG ) ?_
  refine g_ifb_eq (tgt := 13) hX (dk DX11_run 4 rfl) (by decide) (fun hc1 => ?_) (fun hc1 => ?_)
  · refine g_iload_1 hX (dk DX11_run 7 rfl) ?_
    refine g_iconst (v := 0) hX (dk DX11_run 8 rfl) (by decide) ?_
    refine g_sipush (v := 200) hX (dk DX11_run 9 rfl) (by decide) ?_
    refine g_c3I hX sX11_run_18 (by decide) (Nat.le_of_ble_eq_true rfl) rcN (by decide) (by decide) (c_X11_isNot hG ) ?_
    refine g_ifb_eq (tgt := 28) hX (dk DX11_run 11 rfl) (by decide) (fun hc2 => ?_) (fun hc2 => ?_)
    · refine g_aload_0 hX (dk DX11_run 14 rfl) ?_
      refine g_getRs (r := 13) hX (dk DX11_run 15 rfl) KX11 fX11_26 (by decide) rfl (CLt hH (q := 0) (by decide)) (CC hH 0 (by decide) rfl) (CR hH 0 3 13 (by decide)) ?_
      refine g_iload_1 hX (dk DX11_run 16 rfl) ?_
      refine g_c2v hX sX11_run_33 (by decide) (Nat.le_of_ble_eq_true rfl) (rc0 rfl (CLt hH (by decide)) (CC hH 13 (by decide) rfl)) (by decide) (by decide) (w_X0_look hG hW) ?_
      rintro J _ ⟨hS, rfl, m, hm, hsp⟩
      have hW2 := hW.sc hS
      refine g_aload_0 hX (dk DX11_run 18 rfl) ?_
      refine g_getRs (r := 13) hX (dk DX11_run 19 rfl) KX11 fX11_26 (by decide) rfl (CLt hH (q := 0) (by decide)) (CC hH 0 (by decide) rfl) (CR hH 0 3 13 (by decide)) ?_
      refine g_aload_0 hX (dk DX11_run 20 rfl) ?_
      refine g_getRs (r := 1) hX (dk DX11_run 21 rfl) KX11 fX11_12 (by decide) rfl (CLt hH (q := 0) (by decide)) (CC hH 0 (by decide) rfl) (CR hH 0 0 1 (by decide)) ?_
      refine g_getI hX (dk DX11_run 22 rfl) KX5 fX11_116 (by decide) rfl (CLt hH (q := 1) (by decide)) (CC hH 1 (by decide) rfl) ?_
      refine g_aload_0 hX (dk DX11_run 23 rfl) ?_
      refine g_getRs (r := 1) hX (dk DX11_run 24 rfl) KX11 fX11_12 (by decide) rfl (CLt hH (q := 0) (by decide)) (CC hH 0 (by decide) rfl) (CR hH 0 0 1 (by decide)) ?_
      refine g_getI hX (dk DX11_run 25 rfl) KX5 fX11_109 (by decide) rfl (CLt hH (q := 1) (by decide)) (CC hH 1 (by decide) rfl) ?_
      refine g_c3q hX sX11_run_54 (by decide) (Nat.le_of_ble_eq_true rfl) (rc0 rfl (CLt hH (by decide)) (CC hH 13 (by decide) rfl)) (by decide) (by decide) (w_X0_pass hG hW2 hm hsp) ?_
      rintro _ J2 _ ⟨hP2, rfl⟩
      have hS2 := hS.trans hP2.sc
      have hsp2 := hP2.2.trans hsp
      refine g_istore_3 hX (dk DX11_run 27 rfl) (by decide) rfl ?_
      refine g_iload_2 hX (dk DX11_run 28 rfl) ?_
      refine g_tswitch (dt := 129) hX [(0, 92), (1, 94), (2, 102), (3, 110), (4, 121)] (dk DX11_run 29 rfl) (by decide +kernel) ?_
      refine ⟨fun hc3 => ?_, fun hc3n => ?_⟩
      · show GG _ _ _ _ _ _ _ _ _ _ _ _ _
        refine g_iload_3 hX (dk DX11_run 30 rfl) ?_
        refine g_ireturn hX (dk DX11_run 31 rfl) rfl (rfl) (by decide) (by decide) ?_
        first
        | exact qW_of hY
        | exact qW_of (hY.sc hS2)
      refine ⟨fun hc4 => ?_, fun hc4n => ?_⟩
      · show GG _ _ _ _ _ _ _ _ _ _ _ _ _
        refine g_aload_0 hX (dk DX11_run 32 rfl) ?_
        refine g_getRs (r := 13) hX (dk DX11_run 33 rfl) KX11 fX11_26 (by decide) rfl (CLt hH (q := 0) (by decide)) (CC hH 0 (by decide) rfl) (CR hH 0 3 13 (by decide)) ?_
        refine g_getI hX (dk DX11_run 34 rfl) KX0 fX11_193 (by decide) rfl (CLt hH (q := 13) (by decide)) (CC hH 13 (by decide) rfl) ?_
        refine g_ireturn hX (dk DX11_run 35 rfl) rfl (rfl) (by decide) (by decide) ?_
        first
        | exact qW_of hY
        | exact qW_of (hY.sc hS2)
      refine ⟨fun hc5 => ?_, fun hc5n => ?_⟩
      · show GG _ _ _ _ _ _ _ _ _ _ _ _ _
        refine g_aload_0 hX (dk DX11_run 36 rfl) ?_
        refine g_getRs (r := 13) hX (dk DX11_run 37 rfl) KX11 fX11_26 (by decide) rfl (CLt hH (q := 0) (by decide)) (CC hH 0 (by decide) rfl) (CR hH 0 3 13 (by decide)) ?_
        refine g_getI hX (dk DX11_run 38 rfl) KX0 fX11_194 (by decide) rfl (CLt hH (q := 13) (by decide)) (CC hH 13 (by decide) rfl) ?_
        refine g_ireturn hX (dk DX11_run 39 rfl) rfl (rfl) (by decide) (by decide) ?_
        first
        | exact qW_of hY
        | exact qW_of (hY.sc hS2)
      refine ⟨fun hc6 => ?_, fun hc6n => ?_⟩
      · show GG _ _ _ _ _ _ _ _ _ _ _ _ _
        refine g_aload_0 hX (dk DX11_run 40 rfl) ?_
        refine g_getRs (r := 13) hX (dk DX11_run 41 rfl) KX11 fX11_26 (by decide) rfl (CLt hH (q := 0) (by decide)) (CC hH 0 (by decide) rfl) (CR hH 0 3 13 (by decide)) ?_
        refine g_getI hX (dk DX11_run 42 rfl) KX0 fX11_195 (by decide) rfl (CLt hH (q := 13) (by decide)) (CC hH 13 (by decide) rfl) ?_
        refine g_c1q hX sX11_run_117 (by decide) (Nat.le_of_ble_eq_true rfl) rcN (by decide) (by decide) (c_J6_bitCount_0f7a4 hG) ?_
        rintro _ _ _ ⟨-, rfl, rfl⟩
        refine g_ireturn hX (dk DX11_run 44 rfl) rfl (rfl) (by decide) (by decide) ?_
        first
        | exact qW_of hY
        | exact qW_of (hY.sc hS2)
      refine ⟨fun hc7 => ?_, fun hc7n => ?_⟩
      · show GG _ _ _ _ _ _ _ _ _ _ _ _ _
        refine g_aload_0 hX (dk DX11_run 45 rfl) ?_
        refine g_getRs (r := 13) hX (dk DX11_run 46 rfl) KX11 fX11_26 (by decide) rfl (CLt hH (q := 0) (by decide)) (CC hH 0 (by decide) rfl) (CR hH 0 3 13 (by decide)) ?_
        refine g_getI hX (dk DX11_run 47 rfl) KX0 fX11_196 (by decide) rfl (CLt hH (q := 13) (by decide)) (CC hH 13 (by decide) rfl) ?_
        refine g_ireturn hX (dk DX11_run 48 rfl) rfl (rfl) (by decide) (by decide) ?_
        first
        | exact qW_of hY
        | exact qW_of (hY.sc hS2)
      show GG _ _ _ _ _ _ _ _ _ _ _ _ _
      refine g_aload_0 hX (dk DX11_run 49 rfl) ?_
      refine g_getRs (r := 13) hX (dk DX11_run 50 rfl) KX11 fX11_26 (by decide) rfl (CLt hH (q := 0) (by decide)) (CC hH 0 (by decide) rfl) (CR hH 0 3 13 (by decide)) ?_
      refine g_getI hX (dk DX11_run 51 rfl) KX0 fX11_199 (by decide) rfl (CLt hH (q := 13) (by decide)) (CC hH 13 (by decide) rfl) ?_
      refine g_ireturn hX (dk DX11_run 52 rfl) rfl (rfl) (by decide) (by decide) ?_
      first
      | exact qW_of hY
      | exact qW_of (hY.sc hS2)
    · refine g_sipush (v := -10002) hX (dk DX11_run 12 rfl) (by decide) ?_
      refine g_ireturn hX (dk DX11_run 13 rfl) rfl (rfl) (by decide) (by decide) ?_
      first
      | exact qW_of hY
      | exact qW_of (hY.sc hS2)
  · refine g_sipush (v := -10001) hX (dk DX11_run 5 rfl) (by decide) ?_
    refine g_ireturn hX (dk DX11_run 6 rfl) rfl (rfl) (by decide) (by decide) ?_
    first
    | exact qW_of hY
    | exact qW_of (hY.sc hS2)

set_option maxRecDepth 8000 in
set_option maxHeartbeats 4000000 in
theorem x_ask {G : Gt} (hG : Gok G) {I : It} {h : Ht}  {E : It} {L : Nat → Int64} (hE : Inv E) (hY : RY E L I h) {n : Int32} : Con G (8) 0 0 mX11_ask [.ref 0, .int n] I h (qW E L (hn h)) := by
  refine con_intro (own := RX11) (lo0 := [some (.ref 0), some (.int n)]) hG rfl pl_X11 (Nat.le_of_ble_eq_true rfl) rfl (fun X hX => ?_)
  have hW := hY.wx hE
  have hH := hW.1
  have hc10 := hW.2.1.2
  refine g_iload_1 hX (dk DX11_ask 0 rfl) ?_
  refine g_iconst (v := 0) hX (dk DX11_ask 1 rfl) (by decide) ?_
  refine g_bipush (v := 60) hX (dk DX11_ask 2 rfl) (by decide) ?_
  refine g_c3I hX sX11_ask_4 (by decide) (Nat.le_of_ble_eq_true rfl) rcN (by decide) (by decide) (c_X11_isNot hG ) ?_
  refine g_ifb_eq (tgt := 13) hX (dk DX11_ask 4 rfl) (by decide) (fun hc1 => ?_) (fun hc1 => ?_)
  · refine g_aload_0 hX (dk DX11_ask 7 rfl) ?_
    refine g_getRs (r := 13) hX (dk DX11_ask 8 rfl) KX11 fX11_26 (by decide) rfl (CLt hH (q := 0) (by decide)) (CC hH 0 (by decide) rfl) (CR hH 0 3 13 (by decide)) ?_
    refine g_iload_1 hX (dk DX11_ask 9 rfl) ?_
    refine g_c2v hX sX11_ask_18 (by decide) (Nat.le_of_ble_eq_true rfl) (rc0 rfl (CLt hH (by decide)) (CC hH 13 (by decide) rfl)) (by decide) (by decide) (w_X0_look hG hW) ?_
    rintro J _ ⟨hS, rfl, m, hm, hsp⟩
    have hW2 := hW.sc hS
    refine g_aload_0 hX (dk DX11_ask 11 rfl) ?_
    refine g_getRs (r := 13) hX (dk DX11_ask 12 rfl) KX11 fX11_26 (by decide) rfl (CLt hH (q := 0) (by decide)) (CC hH 0 (by decide) rfl) (CR hH 0 3 13 (by decide)) ?_
    refine g_aload_0 hX (dk DX11_ask 13 rfl) ?_
    refine g_getRs (r := 1) hX (dk DX11_ask 14 rfl) KX11 fX11_12 (by decide) rfl (CLt hH (q := 0) (by decide)) (CC hH 0 (by decide) rfl) (CR hH 0 0 1 (by decide)) ?_
    refine g_getI hX (dk DX11_ask 15 rfl) KX5 fX11_116 (by decide) rfl (CLt hH (q := 1) (by decide)) (CC hH 1 (by decide) rfl) ?_
    refine g_iconst (v := -1) hX (dk DX11_ask 16 rfl) (by decide) ?_
    refine g_ixor hX (dk DX11_ask 17 rfl) ?_
    refine g_iconst (v := 1) hX (dk DX11_ask 18 rfl) (by decide) ?_
    refine g_c3q hX sX11_ask_35 (by decide) (Nat.le_of_ble_eq_true rfl) (rc0 rfl (CLt hH (by decide)) (CC hH 13 (by decide) rfl)) (by decide) (by decide) (w_X0_bestOf hG hW2 hm hsp) ?_
    rintro _ J2 _ ⟨hP2, rfl⟩
    have hS2 := hS.trans hP2.sc
    refine g_ireturn hX (dk DX11_ask 20 rfl) rfl (rfl) (by decide) (by decide) ?_
    first
    | exact qW_of hY
    | exact qW_of (hY.sc hS2)
  · refine g_bipush (v := -2) hX (dk DX11_ask 5 rfl) (by decide) ?_
    refine g_ireturn hX (dk DX11_ask 6 rfl) rfl (rfl) (by decide) (by decide) ?_
    first
    | exact qW_of hY
    | exact qW_of (hY.sc hS2)

set_option maxRecDepth 8000 in
set_option maxHeartbeats 4000000 in
theorem x_drop {G : Gt} (hG : Gok G) {I : It} {h : Ht}  {E : It} {L : Nat → Int64} (hE : Inv E) (hY : RY E L I h) {n : Int32} : Con G (8) 0 0 mX11_drop [.ref 0, .int n] I h (qW E L (hn h)) := by
  refine con_intro (own := RX11) (lo0 := [some (.ref 0), some (.int n)]) hG rfl pl_X11 (Nat.le_of_ble_eq_true rfl) rfl (fun X hX => ?_)
  have hW := hY.wx hE
  have hH := hW.1
  have hc10 := hW.2.1.2
  refine g_iload_1 hX (dk DX11_drop 0 rfl) ?_
  refine g_iconst (v := 0) hX (dk DX11_drop 1 rfl) (by decide) ?_
  refine g_bipush (v := 60) hX (dk DX11_drop 2 rfl) (by decide) ?_
  refine g_c3I hX sX11_drop_4 (by decide) (Nat.le_of_ble_eq_true rfl) rcN (by decide) (by decide) (c_X11_isNot hG ) ?_
  refine g_ifb_eq (tgt := 13) hX (dk DX11_drop 4 rfl) (by decide) (fun hc1 => ?_) (fun hc1 => ?_)
  · refine g_aload_0 hX (dk DX11_drop 7 rfl) ?_
    refine g_getRs (r := 13) hX (dk DX11_drop 8 rfl) KX11 fX11_26 (by decide) rfl (CLt hH (q := 0) (by decide)) (CC hH 0 (by decide) rfl) (CR hH 0 3 13 (by decide)) ?_
    refine g_iload_1 hX (dk DX11_drop 9 rfl) ?_
    refine g_c2v hX sX11_drop_18 (by decide) (Nat.le_of_ble_eq_true rfl) (rc0 rfl (CLt hH (by decide)) (CC hH 13 (by decide) rfl)) (by decide) (by decide) (w_X0_look hG hW) ?_
    rintro J _ ⟨hS, rfl, m, hm, hsp⟩
    have hW2 := hW.sc hS
    refine g_aload_0 hX (dk DX11_drop 11 rfl) ?_
    refine g_getRs (r := 13) hX (dk DX11_drop 12 rfl) KX11 fX11_26 (by decide) rfl (CLt hH (q := 0) (by decide)) (CC hH 0 (by decide) rfl) (CR hH 0 3 13 (by decide)) ?_
    refine g_aload_0 hX (dk DX11_drop 13 rfl) ?_
    refine g_getRs (r := 1) hX (dk DX11_drop 14 rfl) KX11 fX11_12 (by decide) rfl (CLt hH (q := 0) (by decide)) (CC hH 0 (by decide) rfl) (CR hH 0 0 1 (by decide)) ?_
    refine g_getI hX (dk DX11_drop 15 rfl) KX5 fX11_109 (by decide) rfl (CLt hH (q := 1) (by decide)) (CC hH 1 (by decide) rfl) ?_
    refine g_iconst (v := -1) hX (dk DX11_drop 16 rfl) (by decide) ?_
    refine g_ixor hX (dk DX11_drop 17 rfl) ?_
    refine g_iconst (v := 0) hX (dk DX11_drop 18 rfl) (by decide) ?_
    refine g_c3q hX sX11_drop_35 (by decide) (Nat.le_of_ble_eq_true rfl) (rc0 rfl (CLt hH (by decide)) (CC hH 13 (by decide) rfl)) (by decide) (by decide) (w_X0_bestOf hG hW2 hm hsp) ?_
    rintro _ J2 _ ⟨hP2, rfl⟩
    have hS2 := hS.trans hP2.sc
    refine g_ireturn hX (dk DX11_drop 20 rfl) rfl (rfl) (by decide) (by decide) ?_
    first
    | exact qW_of hY
    | exact qW_of (hY.sc hS2)
  · refine g_bipush (v := -2) hX (dk DX11_drop 5 rfl) (by decide) ?_
    refine g_ireturn hX (dk DX11_drop 6 rfl) rfl (rfl) (by decide) (by decide) ?_
    first
    | exact qW_of hY
    | exact qW_of (hY.sc hS2)

set_option maxRecDepth 8000 in
set_option maxHeartbeats 4000000 in
theorem x_looked {G : Gt} (hG : Gok G) {I : It} {h : Ht}  {E : It} {L : Nat → Int64} (hE : Inv E) (hY : RY E L I h)  : Con G (8) 0 0 mX11_looked [.ref 0] I h (qW E L (hn h)) := by
  refine con_intro (own := RX11) (lo0 := [some (.ref 0)]) hG rfl pl_X11 (Nat.le_of_ble_eq_true rfl) rfl (fun X hX => ?_)
  have hW := hY.wx hE
  have hH := hW.1
  have hc10 := hW.2.1.2
  refine g_aload_0 hX (dk DX11_looked 0 rfl) ?_
  refine g_getRs (r := 13) hX (dk DX11_looked 1 rfl) KX11 fX11_26 (by decide) rfl (CLt hH (q := 0) (by decide)) (CC hH 0 (by decide) rfl) (CR hH 0 3 13 (by decide)) ?_
  refine g_aload_0 hX (dk DX11_looked 2 rfl) ?_
  refine g_getRs (r := 1) hX (dk DX11_looked 3 rfl) KX11 fX11_12 (by decide) rfl (CLt hH (q := 0) (by decide)) (CC hH 0 (by decide) rfl) (CR hH 0 0 1 (by decide)) ?_
  refine g_c1q hX sX11_looked_8 (by decide) (Nat.le_of_ble_eq_true rfl) (rc0 rfl (CLt hH (by decide)) (CC hH 1 (by decide) rfl)) (by decide) (by decide) (c_X5_weeksToRows hG hW) ?_
  rintro _ _ _ ⟨rfl, rfl⟩
  refine g_c2v hX sX11_looked_11 (by decide) (Nat.le_of_ble_eq_true rfl) (rc0 rfl (CLt hH (by decide)) (CC hH 13 (by decide) rfl)) (by decide) (by decide) (w_X0_look hG hW) ?_
  rintro J _ ⟨hS, rfl, m, hm, hsp⟩
  have hW2 := hW.sc hS
  refine g_aload_0 hX (dk DX11_looked 6 rfl) ?_
  refine g_getRs (r := 13) hX (dk DX11_looked 7 rfl) KX11 fX11_26 (by decide) rfl (CLt hH (q := 0) (by decide)) (CC hH 0 (by decide) rfl) (CR hH 0 3 13 (by decide)) ?_
  refine g_aload_0 hX (dk DX11_looked 8 rfl) ?_
  refine g_getRs (r := 1) hX (dk DX11_looked 9 rfl) KX11 fX11_12 (by decide) rfl (CLt hH (q := 0) (by decide)) (CC hH 0 (by decide) rfl) (CR hH 0 0 1 (by decide)) ?_
  refine g_getI hX (dk DX11_looked 10 rfl) KX5 fX11_116 (by decide) rfl (CLt hH (q := 1) (by decide)) (CC hH 1 (by decide) rfl) ?_
  refine g_aload_0 hX (dk DX11_looked 11 rfl) ?_
  refine g_getRs (r := 1) hX (dk DX11_looked 12 rfl) KX11 fX11_12 (by decide) rfl (CLt hH (q := 0) (by decide)) (CC hH 0 (by decide) rfl) (CR hH 0 0 1 (by decide)) ?_
  refine g_getI hX (dk DX11_looked 13 rfl) KX5 fX11_109 (by decide) rfl (CLt hH (q := 1) (by decide)) (CC hH 1 (by decide) rfl) ?_
  refine g_c3q hX sX11_looked_32 (by decide) (Nat.le_of_ble_eq_true rfl) (rc0 rfl (CLt hH (by decide)) (CC hH 13 (by decide) rfl)) (by decide) (by decide) (w_X0_pass hG hW2 hm hsp) ?_
  rintro _ J2 _ ⟨hP2, rfl⟩
  have hS2 := hS.trans hP2.sc
  have hsp2 := hP2.2.trans hsp
  refine g_pop hX (dk DX11_looked 15 rfl) rfl ?_
  refine g_aload_0 hX (dk DX11_looked 16 rfl) ?_
  refine g_getRs (r := 13) hX (dk DX11_looked 17 rfl) KX11 fX11_26 (by decide) rfl (CLt hH (q := 0) (by decide)) (CC hH 0 (by decide) rfl) (CR hH 0 3 13 (by decide)) ?_
  refine g_c1q hX sX11_looked_40 (by decide) (Nat.le_of_ble_eq_true rfl) (rc0 rfl (CLt hH (by decide)) (CC hH 13 (by decide) rfl)) (by decide) (by decide) (w_X0_firstRowNotSo hG (hW.sc hS2) hm hsp2) ?_
  rintro _ _ _ ⟨rfl, rfl⟩
  refine g_ireturn hX (dk DX11_looked 19 rfl) rfl (rfl) (by decide) (by decide) ?_
  exact qW_of (hY.sc hS2)

set_option maxRecDepth 8000 in
set_option maxHeartbeats 4000000 in
theorem x_more {G : Gt} (hG : Gok G) {I : It} {h : Ht}  {E : It} {L : Nat → Int64} (hE : Inv E) (hY : RY E L I h) {a n : Int32} : Con G (8) 0 0 mX11_more [.ref 0, .int a, .int n] I h (qW E L (hn h)) := by
  refine con_intro (own := RX11) (lo0 := [some (.ref 0), some (.int a), some (.int n)]) hG rfl pl_X11 (Nat.le_of_ble_eq_true rfl) rfl (fun X hX => ?_)
  have hW := hY.wx hE
  have hH := hW.1
  have hc10 := hW.2.1.2
  refine g_iload_1 hX (dk DX11_more 0 rfl) ?_
  refine g_iconst (v := 0) hX (dk DX11_more 1 rfl) (by decide) ?_
  refine g_iconst (v := 3) hX (dk DX11_more 2 rfl) (by decide) ?_
  refine g_c3I hX sX11_more_3 (by decide) (Nat.le_of_ble_eq_true rfl) rcN (by decide) (by decide) (c_X11_isNot hG ) ?_
  refine g_ifb_eq (tgt := 13) hX (dk DX11_more 4 rfl) (by decide) (fun hc1 => ?_) (fun hc1 => ?_)
  · refine g_iload_2 hX (dk DX11_more 7 rfl) ?_
    refine g_iconst (v := 0) hX (dk DX11_more 8 rfl) (by decide) ?_
    refine g_bipush (v := 60) hX (dk DX11_more 9 rfl) (by decide) ?_
    refine g_c3I hX sX11_more_17 (by decide) (Nat.le_of_ble_eq_true rfl) rcN (by decide) (by decide) (c_X11_isNot hG ) ?_
    refine g_ifb_eq (tgt := 27) hX (dk DX11_more 11 rfl) (by decide) (fun hc2 => ?_) (fun hc2 => ?_)
    · obtain ⟨y, hy, rfl⟩ := in_of (b := 3) (by decide) (Decidable.not_not.mp hc1)
      refine g_aload_0 hX (dk DX11_more 14 rfl) ?_
      refine g_getRs (r := 1) hX (dk DX11_more 15 rfl) KX11 fX11_12 (by decide) rfl (CLt hH (q := 0) (by decide)) (CC hH 0 (by decide) rfl) (CR hH 0 0 1 (by decide)) ?_
      refine g_getRs (r := 4) hX (dk DX11_more 16 rfl) KX5 fX11_139 (by decide) rfl (CLt hH (q := 1) (by decide)) (CC hH 1 (by decide) rfl) (CR hH 1 5 4 (by decide)) ?_
      refine g_iload_1 hX (dk DX11_more 17 rfl) ?_
      refine i_iaload hX (dk DX11_more 18 rfl) (CLt hH (q := 4) (by decide)) (CS hH 4 (by decide) rfl) (⟨rfl, by omega, by decide⟩) ?_
      refine g_bipush (v := 9) hX (dk DX11_more 19 rfl) (by decide) ?_
      refine g_icmp_lt (tgt := 43) hX (dk DX11_more 20 rfl) (by decide) (fun hc3 => ?_) (fun hc3 => ?_)
      · refine g_aload_0 hX (dk DX11_more 23 rfl) ?_
        refine g_getRs (r := 13) hX (dk DX11_more 24 rfl) KX11 fX11_26 (by decide) rfl (CLt hH (q := 0) (by decide)) (CC hH 0 (by decide) rfl) (CR hH 0 3 13 (by decide)) ?_
        refine g_iload_2 hX (dk DX11_more 25 rfl) ?_
        refine g_c2v hX sX11_more_48 (by decide) (Nat.le_of_ble_eq_true rfl) (rc0 rfl (CLt hH (by decide)) (CC hH 13 (by decide) rfl)) (by decide) (by decide) (w_X0_look hG hW) ?_
        rintro J _ ⟨hS, rfl, m, hm, hsp⟩
        have hW2 := hW.sc hS
        refine g_aload_0 hX (dk DX11_more 27 rfl) ?_
        refine g_getRs (r := 13) hX (dk DX11_more 28 rfl) KX11 fX11_26 (by decide) rfl (CLt hH (q := 0) (by decide)) (CC hH 0 (by decide) rfl) (CR hH 0 3 13 (by decide)) ?_
        refine g_c1v hX sX11_more_55 (by decide) (Nat.le_of_ble_eq_true rfl) (rc0 rfl (CLt hH (by decide)) (CC hH 13 (by decide) rfl)) (by decide) (by decide) (w_X0_hear hG hW2) ?_
        rintro J2 _ ⟨hS2, h13, rfl⟩
        have hW3 := hW2.sc hS2
        have hsp2 : J2 13 1 = nI m := by rw [h13]; exact hsp
        refine g_aload_0 hX (dk DX11_more 30 rfl) ?_
        refine g_getRs (r := 13) hX (dk DX11_more 31 rfl) KX11 fX11_26 (by decide) rfl (CLt hH (q := 0) (by decide)) (CC hH 0 (by decide) rfl) (CR hH 0 3 13 (by decide)) ?_
        refine g_aload_0 hX (dk DX11_more 32 rfl) ?_
        refine g_getRs (r := 1) hX (dk DX11_more 33 rfl) KX11 fX11_12 (by decide) rfl (CLt hH (q := 0) (by decide)) (CC hH 0 (by decide) rfl) (CR hH 0 0 1 (by decide)) ?_
        refine g_getRs (r := 4) hX (dk DX11_more 34 rfl) KX5 fX11_139 (by decide) rfl (CLt hH (q := 1) (by decide)) (CC hH 1 (by decide) rfl) (CR hH 1 5 4 (by decide)) ?_
        refine g_c2q hX sX11_more_69 (by decide) (Nat.le_of_ble_eq_true rfl) (rc0 rfl (CLt hH (by decide)) (CC hH 13 (by decide) rfl)) (by decide) (by decide) (w_X0_costHanded hG hW3 (CLt hH (q := 4) (by decide)) (CS hH 4 (by decide) rfl) hm hsp2) ?_
        rintro _ J3 _ ⟨hP3, rfl⟩
        have hW4 := hW3.sc hP3.sc
        have hsp3 := hP3.2.trans hsp2
        refine g_aload_0 hX (dk DX11_more 36 rfl) ?_
        refine g_getRs (r := 13) hX (dk DX11_more 37 rfl) KX11 fX11_26 (by decide) rfl (CLt hH (q := 0) (by decide)) (CC hH 0 (by decide) rfl) (CR hH 0 3 13 (by decide)) ?_
        refine g_aload_0 hX (dk DX11_more 38 rfl) ?_
        refine g_getRs (r := 13) hX (dk DX11_more 39 rfl) KX11 fX11_26 (by decide) rfl (CLt hH (q := 0) (by decide)) (CC hH 0 (by decide) rfl) (CR hH 0 3 13 (by decide)) ?_
        refine g_iload_1 hX (dk DX11_more 40 rfl) ?_
        refine g_c2 hX sX11_more_81 (by decide) (Nat.le_of_ble_eq_true rfl) (rc0 rfl (CLt hH (by decide)) (CC hH 13 (by decide) rfl)) (by decide) (by decide) (w_X0_hourMore hG hH) (fun r I2 h2 hq => ?_)
        obtain ⟨rfl, hf, rfl⟩ := hq
        have hS4 : Sc J3 I2 := Sc.of1 hf ⟨by decide, by decide⟩
        have hsp4 : I2 13 1 = nI m := by rw [hf 13 (by decide)]; exact hsp3
        refine g_c2q hX sX11_more_84 (by decide) (Nat.le_of_ble_eq_true rfl) (rc0 rfl (CLt hH (by decide)) (CC hH 13 (by decide) rfl)) (by decide) (by decide) (w_X0_costHanded hG (hW4.sc hS4) (CLt hH (q := 28) (by decide)) (CS hH 28 (by decide) rfl) hm hsp4) ?_
        rintro _ J5 _ ⟨hP5, rfl⟩
        refine g_isub hX (dk DX11_more 43 rfl) ?_
        refine g_ireturn hX (dk DX11_more 44 rfl) rfl (rfl) (by decide) (by decide) ?_
        first
        | exact qW_of hY
        | exact qW_of (hY.sc (hS.trans (hS2.trans (hP3.sc.trans (hS4.trans hP5.sc)))))
      · refine g_iconst (v := 0) hX (dk DX11_more 21 rfl) (by decide) ?_
        refine g_ireturn hX (dk DX11_more 22 rfl) rfl (rfl) (by decide) (by decide) ?_
        first
        | exact qW_of hY
        | exact qW_of (hY.sc (hS.trans (hS2.trans (hP3.sc.trans (hS4.trans hP5.sc)))))
    · refine g_sipush (v := -10002) hX (dk DX11_more 12 rfl) (by decide) ?_
      refine g_ireturn hX (dk DX11_more 13 rfl) rfl (rfl) (by decide) (by decide) ?_
      first
      | exact qW_of hY
      | exact qW_of (hY.sc (hS.trans (hS2.trans (hP3.sc.trans (hS4.trans hP5.sc)))))
  · refine g_sipush (v := -10001) hX (dk DX11_more 5 rfl) (by decide) ?_
    refine g_ireturn hX (dk DX11_more 6 rfl) rfl (rfl) (by decide) (by decide) ?_
    first
    | exact qW_of hY
    | exact qW_of (hY.sc (hS.trans (hS2.trans (hP3.sc.trans (hS4.trans hP5.sc)))))
end
