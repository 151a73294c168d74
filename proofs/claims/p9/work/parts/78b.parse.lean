set_option maxRecDepth 8000 in
set_option maxHeartbeats 4000000 in
theorem c_X3_readNumber {G : Gt} (hG : Gok G) {I : It} {h : Ht}  (hH : HX h) {p : Nat} (hp : p < 6)  : Con G (2) 0 0 mX3_readNumber [.ref (43 + 5 * p)] I h (rI (nuV p I) (nuW p I) h) := by
  refine con_intro (own := RX3) (lo0 := [some (.ref (43 + 5 * p)), none, none]) hG rfl pl_X3 (Nat.le_of_ble_eq_true rfl) rfl (fun X hX => ?_)
  refine g_iconst (v := 0) hX (dk DX3_readNumber 0 rfl) (by decide) ?_
  refine g_istore_1 hX (dk DX3_readNumber 1 rfl) (by decide) rfl ?_
  refine g_iconst (v := 0) hX (dk DX3_readNumber 2 rfl) (by decide) ?_
  refine g_istore_2 hX (dk DX3_readNumber 3 rfl) (by decide) rfl ?_
  refine g_iload_2 hX (dk DX3_readNumber 4 rfl) ?_
  refine g_iconst (v := 2) hX (dk DX3_readNumber 5 rfl) (by decide) ?_
  refine g_icmp_ge (tgt := 56) hX (dk DX3_readNumber 6 rfl) (by decide) (fun hc1 => absurd hc1 (by decide)) (fun hc1 => ?_)
  refine g_aload_0 hX (dk DX3_readNumber 7 rfl) ?_
  refine g_c1I hX sX3_readNumber_10 (by decide) (Nat.le_of_ble_eq_true rfl) (rc0 rfl (PL0 hH hp) (PSh hH hp)) (by decide) (by decide) (c_X3_here hG hH hp) ?_
  refine g_bipush (v := 48) hX (dk DX3_readNumber 9 rfl) (by decide) ?_
  refine g_icmp_lt (tgt := 56) hX (dk DX3_readNumber 10 rfl) (by decide) (fun hc2 => ?_) (fun hc2 => ?_)
  · refine g_iload_2 hX (dk DX3_readNumber 32 rfl) ?_
    refine g_if_ne (tgt := 65) hX (dk DX3_readNumber 33 rfl) (by decide) (fun hc3 => absurd hc3 (by decide)) (fun hc3 => ?_)
    refine g_aload_0 hX (dk DX3_readNumber 34 rfl) ?_
    refine g_iconst (v := 1) hX (dk DX3_readNumber 35 rfl) (by decide) ?_
    refine g_putI hX (dk DX3_readNumber 36 rfl) KX3 fX3_41 (by decide) rfl (PL0 hH hp) (PSh hH hp) (Or.inl rfl) (by decide) (by decide) ?_
    refine g_iload_1 hX (dk DX3_readNumber 37 rfl) ?_
    refine g_ireturn hX (dk DX3_readNumber 38 rfl) rfl (rfl) (by decide) (by decide) ?_
    exact rI_of (by unfold nuV; (try unfold incW); (try first | rw [if_pos hc1] | rw [if_neg hc1] | rw [if_neg (not_not_intro hc1)]); (try first | rw [if_pos hc2] | rw [if_neg hc2] | rw [if_neg (not_not_intro hc2)]); (try first | rw [if_pos hc3] | rw [if_neg hc3] | rw [if_neg (not_not_intro hc3)]); first | done | rfl) (by unfold nuW; (try unfold incW); (try first | rw [if_pos hc1] | rw [if_neg hc1] | rw [if_neg (not_not_intro hc1)]); (try first | rw [if_pos hc2] | rw [if_neg hc2] | rw [if_neg (not_not_intro hc2)]); (try first | rw [if_pos hc3] | rw [if_neg hc3] | rw [if_neg (not_not_intro hc3)]); first | done | rfl) rfl
  · refine g_aload_0 hX (dk DX3_readNumber 11 rfl) ?_
    refine g_c1I hX sX3_readNumber_19 (by decide) (Nat.le_of_ble_eq_true rfl) (rc0 rfl (PL0 hH hp) (PSh hH hp)) (by decide) (by decide) (c_X3_here hG hH hp) ?_
    refine g_bipush (v := 57) hX (dk DX3_readNumber 13 rfl) (by decide) ?_
    refine g_icmp_gt (tgt := 56) hX (dk DX3_readNumber 14 rfl) (by decide) (fun hc4 => ?_) (fun hc4 => ?_)
    · refine g_iload_2 hX (dk DX3_readNumber 32 rfl) ?_
      refine g_if_ne (tgt := 65) hX (dk DX3_readNumber 33 rfl) (by decide) (fun hc5 => absurd hc5 (by decide)) (fun hc5 => ?_)
      refine g_aload_0 hX (dk DX3_readNumber 34 rfl) ?_
      refine g_iconst (v := 1) hX (dk DX3_readNumber 35 rfl) (by decide) ?_
      refine g_putI hX (dk DX3_readNumber 36 rfl) KX3 fX3_41 (by decide) rfl (PL0 hH hp) (PSh hH hp) (Or.inl rfl) (by decide) (by decide) ?_
      refine g_iload_1 hX (dk DX3_readNumber 37 rfl) ?_
      refine g_ireturn hX (dk DX3_readNumber 38 rfl) rfl (rfl) (by decide) (by decide) ?_
      exact rI_of (by unfold nuV; (try unfold incW); (try first | rw [if_pos hc1] | rw [if_neg hc1] | rw [if_neg (not_not_intro hc1)]); (try first | rw [if_pos hc2] | rw [if_neg hc2] | rw [if_neg (not_not_intro hc2)]); (try first | rw [if_pos hc4] | rw [if_neg hc4] | rw [if_neg (not_not_intro hc4)]); (try first | rw [if_pos hc5] | rw [if_neg hc5] | rw [if_neg (not_not_intro hc5)]); first | done | rfl) (by unfold nuW; (try unfold incW); (try first | rw [if_pos hc1] | rw [if_neg hc1] | rw [if_neg (not_not_intro hc1)]); (try first | rw [if_pos hc2] | rw [if_neg hc2] | rw [if_neg (not_not_intro hc2)]); (try first | rw [if_pos hc4] | rw [if_neg hc4] | rw [if_neg (not_not_intro hc4)]); (try first | rw [if_pos hc5] | rw [if_neg hc5] | rw [if_neg (not_not_intro hc5)]); first | done | rfl) rfl
    · refine g_iload_1 hX (dk DX3_readNumber 15 rfl) ?_
      refine g_bipush (v := 10) hX (dk DX3_readNumber 16 rfl) (by decide) ?_
      refine g_imul hX (dk DX3_readNumber 17 rfl) ?_
      refine g_aload_0 hX (dk DX3_readNumber 18 rfl) ?_
      refine g_c1I hX sX3_readNumber_32 (by decide) (Nat.le_of_ble_eq_true rfl) (rc0 rfl (PL0 hH hp) (PSh hH hp)) (by decide) (by decide) (c_X3_here hG hH hp) ?_
      refine g_iadd hX (dk DX3_readNumber 20 rfl) ?_
      refine g_bipush (v := 48) hX (dk DX3_readNumber 21 rfl) (by decide) ?_
      refine g_isub hX (dk DX3_readNumber 22 rfl) ?_
      refine g_istore_1 hX (dk DX3_readNumber 23 rfl) (by decide) rfl ?_
      refine g_aload_0 hX (dk DX3_readNumber 24 rfl) ?_
      refine g_dup hX (dk DX3_readNumber 25 rfl) rfl ?_
      refine g_getI hX (dk DX3_readNumber 26 rfl) KX3 fX3_38 (by decide) rfl (PL0 hH hp) (PSh hH hp) ?_
      refine g_iconst (v := 1) hX (dk DX3_readNumber 27 rfl) (by decide) ?_
      refine g_iadd hX (dk DX3_readNumber 28 rfl) ?_
      refine g_putI hX (dk DX3_readNumber 29 rfl) KX3 fX3_38 (by decide) rfl (PL0 hH hp) (PSh hH hp) (Or.inl rfl) (rfl) (rfl) ?_
      refine g_iinc_2 (v := 1) hX (dk DX3_readNumber 30 rfl) (by decide) (by decide) rfl ?_
      refine g_goto (tgt := 4) hX (dk DX3_readNumber 31 rfl) (by decide) ?_
      refine g_iload_2 hX (dk DX3_readNumber 4 rfl) ?_
      refine g_iconst (v := 2) hX (dk DX3_readNumber 5 rfl) (by decide) ?_
      refine g_icmp_ge (tgt := 56) hX (dk DX3_readNumber 6 rfl) (by decide) (fun hc6 => absurd hc6 (by decide)) (fun hc6 => ?_)
      refine g_aload_0 hX (dk DX3_readNumber 7 rfl) ?_
      refine g_c1I hX sX3_readNumber_10 (by decide) (Nat.le_of_ble_eq_true rfl) (rc0 rfl (PL0 hH hp) (PSh hH hp)) (by decide) (by decide) (c_X3_here hG hH hp) ?_
      refine g_bipush (v := 48) hX (dk DX3_readNumber 9 rfl) (by decide) ?_
      refine g_icmp_lt (tgt := 56) hX (dk DX3_readNumber 10 rfl) (by decide) (fun hc7 => ?_) (fun hc7 => ?_)
      · refine g_iload_2 hX (dk DX3_readNumber 32 rfl) ?_
        refine g_if_ne (tgt := 65) hX (dk DX3_readNumber 33 rfl) (by decide) (fun hc8 => ?_) (fun hc8 => absurd hc8 (by decide))
        refine g_iload_1 hX (dk DX3_readNumber 37 rfl) ?_
        refine g_ireturn hX (dk DX3_readNumber 38 rfl) rfl (rfl) (by decide) (by decide) ?_
        exact rI_of (by unfold nuV; (try unfold incW); (try first | rw [if_pos hc1] | rw [if_neg hc1] | rw [if_neg (not_not_intro hc1)]); (try first | rw [if_pos hc2] | rw [if_neg hc2] | rw [if_neg (not_not_intro hc2)]); (try first | rw [if_pos hc4] | rw [if_neg hc4] | rw [if_neg (not_not_intro hc4)]); (try first | rw [if_pos hc6] | rw [if_neg hc6] | rw [if_neg (not_not_intro hc6)]); (try first | rw [if_pos hc7] | rw [if_neg hc7] | rw [if_neg (not_not_intro hc7)]); (try first | rw [if_pos hc8] | rw [if_neg hc8] | rw [if_neg (not_not_intro hc8)]); first | done | rfl) (by unfold nuW; (try unfold incW); (try first | rw [if_pos hc1] | rw [if_neg hc1] | rw [if_neg (not_not_intro hc1)]); (try first | rw [if_pos hc2] | rw [if_neg hc2] | rw [if_neg (not_not_intro hc2)]); (try first | rw [if_pos hc4] | rw [if_neg hc4] | rw [if_neg (not_not_intro hc4)]); (try first | rw [if_pos hc6] | rw [if_neg hc6] | rw [if_neg (not_not_intro hc6)]); (try first | rw [if_pos hc7] | rw [if_neg hc7] | rw [if_neg (not_not_intro hc7)]); (try first | rw [if_pos hc8] | rw [if_neg hc8] | rw [if_neg (not_not_intro hc8)]); first | done | rfl) rfl
      · refine g_aload_0 hX (dk DX3_readNumber 11 rfl) ?_
        refine g_c1I hX sX3_readNumber_19 (by decide) (Nat.le_of_ble_eq_true rfl) (rc0 rfl (PL0 hH hp) (PSh hH hp)) (by decide) (by decide) (c_X3_here hG hH hp) ?_
        refine g_bipush (v := 57) hX (dk DX3_readNumber 13 rfl) (by decide) ?_
        refine g_icmp_gt (tgt := 56) hX (dk DX3_readNumber 14 rfl) (by decide) (fun hc9 => ?_) (fun hc9 => ?_)
        · refine g_iload_2 hX (dk DX3_readNumber 32 rfl) ?_
          refine g_if_ne (tgt := 65) hX (dk DX3_readNumber 33 rfl) (by decide) (fun hc10 => ?_) (fun hc10 => absurd hc10 (by decide))
          refine g_iload_1 hX (dk DX3_readNumber 37 rfl) ?_
          refine g_ireturn hX (dk DX3_readNumber 38 rfl) rfl (rfl) (by decide) (by decide) ?_
          exact rI_of (by unfold nuV; (try unfold incW); (try first | rw [if_pos hc1] | rw [if_neg hc1] | rw [if_neg (not_not_intro hc1)]); (try first | rw [if_pos hc2] | rw [if_neg hc2] | rw [if_neg (not_not_intro hc2)]); (try first | rw [if_pos hc4] | rw [if_neg hc4] | rw [if_neg (not_not_intro hc4)]); (try first | rw [if_pos hc6] | rw [if_neg hc6] | rw [if_neg (not_not_intro hc6)]); (try first | rw [if_pos hc7] | rw [if_neg hc7] | rw [if_neg (not_not_intro hc7)]); (try first | rw [if_pos hc9] | rw [if_neg hc9] | rw [if_neg (not_not_intro hc9)]); (try first | rw [if_pos hc10] | rw [if_neg hc10] | rw [if_neg (not_not_intro hc10)]); first | done | rfl) (by unfold nuW; (try unfold incW); (try first | rw [if_pos hc1] | rw [if_neg hc1] | rw [if_neg (not_not_intro hc1)]); (try first | rw [if_pos hc2] | rw [if_neg hc2] | rw [if_neg (not_not_intro hc2)]); (try first | rw [if_pos hc4] | rw [if_neg hc4] | rw [if_neg (not_not_intro hc4)]); (try first | rw [if_pos hc6] | rw [if_neg hc6] | rw [if_neg (not_not_intro hc6)]); (try first | rw [if_pos hc7] | rw [if_neg hc7] | rw [if_neg (not_not_intro hc7)]); (try first | rw [if_pos hc9] | rw [if_neg hc9] | rw [if_neg (not_not_intro hc9)]); (try first | rw [if_pos hc10] | rw [if_neg hc10] | rw [if_neg (not_not_intro hc10)]); first | done | rfl) rfl
        · refine g_iload_1 hX (dk DX3_readNumber 15 rfl) ?_
          refine g_bipush (v := 10) hX (dk DX3_readNumber 16 rfl) (by decide) ?_
          refine g_imul hX (dk DX3_readNumber 17 rfl) ?_
          refine g_aload_0 hX (dk DX3_readNumber 18 rfl) ?_
          refine g_c1I hX sX3_readNumber_32 (by decide) (Nat.le_of_ble_eq_true rfl) (rc0 rfl (PL0 hH hp) (PSh hH hp)) (by decide) (by decide) (c_X3_here hG hH hp) ?_
          refine g_iadd hX (dk DX3_readNumber 20 rfl) ?_
          refine g_bipush (v := 48) hX (dk DX3_readNumber 21 rfl) (by decide) ?_
          refine g_isub hX (dk DX3_readNumber 22 rfl) ?_
          refine g_istore_1 hX (dk DX3_readNumber 23 rfl) (by decide) rfl ?_
          refine g_aload_0 hX (dk DX3_readNumber 24 rfl) ?_
          refine g_dup hX (dk DX3_readNumber 25 rfl) rfl ?_
          refine g_getI hX (dk DX3_readNumber 26 rfl) KX3 fX3_38 (by decide) rfl (PL0 hH hp) (PSh hH hp) ?_
          refine g_iconst (v := 1) hX (dk DX3_readNumber 27 rfl) (by decide) ?_
          refine g_iadd hX (dk DX3_readNumber 28 rfl) ?_
          refine g_putI hX (dk DX3_readNumber 29 rfl) KX3 fX3_38 (by decide) rfl (PL0 hH hp) (PSh hH hp) (Or.inl rfl) (rfl) (rfl) ?_
          refine g_iinc_2 (v := 2) hX (dk DX3_readNumber 30 rfl) (by decide) (by decide) rfl ?_
          refine g_goto (tgt := 4) hX (dk DX3_readNumber 31 rfl) (by decide) ?_
          refine g_iload_2 hX (dk DX3_readNumber 4 rfl) ?_
          refine g_iconst (v := 2) hX (dk DX3_readNumber 5 rfl) (by decide) ?_
          refine g_icmp_ge (tgt := 56) hX (dk DX3_readNumber 6 rfl) (by decide) (fun hc11 => ?_) (fun hc11 => absurd (by decide) hc11)
          refine g_iload_2 hX (dk DX3_readNumber 32 rfl) ?_
          refine g_if_ne (tgt := 65) hX (dk DX3_readNumber 33 rfl) (by decide) (fun hc12 => ?_) (fun hc12 => absurd hc12 (by decide))
          refine g_iload_1 hX (dk DX3_readNumber 37 rfl) ?_
          refine g_ireturn hX (dk DX3_readNumber 38 rfl) rfl (rfl) (by decide) (by decide) ?_
          exact rI_of (by unfold nuV; (try unfold incW); (try first | rw [if_pos hc1] | rw [if_neg hc1] | rw [if_neg (not_not_intro hc1)]); (try first | rw [if_pos hc2] | rw [if_neg hc2] | rw [if_neg (not_not_intro hc2)]); (try first | rw [if_pos hc4] | rw [if_neg hc4] | rw [if_neg (not_not_intro hc4)]); (try first | rw [if_pos hc6] | rw [if_neg hc6] | rw [if_neg (not_not_intro hc6)]); (try first | rw [if_pos hc7] | rw [if_neg hc7] | rw [if_neg (not_not_intro hc7)]); (try first | rw [if_pos hc9] | rw [if_neg hc9] | rw [if_neg (not_not_intro hc9)]); (try first | rw [if_pos hc11] | rw [if_neg hc11] | rw [if_neg (not_not_intro hc11)]); (try first | rw [if_pos hc12] | rw [if_neg hc12] | rw [if_neg (not_not_intro hc12)]); first | done | rfl) (by unfold nuW; (try unfold incW); (try first | rw [if_pos hc1] | rw [if_neg hc1] | rw [if_neg (not_not_intro hc1)]); (try first | rw [if_pos hc2] | rw [if_neg hc2] | rw [if_neg (not_not_intro hc2)]); (try first | rw [if_pos hc4] | rw [if_neg hc4] | rw [if_neg (not_not_intro hc4)]); (try first | rw [if_pos hc6] | rw [if_neg hc6] | rw [if_neg (not_not_intro hc6)]); (try first | rw [if_pos hc7] | rw [if_neg hc7] | rw [if_neg (not_not_intro hc7)]); (try first | rw [if_pos hc9] | rw [if_neg hc9] | rw [if_neg (not_not_intro hc9)]); (try first | rw [if_pos hc11] | rw [if_neg hc11] | rw [if_neg (not_not_intro hc11)]); (try first | rw [if_pos hc12] | rw [if_neg hc12] | rw [if_neg (not_not_intro hc12)]); first | done | rfl) rfl

set_option maxRecDepth 8000 in
set_option maxHeartbeats 4000000 in
theorem c_X3_readTest {G : Gt} (hG : Gok G) {I : It} {h : Ht}  (hH : HX h) {p : Nat} (hp : p < 6) {I0 : It} (hK : KP p I0 I) : Con G (3) 0 0 mX3_readTest [.ref (43 + 5 * p)] I h (rV (tsW p I) h) := by
  refine con_intro (own := RX3) (lo0 := [some (.ref (43 + 5 * p)), none, none, none]) hG rfl pl_X3 (Nat.le_of_ble_eq_true rfl) rfl (fun X hX => ?_)
  have loop87 : ∀ (v : Int32), v = bI (isS (hereC p (ts1 p I))) → GG G (3) 0 0 X (rV (tsW p I) h) 87 [some (.ref (43 + 5 * p)), some (.int (hereC p I)), none, some (.int (hereC p (ts1 p I)))] [.int v, .ref (43 + 5 * p)] ((ts1 p I)) (h) 0 0 := by
    intro v hv
    refine g_nmI (bI (isS (hereC p (ts1 p I)))) hv ?_
    refine g_c2V hX sX3_readTest_87 (by decide) (Nat.le_of_ble_eq_true rfl) (rc0 rfl (PL0 hH hp) (PSh hH hp)) (by decide) (by decide) (c_X3_takeIf hG hH hp) ?_
    refine g_aload_0 hX (dk DX3_readTest_0 48 rfl) ?_
    refine g_iload_1 hX (dk DX3_readTest_0 49 rfl) ?_
    refine g_iload_3 hX (dk DX3_readTest_0 50 rfl) ?_
    refine g_bipush (v := 8) hX (dk DX3_readTest_0 51 rfl) (by decide) ?_
    refine g_ishl hX (dk DX3_readTest_0 52 rfl) ?_
    refine g_ior hX (dk DX3_readTest_0 53 rfl) ?_
    refine g_aload_0 hX (dk DX3_readTest_0 54 rfl) ?_
    refine g_c1I hX sX3_readTest_98 (by decide) (Nat.le_of_ble_eq_true rfl) (rc0 rfl (PL0 hH hp) (PSh hH hp)) (by decide) (by decide) (c_X3_readNumber hG hH hp) ?_
    refine g_bipush (v := 16) hX (dk DX3_readTest_0 56 rfl) (by decide) ?_
    refine g_ishl hX (dk DX3_readTest_0 57 rfl) ?_
    refine g_ior hX (dk DX3_readTest_0 58 rfl) ?_
    refine g_c2V hX sX3_readTest_105 (by decide) (Nat.le_of_ble_eq_true rfl) (rc0 rfl (PL0 hH hp) (PSh hH hp)) (by decide) (by decide) (c_X3_keep hG hH hp (I0 := I0) (by exact (KP.nu (KP.ti (KP.ti hK))))) ?_
    refine g_return hX (dk DX3_readTest_1 0 rfl) rfl (by decide) (by decide) ?_
    exact rV_of rfl rfl
  have loop52 : ∀ (v : Int32), v = bI (isL (hereC p I)) → GG G (3) 0 0 X (rV (tsW p I) h) 52 [some (.ref (43 + 5 * p)), some (.int (hereC p I)), none, none] [.int v] (I) (h) 0 0 := by
    intro v hv
    refine g_nmI (bI (isL (hereC p I))) hv ?_
    refine g_istore_2 hX (dk DX3_readTest_0 27 rfl) (by decide) rfl ?_
    refine g_aload_0 hX (dk DX3_readTest_0 28 rfl) ?_
    refine g_iload_2 hX (dk DX3_readTest_0 29 rfl) ?_
    refine g_c2V hX sX3_readTest_55 (by decide) (Nat.le_of_ble_eq_true rfl) (rc0 rfl (PL0 hH hp) (PSh hH hp)) (by decide) (by decide) (c_X3_takeIf hG hH hp) ?_
    refine g_aload_0 hX (dk DX3_readTest_0 31 rfl) ?_
    refine g_c1I hX sX3_readTest_59 (by decide) (Nat.le_of_ble_eq_true rfl) (rc0 rfl (PL0 hH hp) (PSh hH hp)) (by decide) (by decide) (c_X3_here hG hH hp) ?_
    refine g_istore_3 hX (dk DX3_readTest_0 33 rfl) (by decide) rfl ?_
    refine g_aload_0 hX (dk DX3_readTest_0 34 rfl) ?_
    refine g_iload_3 hX (dk DX3_readTest_0 35 rfl) ?_
    refine g_bipush (v := 60) hX (dk DX3_readTest_0 36 rfl) (by decide) ?_
    refine g_icmp_eq (tgt := 82) hX (dk DX3_readTest_0 37 rfl) (by decide) (fun hc1 => ?_) (fun hc1 => ?_)
    · refine g_iconst (v := 1) hX (dk DX3_readTest_0 44 rfl) (by decide) ?_
      refine g_goto (tgt := 87) hX (dk DX3_readTest_0 45 rfl) (by decide) ?_
      exact g_fgt (loop87 _ (by first | exact (bI_t (by simp only [isS]; first | exact Or.inl (by assumption) | exact Or.inr (Or.inl (by assumption)) | exact Or.inr (Or.inr (by assumption)))).symm | exact (bI_f (by simp_all [isS, ts1])).symm)) ⟨rfl, rfl, rfl, trivial⟩
    · refine g_iload_3 hX (dk DX3_readTest_0 38 rfl) ?_
      refine g_bipush (v := 61) hX (dk DX3_readTest_0 39 rfl) (by decide) ?_
      refine g_icmp_eq (tgt := 82) hX (dk DX3_readTest_0 40 rfl) (by decide) (fun hc2 => ?_) (fun hc2 => ?_)
      · refine g_iconst (v := 1) hX (dk DX3_readTest_0 44 rfl) (by decide) ?_
        refine g_goto (tgt := 87) hX (dk DX3_readTest_0 45 rfl) (by decide) ?_
        exact g_fgt (loop87 _ (by first | exact (bI_t (by simp only [isS]; first | exact Or.inl (by assumption) | exact Or.inr (Or.inl (by assumption)) | exact Or.inr (Or.inr (by assumption)))).symm | exact (bI_f (by simp_all [isS, ts1])).symm)) ⟨rfl, rfl, rfl, trivial⟩
      · refine g_iload_3 hX (dk DX3_readTest_0 41 rfl) ?_
        refine g_bipush (v := 62) hX (dk DX3_readTest_0 42 rfl) (by decide) ?_
        refine g_icmp_ne (tgt := 86) hX (dk DX3_readTest_0 43 rfl) (by decide) (fun hc3 => ?_) (fun hc3 => ?_)
        · refine g_iconst (v := 0) hX (dk DX3_readTest_0 46 rfl) (by decide) ?_
          exact g_fgt (loop87 _ (by first | exact (bI_t (by simp only [isS]; first | exact Or.inl (by assumption) | exact Or.inr (Or.inl (by assumption)) | exact Or.inr (Or.inr (by assumption)))).symm | exact (bI_f (by simp_all [isS, ts1])).symm)) ⟨rfl, rfl, rfl, trivial⟩
        · refine g_iconst (v := 1) hX (dk DX3_readTest_0 44 rfl) (by decide) ?_
          refine g_goto (tgt := 87) hX (dk DX3_readTest_0 45 rfl) (by decide) ?_
          exact g_fgt (loop87 _ (by first | exact (bI_t (by simp only [isS]; first | exact Or.inl (by assumption) | exact Or.inr (Or.inl (by assumption)) | exact Or.inr (Or.inr (by assumption)))).symm | exact (bI_f (by simp_all [isS, ts1])).symm)) ⟨rfl, rfl, rfl, trivial⟩
  refine g_aload_0 hX (dk DX3_readTest_0 0 rfl) ?_
  refine g_c1I hX sX3_readTest_1 (by decide) (Nat.le_of_ble_eq_true rfl) (rc0 rfl (PL0 hH hp) (PSh hH hp)) (by decide) (by decide) (c_X3_here hG hH hp) ?_
  refine g_istore_1 hX (dk DX3_readTest_0 2 rfl) (by decide) rfl ?_
  refine g_iload_1 hX (dk DX3_readTest_0 3 rfl) ?_
  refine g_bipush (v := 105) hX (dk DX3_readTest_0 4 rfl) (by decide) ?_
  refine g_icmp_eq (tgt := 47) hX (dk DX3_readTest_0 5 rfl) (by decide) (fun hc1 => ?_) (fun hc1 => ?_)
  · refine g_iconst (v := 1) hX (dk DX3_readTest_0 24 rfl) (by decide) ?_
    refine g_goto (tgt := 52) hX (dk DX3_readTest_0 25 rfl) (by decide) ?_
    exact g_fgt (loop52 _ (by first | exact (bI_t (by simp only [isL]; first | exact Or.inl (by assumption) | exact Or.inr (Or.inl (by assumption)) | exact Or.inr (Or.inr (Or.inl (by assumption))) | exact Or.inr (Or.inr (Or.inr (Or.inl (by assumption)))) | exact Or.inr (Or.inr (Or.inr (Or.inr (Or.inl (by assumption))))) | exact Or.inr (Or.inr (Or.inr (Or.inr (Or.inr (Or.inl (by assumption)))))) | exact Or.inr (Or.inr (Or.inr (Or.inr (Or.inr (Or.inr (by assumption)))))))).symm | exact (bI_f (by simp_all [isL])).symm)) ⟨rfl, rfl, trivial⟩
  · refine g_iload_1 hX (dk DX3_readTest_0 6 rfl) ?_
    refine g_bipush (v := 107) hX (dk DX3_readTest_0 7 rfl) (by decide) ?_
    refine g_icmp_eq (tgt := 47) hX (dk DX3_readTest_0 8 rfl) (by decide) (fun hc2 => ?_) (fun hc2 => ?_)
    · refine g_iconst (v := 1) hX (dk DX3_readTest_0 24 rfl) (by decide) ?_
      refine g_goto (tgt := 52) hX (dk DX3_readTest_0 25 rfl) (by decide) ?_
      exact g_fgt (loop52 _ (by first | exact (bI_t (by simp only [isL]; first | exact Or.inl (by assumption) | exact Or.inr (Or.inl (by assumption)) | exact Or.inr (Or.inr (Or.inl (by assumption))) | exact Or.inr (Or.inr (Or.inr (Or.inl (by assumption)))) | exact Or.inr (Or.inr (Or.inr (Or.inr (Or.inl (by assumption))))) | exact Or.inr (Or.inr (Or.inr (Or.inr (Or.inr (Or.inl (by assumption)))))) | exact Or.inr (Or.inr (Or.inr (Or.inr (Or.inr (Or.inr (by assumption)))))))).symm | exact (bI_f (by simp_all [isL])).symm)) ⟨rfl, rfl, trivial⟩
    · refine g_iload_1 hX (dk DX3_readTest_0 9 rfl) ?_
      refine g_bipush (v := 114) hX (dk DX3_readTest_0 10 rfl) (by decide) ?_
      refine g_icmp_eq (tgt := 47) hX (dk DX3_readTest_0 11 rfl) (by decide) (fun hc3 => ?_) (fun hc3 => ?_)
      · refine g_iconst (v := 1) hX (dk DX3_readTest_0 24 rfl) (by decide) ?_
        refine g_goto (tgt := 52) hX (dk DX3_readTest_0 25 rfl) (by decide) ?_
        exact g_fgt (loop52 _ (by first | exact (bI_t (by simp only [isL]; first | exact Or.inl (by assumption) | exact Or.inr (Or.inl (by assumption)) | exact Or.inr (Or.inr (Or.inl (by assumption))) | exact Or.inr (Or.inr (Or.inr (Or.inl (by assumption)))) | exact Or.inr (Or.inr (Or.inr (Or.inr (Or.inl (by assumption))))) | exact Or.inr (Or.inr (Or.inr (Or.inr (Or.inr (Or.inl (by assumption)))))) | exact Or.inr (Or.inr (Or.inr (Or.inr (Or.inr (Or.inr (by assumption)))))))).symm | exact (bI_f (by simp_all [isL])).symm)) ⟨rfl, rfl, trivial⟩
      · refine g_iload_1 hX (dk DX3_readTest_0 12 rfl) ?_
        refine g_bipush (v := 118) hX (dk DX3_readTest_0 13 rfl) (by decide) ?_
        refine g_icmp_eq (tgt := 47) hX (dk DX3_readTest_0 14 rfl) (by decide) (fun hc4 => ?_) (fun hc4 => ?_)
        · refine g_iconst (v := 1) hX (dk DX3_readTest_0 24 rfl) (by decide) ?_
          refine g_goto (tgt := 52) hX (dk DX3_readTest_0 25 rfl) (by decide) ?_
          exact g_fgt (loop52 _ (by first | exact (bI_t (by simp only [isL]; first | exact Or.inl (by assumption) | exact Or.inr (Or.inl (by assumption)) | exact Or.inr (Or.inr (Or.inl (by assumption))) | exact Or.inr (Or.inr (Or.inr (Or.inl (by assumption)))) | exact Or.inr (Or.inr (Or.inr (Or.inr (Or.inl (by assumption))))) | exact Or.inr (Or.inr (Or.inr (Or.inr (Or.inr (Or.inl (by assumption)))))) | exact Or.inr (Or.inr (Or.inr (Or.inr (Or.inr (Or.inr (by assumption)))))))).symm | exact (bI_f (by simp_all [isL])).symm)) ⟨rfl, rfl, trivial⟩
        · refine g_iload_1 hX (dk DX3_readTest_0 15 rfl) ?_
          refine g_bipush (v := 99) hX (dk DX3_readTest_0 16 rfl) (by decide) ?_
          refine g_icmp_eq (tgt := 47) hX (dk DX3_readTest_0 17 rfl) (by decide) (fun hc5 => ?_) (fun hc5 => ?_)
          · refine g_iconst (v := 1) hX (dk DX3_readTest_0 24 rfl) (by decide) ?_
            refine g_goto (tgt := 52) hX (dk DX3_readTest_0 25 rfl) (by decide) ?_
            exact g_fgt (loop52 _ (by first | exact (bI_t (by simp only [isL]; first | exact Or.inl (by assumption) | exact Or.inr (Or.inl (by assumption)) | exact Or.inr (Or.inr (Or.inl (by assumption))) | exact Or.inr (Or.inr (Or.inr (Or.inl (by assumption)))) | exact Or.inr (Or.inr (Or.inr (Or.inr (Or.inl (by assumption))))) | exact Or.inr (Or.inr (Or.inr (Or.inr (Or.inr (Or.inl (by assumption)))))) | exact Or.inr (Or.inr (Or.inr (Or.inr (Or.inr (Or.inr (by assumption)))))))).symm | exact (bI_f (by simp_all [isL])).symm)) ⟨rfl, rfl, trivial⟩
          · refine g_iload_1 hX (dk DX3_readTest_0 18 rfl) ?_
            refine g_bipush (v := 121) hX (dk DX3_readTest_0 19 rfl) (by decide) ?_
            refine g_icmp_eq (tgt := 47) hX (dk DX3_readTest_0 20 rfl) (by decide) (fun hc6 => ?_) (fun hc6 => ?_)
            · refine g_iconst (v := 1) hX (dk DX3_readTest_0 24 rfl) (by decide) ?_
              refine g_goto (tgt := 52) hX (dk DX3_readTest_0 25 rfl) (by decide) ?_
              exact g_fgt (loop52 _ (by first | exact (bI_t (by simp only [isL]; first | exact Or.inl (by assumption) | exact Or.inr (Or.inl (by assumption)) | exact Or.inr (Or.inr (Or.inl (by assumption))) | exact Or.inr (Or.inr (Or.inr (Or.inl (by assumption)))) | exact Or.inr (Or.inr (Or.inr (Or.inr (Or.inl (by assumption))))) | exact Or.inr (Or.inr (Or.inr (Or.inr (Or.inr (Or.inl (by assumption)))))) | exact Or.inr (Or.inr (Or.inr (Or.inr (Or.inr (Or.inr (by assumption)))))))).symm | exact (bI_f (by simp_all [isL])).symm)) ⟨rfl, rfl, trivial⟩
            · refine g_iload_1 hX (dk DX3_readTest_0 21 rfl) ?_
              refine g_bipush (v := 119) hX (dk DX3_readTest_0 22 rfl) (by decide) ?_
              refine g_icmp_ne (tgt := 51) hX (dk DX3_readTest_0 23 rfl) (by decide) (fun hc7 => ?_) (fun hc7 => ?_)
              · refine g_iconst (v := 0) hX (dk DX3_readTest_0 26 rfl) (by decide) ?_
                exact g_fgt (loop52 _ (by first | exact (bI_t (by simp only [isL]; first | exact Or.inl (by assumption) | exact Or.inr (Or.inl (by assumption)) | exact Or.inr (Or.inr (Or.inl (by assumption))) | exact Or.inr (Or.inr (Or.inr (Or.inl (by assumption)))) | exact Or.inr (Or.inr (Or.inr (Or.inr (Or.inl (by assumption))))) | exact Or.inr (Or.inr (Or.inr (Or.inr (Or.inr (Or.inl (by assumption)))))) | exact Or.inr (Or.inr (Or.inr (Or.inr (Or.inr (Or.inr (by assumption)))))))).symm | exact (bI_f (by simp_all [isL])).symm)) ⟨rfl, rfl, trivial⟩
              · refine g_iconst (v := 1) hX (dk DX3_readTest_0 24 rfl) (by decide) ?_
                refine g_goto (tgt := 52) hX (dk DX3_readTest_0 25 rfl) (by decide) ?_
                exact g_fgt (loop52 _ (by first | exact (bI_t (by simp only [isL]; first | exact Or.inl (by assumption) | exact Or.inr (Or.inl (by assumption)) | exact Or.inr (Or.inr (Or.inl (by assumption))) | exact Or.inr (Or.inr (Or.inr (Or.inl (by assumption)))) | exact Or.inr (Or.inr (Or.inr (Or.inr (Or.inl (by assumption))))) | exact Or.inr (Or.inr (Or.inr (Or.inr (Or.inr (Or.inl (by assumption)))))) | exact Or.inr (Or.inr (Or.inr (Or.inr (Or.inr (Or.inr (by assumption)))))))).symm | exact (bI_f (by simp_all [isL])).symm)) ⟨rfl, rfl, trivial⟩

