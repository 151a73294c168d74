set_option maxRecDepth 8000 in
set_option maxHeartbeats 4000000 in
theorem c_X3_readWord {G : Gt} (hG : Gok G) {I : It} {h : Ht}  (hH : HX h) {p : Nat} (hp : p < 6)  : Con G (3) 0 0 mX3_readWord [.ref (43 + 5 * p)] I h (rI (wdV p I) (wdW p I) h) := by
  refine con_intro (own := RX3) (lo0 := [some (.ref (43 + 5 * p))]) hG rfl pl_X3 (Nat.le_of_ble_eq_true rfl) rfl (fun X hX => ?_)
  refine g_aload_0 hX (dk DX3_readWord 0 rfl) ?_
  refine g_bipush (v := 115) hX (dk DX3_readWord 1 rfl) (by decide) ?_
  refine g_c2I hX sX3_readWord_3 (by decide) (Nat.le_of_ble_eq_true rfl) (rc0 rfl (PL0 hH hp) (PSh hH hp)) (by decide) (by decide) (c_X3_takes hG hH hp) ?_
  refine g_ifb_eq (tgt := 24) hX (dk DX3_readWord 3 rfl) (by decide) (fun hc1 => ?_) (fun hc1 => ?_)
  · refine g_aload_0 hX (dk DX3_readWord 12 rfl) ?_
    refine g_bipush (v := 102) hX (dk DX3_readWord 13 rfl) (by decide) ?_
    refine g_c2I hX sX3_readWord_27 (by decide) (Nat.le_of_ble_eq_true rfl) (rc0 rfl (PL0 hH hp) (PSh hH hp)) (by decide) (by decide) (c_X3_takes hG hH hp) ?_
    refine g_ifb_eq (tgt := 54) hX (dk DX3_readWord 15 rfl) (by decide) (fun hc2 => ?_) (fun hc2 => ?_)
    · refine g_aload_0 hX (dk DX3_readWord 27 rfl) ?_
      refine g_bipush (v := 99) hX (dk DX3_readWord 28 rfl) (by decide) ?_
      refine g_c2V hX sX3_readWord_57 (by decide) (Nat.le_of_ble_eq_true rfl) (rc0 rfl (PL0 hH hp) (PSh hH hp)) (by decide) (by decide) (c_X3_needs hG hH hp) ?_
      refine g_aload_0 hX (dk DX3_readWord 30 rfl) ?_
      refine g_bipush (v := 111) hX (dk DX3_readWord 31 rfl) (by decide) ?_
      refine g_c2I hX sX3_readWord_63 (by decide) (Nat.le_of_ble_eq_true rfl) (rc0 rfl (PL0 hH hp) (PSh hH hp)) (by decide) (by decide) (c_X3_takes hG hH hp) ?_
      refine g_ifb_eq (tgt := 84) hX (dk DX3_readWord 33 rfl) (by decide) (fun hc3 => ?_) (fun hc3 => ?_)
      · refine g_aload_0 hX (dk DX3_readWord 42 rfl) ?_
        refine g_bipush (v := 97) hX (dk DX3_readWord 43 rfl) (by decide) ?_
        refine g_c2V hX sX3_readWord_87 (by decide) (Nat.le_of_ble_eq_true rfl) (rc0 rfl (PL0 hH hp) (PSh hH hp)) (by decide) (by decide) (c_X3_needs hG hH hp) ?_
        refine g_aload_0 hX (dk DX3_readWord 45 rfl) ?_
        refine g_bipush (v := 108) hX (dk DX3_readWord 46 rfl) (by decide) ?_
        refine g_c2V hX sX3_readWord_93 (by decide) (Nat.le_of_ble_eq_true rfl) (rc0 rfl (PL0 hH hp) (PSh hH hp)) (by decide) (by decide) (c_X3_needs hG hH hp) ?_
        refine g_aload_0 hX (dk DX3_readWord 48 rfl) ?_
        refine g_bipush (v := 108) hX (dk DX3_readWord 49 rfl) (by decide) ?_
        refine g_c2V hX sX3_readWord_99 (by decide) (Nat.le_of_ble_eq_true rfl) (rc0 rfl (PL0 hH hp) (PSh hH hp)) (by decide) (by decide) (c_X3_needs hG hH hp) ?_
        refine g_bipush (v := 108) hX (dk DX3_readWord 51 rfl) (by decide) ?_
        refine g_ireturn hX (dk DX3_readWord 52 rfl) rfl (rfl) (by decide) (by decide) ?_
        exact rI_of (by unfold wdV wdA; (try first | rw [if_pos hc1] | rw [if_neg hc1] | rw [if_neg (not_not_intro hc1)]); (try first | rw [if_pos hc2] | rw [if_neg hc2] | rw [if_neg (not_not_intro hc2)]); (try first | rw [if_pos hc3] | rw [if_neg hc3] | rw [if_neg (not_not_intro hc3)]); first | done | rfl) (by unfold wdW wdA; (try first | rw [if_pos hc1] | rw [if_neg hc1] | rw [if_neg (not_not_intro hc1)]); (try first | rw [if_pos hc2] | rw [if_neg hc2] | rw [if_neg (not_not_intro hc2)]); (try first | rw [if_pos hc3] | rw [if_neg hc3] | rw [if_neg (not_not_intro hc3)]); first | done | rfl) rfl
      · refine g_aload_0 hX (dk DX3_readWord 34 rfl) ?_
        refine g_bipush (v := 115) hX (dk DX3_readWord 35 rfl) (by decide) ?_
        refine g_c2V hX sX3_readWord_72 (by decide) (Nat.le_of_ble_eq_true rfl) (rc0 rfl (PL0 hH hp) (PSh hH hp)) (by decide) (by decide) (c_X3_needs hG hH hp) ?_
        refine g_aload_0 hX (dk DX3_readWord 37 rfl) ?_
        refine g_bipush (v := 116) hX (dk DX3_readWord 38 rfl) (by decide) ?_
        refine g_c2V hX sX3_readWord_78 (by decide) (Nat.le_of_ble_eq_true rfl) (rc0 rfl (PL0 hH hp) (PSh hH hp)) (by decide) (by decide) (c_X3_needs hG hH hp) ?_
        refine g_bipush (v := 99) hX (dk DX3_readWord 40 rfl) (by decide) ?_
        refine g_ireturn hX (dk DX3_readWord 41 rfl) rfl (rfl) (by decide) (by decide) ?_
        exact rI_of (by unfold wdV wdA; (try first | rw [if_pos hc1] | rw [if_neg hc1] | rw [if_neg (not_not_intro hc1)]); (try first | rw [if_pos hc2] | rw [if_neg hc2] | rw [if_neg (not_not_intro hc2)]); (try first | rw [if_pos hc3] | rw [if_neg hc3] | rw [if_neg (not_not_intro hc3)]); first | done | rfl) (by unfold wdW wdA; (try first | rw [if_pos hc1] | rw [if_neg hc1] | rw [if_neg (not_not_intro hc1)]); (try first | rw [if_pos hc2] | rw [if_neg hc2] | rw [if_neg (not_not_intro hc2)]); (try first | rw [if_pos hc3] | rw [if_neg hc3] | rw [if_neg (not_not_intro hc3)]); first | done | rfl) rfl
    · refine g_aload_0 hX (dk DX3_readWord 16 rfl) ?_
      refine g_bipush (v := 97) hX (dk DX3_readWord 17 rfl) (by decide) ?_
      refine g_c2V hX sX3_readWord_36 (by decide) (Nat.le_of_ble_eq_true rfl) (rc0 rfl (PL0 hH hp) (PSh hH hp)) (by decide) (by decide) (c_X3_needs hG hH hp) ?_
      refine g_aload_0 hX (dk DX3_readWord 19 rfl) ?_
      refine g_bipush (v := 100) hX (dk DX3_readWord 20 rfl) (by decide) ?_
      refine g_c2V hX sX3_readWord_42 (by decide) (Nat.le_of_ble_eq_true rfl) (rc0 rfl (PL0 hH hp) (PSh hH hp)) (by decide) (by decide) (c_X3_needs hG hH hp) ?_
      refine g_aload_0 hX (dk DX3_readWord 22 rfl) ?_
      refine g_bipush (v := 101) hX (dk DX3_readWord 23 rfl) (by decide) ?_
      refine g_c2V hX sX3_readWord_48 (by decide) (Nat.le_of_ble_eq_true rfl) (rc0 rfl (PL0 hH hp) (PSh hH hp)) (by decide) (by decide) (c_X3_needs hG hH hp) ?_
      refine g_bipush (v := 102) hX (dk DX3_readWord 25 rfl) (by decide) ?_
      refine g_ireturn hX (dk DX3_readWord 26 rfl) rfl (rfl) (by decide) (by decide) ?_
      exact rI_of (by unfold wdV wdA; (try first | rw [if_pos hc1] | rw [if_neg hc1] | rw [if_neg (not_not_intro hc1)]); (try first | rw [if_pos hc2] | rw [if_neg hc2] | rw [if_neg (not_not_intro hc2)]); first | done | rfl) (by unfold wdW wdA; (try first | rw [if_pos hc1] | rw [if_neg hc1] | rw [if_neg (not_not_intro hc1)]); (try first | rw [if_pos hc2] | rw [if_neg hc2] | rw [if_neg (not_not_intro hc2)]); first | done | rfl) rfl
  · refine g_aload_0 hX (dk DX3_readWord 4 rfl) ?_
    refine g_bipush (v := 97) hX (dk DX3_readWord 5 rfl) (by decide) ?_
    refine g_c2V hX sX3_readWord_12 (by decide) (Nat.le_of_ble_eq_true rfl) (rc0 rfl (PL0 hH hp) (PSh hH hp)) (by decide) (by decide) (c_X3_needs hG hH hp) ?_
    refine g_aload_0 hX (dk DX3_readWord 7 rfl) ?_
    refine g_bipush (v := 121) hX (dk DX3_readWord 8 rfl) (by decide) ?_
    refine g_c2V hX sX3_readWord_18 (by decide) (Nat.le_of_ble_eq_true rfl) (rc0 rfl (PL0 hH hp) (PSh hH hp)) (by decide) (by decide) (c_X3_needs hG hH hp) ?_
    refine g_bipush (v := 115) hX (dk DX3_readWord 10 rfl) (by decide) ?_
    refine g_ireturn hX (dk DX3_readWord 11 rfl) rfl (rfl) (by decide) (by decide) ?_
    exact rI_of (by unfold wdV wdA; (try first | rw [if_pos hc1] | rw [if_neg hc1] | rw [if_neg (not_not_intro hc1)]); first | done | rfl) (by unfold wdW wdA; (try first | rw [if_pos hc1] | rw [if_neg hc1] | rw [if_neg (not_not_intro hc1)]); first | done | rfl) rfl

set_option maxRecDepth 8000 in
set_option maxHeartbeats 4000000 in
theorem c_X3_readClause {G : Gt} (hG : Gok G) {I : It} {h : Ht}  (hH : HX h) {p : Nat} (hp : p < 6) {I0 : It} (hK : KP p I0 I) : Con G (14) 0 0 mX3_readClause [.ref (43 + 5 * p)] I h (rV (rcW p I) h) := by
  refine con_intro (own := RX3) (lo0 := [some (.ref (43 + 5 * p)), none, none]) hG rfl pl_X3 (Nat.le_of_ble_eq_true rfl) rfl (fun X hX => ?_)
  have loop61 : ∀ (J : It), J = rc2 p I → GG G (14) 0 0 X (rV (rcW p I) h) 61 [some (.ref (43 + 5 * p)), some (.int (wdV p I)), some (.int (rcN_ p I))] [] (J) (h) 0 0 := by
    rintro _ rfl
    have hK2 := hK.rcB
    refine g_aload_0 hX (dk DX3_readClause_0 32 rfl) ?_
    refine g_getI hX (dk DX3_readClause_0 33 rfl) KX3 fX3_41 (by decide) rfl (PL0 hH hp) (PSh hH hp) ?_
    refine g_if_ne (tgt := 120) hX (dk DX3_readClause_0 34 rfl) (by decide) (fun hc1 => ?_) (fun hc1 => ?_)
    · refine g_return hX (dk DX3_readClause_1 4 rfl) rfl (by decide) (by decide) ?_
      exact rV_of (by unfold rcW clW; (try first | rw [if_pos hc1] | rw [if_neg hc1] | rw [if_neg (not_not_intro hc1)]); first | done | rfl) rfl
    · refine g_aload_0 hX (dk DX3_readClause_0 35 rfl) ?_
      refine g_getI hX (dk DX3_readClause_0 36 rfl) KX3 fX3_45 (by decide) rfl (PL0 hH hp) (PSh hH hp) ?_
      refine g_bipush (v := 10) hX (dk DX3_readClause_0 37 rfl) (by decide) ?_
      refine g_icmp_ge (tgt := 120) hX (dk DX3_readClause_0 38 rfl) (by decide) (fun hc2 => ?_) (fun hc2 => ?_)
      · refine g_return hX (dk DX3_readClause_1 4 rfl) rfl (by decide) (by decide) ?_
        exact rV_of (by unfold rcW clW; (try first | rw [if_pos hc1] | rw [if_neg hc1] | rw [if_neg (not_not_intro hc1)]); (try first | rw [if_pos hc2] | rw [if_neg hc2] | rw [if_neg (not_not_intro hc2)]); first | done | rfl) rfl
      · refine g_aload_0 hX (dk DX3_readClause_0 39 rfl) ?_
        refine g_getRs (r := (44 + 5 * p)) hX (dk DX3_readClause_0 40 rfl) KX3 fX3_11 (by decide) rfl (PL0 hH hp) (PSh hH hp) (PR3 hH hp) ?_
        refine g_aload_0 hX (dk DX3_readClause_0 41 rfl) ?_
        refine g_getI hX (dk DX3_readClause_0 42 rfl) KX3 fX3_45 (by decide) rfl (PL0 hH hp) (PSh hH hp) ?_
        refine g_iload_1 hX (dk DX3_readClause_0 43 rfl) ?_
        refine i_iastore hX (dk DX3_readClause_0 44 rfl) (PLt hH (j := 1) hp (by decide)) (PA4 hH hp) (kp_ix (b := 10) (by decide) hK2.2.2.1 (by assumption)) ?_
        refine g_aload_0 hX (dk DX3_readClause_0 45 rfl) ?_
        refine g_getRs (r := (45 + 5 * p)) hX (dk DX3_readClause_0 46 rfl) KX3 fX3_15 (by decide) rfl (PL0 hH hp) (PSh hH hp) (PR4 hH hp) ?_
        refine g_aload_0 hX (dk DX3_readClause_0 47 rfl) ?_
        refine g_getIv hX (dk DX3_readClause_0 48 rfl) KX3 fX3_45 (by decide) rfl (PL0 hH hp) (PSh hH hp) (congrFun (cl_P p (wdV p I) (rcN_ p I) (rc2 p I)).1 2) ?_
        refine g_iload_2 hX (dk DX3_readClause_0 49 rfl) ?_
        refine i_iastore hX (dk DX3_readClause_0 50 rfl) (PLt hH (j := 2) hp (by decide)) (PA5 hH hp) (kp_ix (b := 10) (by decide) hK2.2.2.1 (by assumption)) ?_
        refine g_aload_0 hX (dk DX3_readClause_0 51 rfl) ?_
        refine g_getRs (r := (46 + 5 * p)) hX (dk DX3_readClause_0 52 rfl) KX3 fX3_18 (by decide) rfl (PL0 hH hp) (PSh hH hp) (PR5 hH hp) ?_
        refine g_aload_0 hX (dk DX3_readClause_0 53 rfl) ?_
        refine g_getIv hX (dk DX3_readClause_0 54 rfl) KX3 fX3_45 (by decide) rfl (PL0 hH hp) (PSh hH hp) (congrFun (cl_P p (wdV p I) (rcN_ p I) (rc2 p I)).2.1 2) ?_
        refine g_aload_0 hX (dk DX3_readClause_0 55 rfl) ?_
        refine g_getI hX (dk DX3_readClause_0 56 rfl) KX3 fX3_48 (by decide) rfl (PL0 hH hp) (PSh hH hp) ?_
        refine i_iastore hX (dk DX3_readClause_0 57 rfl) (PLt hH (j := 3) hp (by decide)) (PA6 hH hp) (kp_ix (b := 10) (by decide) hK2.2.2.1 (by assumption)) ?_
        refine g_aload_0 hX (dk DX3_readClause_0 58 rfl) ?_
        refine g_dup hX (dk DX3_readClause_0 59 rfl) rfl ?_
        refine g_getI hX (dk DX3_readClause_1 0 rfl) KX3 fX3_45 (by decide) rfl (PL0 hH hp) (PSh hH hp) ?_
        refine g_iconst (v := 1) hX (dk DX3_readClause_1 1 rfl) (by decide) ?_
        refine g_iadd hX (dk DX3_readClause_1 2 rfl) ?_
        refine g_putI hX (dk DX3_readClause_1 3 rfl) KX3 fX3_45 (by decide) rfl (PL0 hH hp) (PSh hH hp) (Or.inl rfl) (rfl) (rfl) ?_
        refine g_return hX (dk DX3_readClause_1 4 rfl) rfl (by decide) (by decide) ?_
        exact rV_of (by unfold rcW clW; (try first | rw [if_pos hc1] | rw [if_neg hc1] | rw [if_neg (not_not_intro hc1)]); (try first | rw [if_pos hc2] | rw [if_neg hc2] | rw [if_neg (not_not_intro hc2)]); first | done | rfl) rfl
  refine g_aload_0 hX (dk DX3_readClause_0 0 rfl) ?_
  refine g_c1I hX sX3_readClause_1 (by decide) (Nat.le_of_ble_eq_true rfl) (rc0 rfl (PL0 hH hp) (PSh hH hp)) (by decide) (by decide) (c_X3_readWord hG hH hp) ?_
  refine g_istore_1 hX (dk DX3_readClause_0 2 rfl) (by decide) rfl ?_
  refine g_aload_0 hX (dk DX3_readClause_0 3 rfl) ?_
  refine g_bipush (v := 32) hX (dk DX3_readClause_0 4 rfl) (by decide) ?_
  refine g_c2V hX sX3_readClause_8 (by decide) (Nat.le_of_ble_eq_true rfl) (rc0 rfl (PL0 hH hp) (PSh hH hp)) (by decide) (by decide) (c_X3_needs hG hH hp) ?_
  refine g_aload_0 hX (dk DX3_readClause_0 6 rfl) ?_
  refine g_c1I hX sX3_readClause_12 (by decide) (Nat.le_of_ble_eq_true rfl) (rc0 rfl (PL0 hH hp) (PSh hH hp)) (by decide) (by decide) (c_X3_readNumber hG hH hp) ?_
  refine g_istore_2 hX (dk DX3_readClause_0 8 rfl) (by decide) rfl ?_
  refine g_iload_1 hX (dk DX3_readClause_0 9 rfl) ?_
  refine g_bipush (v := 115) hX (dk DX3_readClause_0 10 rfl) (by decide) ?_
  refine g_icmp_eq (tgt := 28) hX (dk DX3_readClause_0 11 rfl) (by decide) (fun hc1 => ?_) (fun hc1 => ?_)
  · refine g_aload_0 hX (dk DX3_readClause_0 15 rfl) ?_
    refine g_bipush (v := 32) hX (dk DX3_readClause_0 16 rfl) (by decide) ?_
    refine g_c2V hX sX3_readClause_31 (by decide) (Nat.le_of_ble_eq_true rfl) (rc0 rfl (PL0 hH hp) (PSh hH hp)) (by decide) (by decide) (c_X3_needs hG hH hp) ?_
    refine g_aload_0 hX (dk DX3_readClause_0 18 rfl) ?_
    refine g_iconst (v := 0) hX (dk DX3_readClause_0 19 rfl) (by decide) ?_
    refine g_c2V hX sX3_readClause_36 (by decide) (Nat.le_of_ble_eq_true rfl) (rc0 rfl (PL0 hH hp) (PSh hH hp)) (by decide) (by decide) (c_X3_ei0 hG hH hp (I0 := I0) (by exact hK.rcA.nd)) ?_
    refine g_goto (tgt := 61) hX (dk DX3_readClause_0 21 rfl) (by decide) ?_
    exact g_fgt (loop61 _ (by unfold rc2; first | (rw [if_pos (Or.inl (by assumption))]; rfl) | (rw [if_pos (Or.inr (by assumption))]; rfl) | (rw [if_neg (fun z => z.elim (by assumption) (by assumption)), if_pos (by assumption)]; rfl) | (rw [if_neg (fun z => z.elim (by assumption) (by assumption)), if_neg (by assumption)]; rfl))) ⟨rfl, rfl, rfl, trivial⟩
  · refine g_iload_1 hX (dk DX3_readClause_0 12 rfl) ?_
    refine g_bipush (v := 99) hX (dk DX3_readClause_0 13 rfl) (by decide) ?_
    refine g_icmp_ne (tgt := 42) hX (dk DX3_readClause_0 14 rfl) (by decide) (fun hc2 => ?_) (fun hc2 => ?_)
    · refine g_iload_1 hX (dk DX3_readClause_0 22 rfl) ?_
      refine g_bipush (v := 108) hX (dk DX3_readClause_0 23 rfl) (by decide) ?_
      refine g_icmp_ne (tgt := 56) hX (dk DX3_readClause_0 24 rfl) (by decide) (fun hc3 => ?_) (fun hc3 => ?_)
      · refine g_aload_0 hX (dk DX3_readClause_0 29 rfl) ?_
        refine g_iload_2 hX (dk DX3_readClause_0 30 rfl) ?_
        refine g_putI hX (dk DX3_readClause_0 31 rfl) KX3 fX3_54 (by decide) rfl (PL0 hH hp) (PSh hH hp) (Or.inl rfl) (rfl) (rfl) ?_
        exact g_fgt (loop61 _ (by unfold rc2; first | (rw [if_pos (Or.inl (by assumption))]; rfl) | (rw [if_pos (Or.inr (by assumption))]; rfl) | (rw [if_neg (fun z => z.elim (by assumption) (by assumption)), if_pos (by assumption)]; rfl) | (rw [if_neg (fun z => z.elim (by assumption) (by assumption)), if_neg (by assumption)]; rfl))) ⟨rfl, rfl, rfl, trivial⟩
      · refine g_aload_0 hX (dk DX3_readClause_0 25 rfl) ?_
        refine g_iload_2 hX (dk DX3_readClause_0 26 rfl) ?_
        refine g_putI hX (dk DX3_readClause_0 27 rfl) KX3 fX3_51 (by decide) rfl (PL0 hH hp) (PSh hH hp) (Or.inl rfl) (rfl) (rfl) ?_
        refine g_goto (tgt := 61) hX (dk DX3_readClause_0 28 rfl) (by decide) ?_
        exact g_fgt (loop61 _ (by unfold rc2; first | (rw [if_pos (Or.inl (by assumption))]; rfl) | (rw [if_pos (Or.inr (by assumption))]; rfl) | (rw [if_neg (fun z => z.elim (by assumption) (by assumption)), if_pos (by assumption)]; rfl) | (rw [if_neg (fun z => z.elim (by assumption) (by assumption)), if_neg (by assumption)]; rfl))) ⟨rfl, rfl, rfl, trivial⟩
    · refine g_aload_0 hX (dk DX3_readClause_0 15 rfl) ?_
      refine g_bipush (v := 32) hX (dk DX3_readClause_0 16 rfl) (by decide) ?_
      refine g_c2V hX sX3_readClause_31 (by decide) (Nat.le_of_ble_eq_true rfl) (rc0 rfl (PL0 hH hp) (PSh hH hp)) (by decide) (by decide) (c_X3_needs hG hH hp) ?_
      refine g_aload_0 hX (dk DX3_readClause_0 18 rfl) ?_
      refine g_iconst (v := 0) hX (dk DX3_readClause_0 19 rfl) (by decide) ?_
      refine g_c2V hX sX3_readClause_36 (by decide) (Nat.le_of_ble_eq_true rfl) (rc0 rfl (PL0 hH hp) (PSh hH hp)) (by decide) (by decide) (c_X3_ei0 hG hH hp (I0 := I0) (by exact hK.rcA.nd)) ?_
      refine g_goto (tgt := 61) hX (dk DX3_readClause_0 21 rfl) (by decide) ?_
      exact g_fgt (loop61 _ (by unfold rc2; first | (rw [if_pos (Or.inl (by assumption))]; rfl) | (rw [if_pos (Or.inr (by assumption))]; rfl) | (rw [if_neg (fun z => z.elim (by assumption) (by assumption)), if_pos (by assumption)]; rfl) | (rw [if_neg (fun z => z.elim (by assumption) (by assumption)), if_neg (by assumption)]; rfl))) ⟨rfl, rfl, rfl, trivial⟩

