set_option maxRecDepth 8000 in
set_option maxHeartbeats 4000000 in
theorem cn_X5_callsAtFirst {G : Gt} (hG : Gok G) {I : It} {h : Ht}  (hW : WX I h)  (hps : hR h 1 13 = none) : Con G 1 0 0 mX5_callsAtFirst [.ref 1] I h (rI 7 I h) := by
  refine con_intro (own := RX5) (lo0 := [some (.ref 1)]) hG rfl pl_X5 (Nat.le_of_ble_eq_true rfl) rfl (fun X hX => ?_)
  have hH := hW.1
  have hc10 := hW.2.1.2
  refine g_aload_0 hX (dk DX5_callsAtFirst 0 rfl) ?_
  refine g_getR (r := none) hX (dk DX5_callsAtFirst 1 rfl) KX5 fX5_61 (by decide) rfl (CLt hH (q := 1) (by decide)) (CC hH 1 (by decide) rfl) (hps) ?_
  refine g_ifnonnullN hX (dk DX5_callsAtFirst 2 rfl) ?_
  refine g_bipush (v := 7) hX (dk DX5_callsAtFirst 3 rfl) (by decide) ?_
  refine g_goto (tgt := 19) hX (dk DX5_callsAtFirst 4 rfl) (by decide) ?_
  refine g_ireturn hX (dk DX5_callsAtFirst 8 rfl) rfl (rfl) (by decide) (by decide) ?_
  exact rI_of rfl rfl rfl

set_option maxRecDepth 8000 in
set_option maxHeartbeats 4000000 in
theorem cs_X5_callsAtFirst {G : Gt} (hG : Gok G) {I : It} {h : Ht}  (hW : WX I h)  {p : Nat} (hp : p < 6) (hps : hR h 1 13 = some (43 + 5 * p)) : Con G 1 0 0 mX5_callsAtFirst [.ref 1] I h (rI (I (43 + 5 * p) 0) I h) := by
  refine con_intro (own := RX5) (lo0 := [some (.ref 1)]) hG rfl pl_X5 (Nat.le_of_ble_eq_true rfl) rfl (fun X hX => ?_)
  have hH := hW.1
  have hc10 := hW.2.1.2
  refine g_aload_0 hX (dk DX5_callsAtFirst 0 rfl) ?_
  refine g_getRs (r := (43 + 5 * p)) hX (dk DX5_callsAtFirst 1 rfl) KX5 fX5_61 (by decide) rfl (CLt hH (q := 1) (by decide)) (CC hH 1 (by decide) rfl) (hps) ?_
  refine g_ifnonnull (tgt := 12) hX (dk DX5_callsAtFirst 2 rfl) (by decide) ?_
  refine g_aload_0 hX (dk DX5_callsAtFirst 5 rfl) ?_
  refine g_getRs (r := (43 + 5 * p)) hX (dk DX5_callsAtFirst 6 rfl) KX5 fX5_61 (by decide) rfl (CLt hH (q := 1) (by decide)) (CC hH 1 (by decide) rfl) (hps) ?_
  refine g_getI hX (dk DX5_callsAtFirst 7 rfl) KX3 fX5_83 (by decide) rfl (PL0 hH hp) (PSh hH hp) ?_
  refine g_ireturn hX (dk DX5_callsAtFirst 8 rfl) rfl (rfl) (by decide) (by decide) ?_
  exact rI_of rfl rfl rfl

theorem c_X5_callsAtFirst {G : Gt} (hG : Gok G) {I : It} {h : Ht} (hW : WX I h)  : Con G 1 0 0 mX5_callsAtFirst [.ref 1] I h (rI (caF I h) I h) := by
  cases hps : hR h 1 13 with
  | none =>
    have hc := cn_X5_callsAtFirst hG hW  hps
    have e : caF I h = 7 := by unfold caF; rw [hps]
    rw [e]; exact hc
  | some P =>
    obtain ⟨p, hp, rfl⟩ := hW.2.2.2.1.1 P hps
    have hc := cs_X5_callsAtFirst hG hW  hp hps
    have e : caF I h = I (43 + 5 * p) 0 := by unfold caF; rw [hps]
    rw [e]; exact hc
set_option maxRecDepth 8000 in
set_option maxHeartbeats 4000000 in
theorem cn_X5_callsFading {G : Gt} (hG : Gok G) {I : It} {h : Ht}  (hW : WX I h)  (hps : hR h 1 13 = none) : Con G 1 0 0 mX5_callsFading [.ref 1] I h (rI 1 I h) := by
  refine con_intro (own := RX5) (lo0 := [some (.ref 1)]) hG rfl pl_X5 (Nat.le_of_ble_eq_true rfl) rfl (fun X hX => ?_)
  have hH := hW.1
  have hc10 := hW.2.1.2
  refine g_aload_0 hX (dk DX5_callsFading 0 rfl) ?_
  refine g_getR (r := none) hX (dk DX5_callsFading 1 rfl) KX5 fX5_61 (by decide) rfl (CLt hH (q := 1) (by decide)) (CC hH 1 (by decide) rfl) (hps) ?_
  refine g_ifnonnullN hX (dk DX5_callsFading 2 rfl) ?_
  refine g_iconst (v := 1) hX (dk DX5_callsFading 3 rfl) (by decide) ?_
  refine g_goto (tgt := 18) hX (dk DX5_callsFading 4 rfl) (by decide) ?_
  refine g_ireturn hX (dk DX5_callsFading 8 rfl) rfl (rfl) (by decide) (by decide) ?_
  exact rI_of rfl rfl rfl

set_option maxRecDepth 8000 in
set_option maxHeartbeats 4000000 in
theorem cs_X5_callsFading {G : Gt} (hG : Gok G) {I : It} {h : Ht}  (hW : WX I h)  {p : Nat} (hp : p < 6) (hps : hR h 1 13 = some (43 + 5 * p)) : Con G 1 0 0 mX5_callsFading [.ref 1] I h (rI (I (43 + 5 * p) 1) I h) := by
  refine con_intro (own := RX5) (lo0 := [some (.ref 1)]) hG rfl pl_X5 (Nat.le_of_ble_eq_true rfl) rfl (fun X hX => ?_)
  have hH := hW.1
  have hc10 := hW.2.1.2
  refine g_aload_0 hX (dk DX5_callsFading 0 rfl) ?_
  refine g_getRs (r := (43 + 5 * p)) hX (dk DX5_callsFading 1 rfl) KX5 fX5_61 (by decide) rfl (CLt hH (q := 1) (by decide)) (CC hH 1 (by decide) rfl) (hps) ?_
  refine g_ifnonnull (tgt := 11) hX (dk DX5_callsFading 2 rfl) (by decide) ?_
  refine g_aload_0 hX (dk DX5_callsFading 5 rfl) ?_
  refine g_getRs (r := (43 + 5 * p)) hX (dk DX5_callsFading 6 rfl) KX5 fX5_61 (by decide) rfl (CLt hH (q := 1) (by decide)) (CC hH 1 (by decide) rfl) (hps) ?_
  refine g_getI hX (dk DX5_callsFading 7 rfl) KX3 fX5_86 (by decide) rfl (PL0 hH hp) (PSh hH hp) ?_
  refine g_ireturn hX (dk DX5_callsFading 8 rfl) rfl (rfl) (by decide) (by decide) ?_
  exact rI_of rfl rfl rfl

theorem c_X5_callsFading {G : Gt} (hG : Gok G) {I : It} {h : Ht} (hW : WX I h)  : Con G 1 0 0 mX5_callsFading [.ref 1] I h (rI (faF I h) I h) := by
  cases hps : hR h 1 13 with
  | none =>
    have hc := cn_X5_callsFading hG hW  hps
    have e : faF I h = 1 := by unfold faF; rw [hps]
    rw [e]; exact hc
  | some P =>
    obtain ⟨p, hp, rfl⟩ := hW.2.2.2.1.1 P hps
    have hc := cs_X5_callsFading hG hW  hp hps
    have e : faF I h = I (43 + 5 * p) 1 := by unfold faF; rw [hps]
    rw [e]; exact hc
set_option maxRecDepth 8000 in
set_option maxHeartbeats 4000000 in
theorem c_X3_passes {G : Gt} (hG : Gok G) {I : It} {h : Ht}  {q : Nat} {t y w : Int32} (hq : q < hn h) (hdc : isDC (hs h q).1) : Con G 2 0 0 mX3_passes [.int t, .ref q, .int y, .int w] I h (rI (psC I h q t y w) I h) := by
  refine con_intro (own := RX3) (lo0 := [some (.int t), some (.ref q), some (.int y), some (.int w), none, none]) hG rfl pl_X3 (Nat.le_of_ble_eq_true rfl) rfl (fun X hX => ?_)
  refine g_iload_0 hX (dk DX3_passes_0 0 rfl) ?_
  refine g_bipush (v := 16) hX (dk DX3_passes_0 1 rfl) (by decide) ?_
  refine g_ishr hX (dk DX3_passes_0 2 rfl) ?_
  refine g_istore_5 hX (dk DX3_passes_0 3 rfl) (by decide) rfl ?_
  refine g_iload_0 hX (dk DX3_passes_0 4 rfl) ?_
  refine g_sipush (v := 255) hX (dk DX3_passes_0 5 rfl) (by decide) ?_
  refine g_iand hX (dk DX3_passes_0 6 rfl) ?_
  refine g_lswitch (dt := 122) hX [(99, 104), (105, 68), (107, 77), (114, 86), (118, 95), (121, 116)] (dk DX3_passes_0 7 rfl) (by decide +kernel) (by decide +kernel) ?_
  refine ⟨fun hc1 => ?_, fun hc1n => ?_⟩
  · show GG _ _ _ _ _ _ _ _ _ _ _ _ _
    refine g_aload_1 hX (dk DX3_passes_0 24 rfl) ?_
    refine g_getD (v := _) hX (dk DX3_passes_0 25 rfl) fX3_115 (by decide) hq hdc (rfl) ?_
    refine g_bipush (v := 10) hX (dk DX3_passes_0 26 rfl) (by decide) ?_
    refine g_idiv hX (dk DX3_passes_0 27 rfl) (by decide) ?_
    refine g_istore_4 hX (dk DX3_passes_0 28 rfl) (by decide) rfl ?_
    refine g_goto (tgt := 125) hX (dk DX3_passes_0 29 rfl) (by decide) ?_
    refine g_iload_0 hX (dk DX3_passes_0 35 rfl) ?_
    refine g_bipush (v := 8) hX (dk DX3_passes_0 36 rfl) (by decide) ?_
    refine g_ishr hX (dk DX3_passes_0 37 rfl) ?_
    refine g_sipush (v := 255) hX (dk DX3_passes_0 38 rfl) (by decide) ?_
    refine g_iand hX (dk DX3_passes_0 39 rfl) ?_
    refine g_lswitch (dt := 186) hX [(60, 160), (61, 173)] (dk DX3_passes_0 40 rfl) (by decide +kernel) (by decide +kernel) ?_
    refine ⟨fun hc2 => ?_, fun hc2n => ?_⟩
    · show GG _ _ _ _ _ _ _ _ _ _ _ _ _
      refine g_iload_4 hX (dk DX3_passes_0 41 rfl) ?_
      refine g_iload_5 hX (dk DX3_passes_0 42 rfl) ?_
      refine g_icmp_ge (tgt := 171) hX (dk DX3_passes_0 43 rfl) (by decide) (fun hc3 => ?_) (fun hc3 => ?_)
      · refine g_iconst (v := 0) hX (dk DX3_passes_0 46 rfl) (by decide) ?_
        refine g_ireturn hX (dk DX3_passes_0 47 rfl) rfl (by decide) (by decide) (by decide) ?_
        exact rI_of (by unfold psC factC; (try first | rw [if_pos hc1] | rw [if_neg hc1] | rw [if_neg (not_not_intro hc1)]); (try first | rw [if_pos hc2] | rw [if_neg hc2] | rw [if_neg (not_not_intro hc2)]); (try first | rw [if_pos hc3] | rw [if_neg hc3] | rw [if_neg (not_not_intro hc3)]); first | exact (bI_t (by assumption)).symm | exact (bI_f (by assumption)).symm | exact (bI_f (Int32.not_lt.mpr (by assumption))).symm | exact (bI_t (Int32.not_le.mp (by assumption))).symm) rfl rfl
      · refine g_iconst (v := 1) hX (dk DX3_passes_0 44 rfl) (by decide) ?_
        refine g_goto (tgt := 172) hX (dk DX3_passes_0 45 rfl) (by decide) ?_
        refine g_ireturn hX (dk DX3_passes_0 47 rfl) rfl (by decide) (by decide) (by decide) ?_
        exact rI_of (by unfold psC factC; (try first | rw [if_pos hc1] | rw [if_neg hc1] | rw [if_neg (not_not_intro hc1)]); (try first | rw [if_pos hc2] | rw [if_neg hc2] | rw [if_neg (not_not_intro hc2)]); (try first | rw [if_pos hc3] | rw [if_neg hc3] | rw [if_neg (not_not_intro hc3)]); first | exact (bI_t (by assumption)).symm | exact (bI_f (by assumption)).symm | exact (bI_f (Int32.not_lt.mpr (by assumption))).symm | exact (bI_t (Int32.not_le.mp (by assumption))).symm) rfl rfl
    refine ⟨fun hc4 => ?_, fun hc4n => ?_⟩
    · show GG _ _ _ _ _ _ _ _ _ _ _ _ _
      refine g_iload_4 hX (dk DX3_passes_0 48 rfl) ?_
      refine g_iload_5 hX (dk DX3_passes_0 49 rfl) ?_
      refine g_icmp_ne (tgt := 184) hX (dk DX3_passes_0 50 rfl) (by decide) (fun hc5 => ?_) (fun hc5 => ?_)
      · refine g_iconst (v := 0) hX (dk DX3_passes_0 53 rfl) (by decide) ?_
        refine g_ireturn hX (dk DX3_passes_0 54 rfl) rfl (by decide) (by decide) (by decide) ?_
        exact rI_of (by unfold psC factC; (try first | rw [if_pos hc1] | rw [if_neg hc1] | rw [if_neg (not_not_intro hc1)]); (try first | rw [if_pos hc2n] | rw [if_neg hc2n] | rw [if_neg (not_not_intro hc2n)]); (try first | rw [if_pos hc4] | rw [if_neg hc4] | rw [if_neg (not_not_intro hc4)]); (try first | rw [if_pos hc5] | rw [if_neg hc5] | rw [if_neg (not_not_intro hc5)]); first | exact (bI_t (by assumption)).symm | exact (bI_f (by assumption)).symm | exact (bI_f (Int32.not_lt.mpr (by assumption))).symm | exact (bI_t (Int32.not_le.mp (by assumption))).symm) rfl rfl
      · refine g_iconst (v := 1) hX (dk DX3_passes_0 51 rfl) (by decide) ?_
        refine g_goto (tgt := 185) hX (dk DX3_passes_0 52 rfl) (by decide) ?_
        refine g_ireturn hX (dk DX3_passes_0 54 rfl) rfl (by decide) (by decide) (by decide) ?_
        exact rI_of (by unfold psC factC; (try first | rw [if_pos hc1] | rw [if_neg hc1] | rw [if_neg (not_not_intro hc1)]); (try first | rw [if_pos hc2n] | rw [if_neg hc2n] | rw [if_neg (not_not_intro hc2n)]); (try first | rw [if_pos hc4] | rw [if_neg hc4] | rw [if_neg (not_not_intro hc4)]); (try first | rw [if_pos hc5] | rw [if_neg hc5] | rw [if_neg (not_not_intro hc5)]); first | exact (bI_t (by assumption)).symm | exact (bI_f (by assumption)).symm | exact (bI_f (Int32.not_lt.mpr (by assumption))).symm | exact (bI_t (Int32.not_le.mp (by assumption))).symm) rfl rfl
    show GG _ _ _ _ _ _ _ _ _ _ _ _ _
    refine g_iload_4 hX (dk DX3_passes_0 55 rfl) ?_
    refine g_iload_5 hX (dk DX3_passes_0 56 rfl) ?_
    refine g_icmp_le (tgt := 197) hX (dk DX3_passes_0 57 rfl) (by decide) (fun hc7 => ?_) (fun hc7 => ?_)
    · refine g_iconst (v := 0) hX (dk DX3_passes_1 0 rfl) (by decide) ?_
      refine g_ireturn hX (dk DX3_passes_1 1 rfl) rfl (by decide) (by decide) (by decide) ?_
      exact rI_of (by unfold psC factC; (try first | rw [if_pos hc1] | rw [if_neg hc1] | rw [if_neg (not_not_intro hc1)]); (try first | rw [if_pos hc2n] | rw [if_neg hc2n] | rw [if_neg (not_not_intro hc2n)]); (try first | rw [if_pos hc4n] | rw [if_neg hc4n] | rw [if_neg (not_not_intro hc4n)]); (try first | rw [if_pos hc7] | rw [if_neg hc7] | rw [if_neg (not_not_intro hc7)]); first | exact (bI_t (by assumption)).symm | exact (bI_f (by assumption)).symm | exact (bI_f (Int32.not_lt.mpr (by assumption))).symm | exact (bI_t (Int32.not_le.mp (by assumption))).symm) rfl rfl
    · refine g_iconst (v := 1) hX (dk DX3_passes_0 58 rfl) (by decide) ?_
      refine g_goto (tgt := 198) hX (dk DX3_passes_0 59 rfl) (by decide) ?_
      refine g_ireturn hX (dk DX3_passes_1 1 rfl) rfl (by decide) (by decide) (by decide) ?_
      exact rI_of (by unfold psC factC; (try first | rw [if_pos hc1] | rw [if_neg hc1] | rw [if_neg (not_not_intro hc1)]); (try first | rw [if_pos hc2n] | rw [if_neg hc2n] | rw [if_neg (not_not_intro hc2n)]); (try first | rw [if_pos hc4n] | rw [if_neg hc4n] | rw [if_neg (not_not_intro hc4n)]); (try first | rw [if_pos hc7] | rw [if_neg hc7] | rw [if_neg (not_not_intro hc7)]); first | exact (bI_t (by assumption)).symm | exact (bI_f (by assumption)).symm | exact (bI_f (Int32.not_lt.mpr (by assumption))).symm | exact (bI_t (Int32.not_le.mp (by assumption))).symm) rfl rfl
  refine ⟨fun hc8 => ?_, fun hc8n => ?_⟩
  · show GG _ _ _ _ _ _ _ _ _ _ _ _ _
    refine g_aload_1 hX (dk DX3_passes_0 8 rfl) ?_
    refine g_getD (v := _) hX (dk DX3_passes_0 9 rfl) fX3_101 (by decide) hq hdc (rfl) ?_
    refine g_istore_4 hX (dk DX3_passes_0 10 rfl) (by decide) rfl ?_
    refine g_goto (tgt := 125) hX (dk DX3_passes_0 11 rfl) (by decide) ?_
    refine g_iload_0 hX (dk DX3_passes_0 35 rfl) ?_
    refine g_bipush (v := 8) hX (dk DX3_passes_0 36 rfl) (by decide) ?_
    refine g_ishr hX (dk DX3_passes_0 37 rfl) ?_
    refine g_sipush (v := 255) hX (dk DX3_passes_0 38 rfl) (by decide) ?_
    refine g_iand hX (dk DX3_passes_0 39 rfl) ?_
    refine g_lswitch (dt := 186) hX [(60, 160), (61, 173)] (dk DX3_passes_0 40 rfl) (by decide +kernel) (by decide +kernel) ?_
    refine ⟨fun hc9 => ?_, fun hc9n => ?_⟩
    · show GG _ _ _ _ _ _ _ _ _ _ _ _ _
      refine g_iload_4 hX (dk DX3_passes_0 41 rfl) ?_
      refine g_iload_5 hX (dk DX3_passes_0 42 rfl) ?_
      refine g_icmp_ge (tgt := 171) hX (dk DX3_passes_0 43 rfl) (by decide) (fun hc10 => ?_) (fun hc10 => ?_)
      · refine g_iconst (v := 0) hX (dk DX3_passes_0 46 rfl) (by decide) ?_
        refine g_ireturn hX (dk DX3_passes_0 47 rfl) rfl (by decide) (by decide) (by decide) ?_
        exact rI_of (by unfold psC factC; (try first | rw [if_pos hc1n] | rw [if_neg hc1n] | rw [if_neg (not_not_intro hc1n)]); (try first | rw [if_pos hc8] | rw [if_neg hc8] | rw [if_neg (not_not_intro hc8)]); (try first | rw [if_pos hc9] | rw [if_neg hc9] | rw [if_neg (not_not_intro hc9)]); (try first | rw [if_pos hc10] | rw [if_neg hc10] | rw [if_neg (not_not_intro hc10)]); first | exact (bI_t (by assumption)).symm | exact (bI_f (by assumption)).symm | exact (bI_f (Int32.not_lt.mpr (by assumption))).symm | exact (bI_t (Int32.not_le.mp (by assumption))).symm) rfl rfl
      · refine g_iconst (v := 1) hX (dk DX3_passes_0 44 rfl) (by decide) ?_
        refine g_goto (tgt := 172) hX (dk DX3_passes_0 45 rfl) (by decide) ?_
        refine g_ireturn hX (dk DX3_passes_0 47 rfl) rfl (by decide) (by decide) (by decide) ?_
        exact rI_of (by unfold psC factC; (try first | rw [if_pos hc1n] | rw [if_neg hc1n] | rw [if_neg (not_not_intro hc1n)]); (try first | rw [if_pos hc8] | rw [if_neg hc8] | rw [if_neg (not_not_intro hc8)]); (try first | rw [if_pos hc9] | rw [if_neg hc9] | rw [if_neg (not_not_intro hc9)]); (try first | rw [if_pos hc10] | rw [if_neg hc10] | rw [if_neg (not_not_intro hc10)]); first | exact (bI_t (by assumption)).symm | exact (bI_f (by assumption)).symm | exact (bI_f (Int32.not_lt.mpr (by assumption))).symm | exact (bI_t (Int32.not_le.mp (by assumption))).symm) rfl rfl
    refine ⟨fun hc11 => ?_, fun hc11n => ?_⟩
    · show GG _ _ _ _ _ _ _ _ _ _ _ _ _
      refine g_iload_4 hX (dk DX3_passes_0 48 rfl) ?_
      refine g_iload_5 hX (dk DX3_passes_0 49 rfl) ?_
      refine g_icmp_ne (tgt := 184) hX (dk DX3_passes_0 50 rfl) (by decide) (fun hc12 => ?_) (fun hc12 => ?_)
      · refine g_iconst (v := 0) hX (dk DX3_passes_0 53 rfl) (by decide) ?_
        refine g_ireturn hX (dk DX3_passes_0 54 rfl) rfl (by decide) (by decide) (by decide) ?_
        exact rI_of (by unfold psC factC; (try first | rw [if_pos hc1n] | rw [if_neg hc1n] | rw [if_neg (not_not_intro hc1n)]); (try first | rw [if_pos hc8] | rw [if_neg hc8] | rw [if_neg (not_not_intro hc8)]); (try first | rw [if_pos hc9n] | rw [if_neg hc9n] | rw [if_neg (not_not_intro hc9n)]); (try first | rw [if_pos hc11] | rw [if_neg hc11] | rw [if_neg (not_not_intro hc11)]); (try first | rw [if_pos hc12] | rw [if_neg hc12] | rw [if_neg (not_not_intro hc12)]); first | exact (bI_t (by assumption)).symm | exact (bI_f (by assumption)).symm | exact (bI_f (Int32.not_lt.mpr (by assumption))).symm | exact (bI_t (Int32.not_le.mp (by assumption))).symm) rfl rfl
      · refine g_iconst (v := 1) hX (dk DX3_passes_0 51 rfl) (by decide) ?_
        refine g_goto (tgt := 185) hX (dk DX3_passes_0 52 rfl) (by decide) ?_
        refine g_ireturn hX (dk DX3_passes_0 54 rfl) rfl (by decide) (by decide) (by decide) ?_
        exact rI_of (by unfold psC factC; (try first | rw [if_pos hc1n] | rw [if_neg hc1n] | rw [if_neg (not_not_intro hc1n)]); (try first | rw [if_pos hc8] | rw [if_neg hc8] | rw [if_neg (not_not_intro hc8)]); (try first | rw [if_pos hc9n] | rw [if_neg hc9n] | rw [if_neg (not_not_intro hc9n)]); (try first | rw [if_pos hc11] | rw [if_neg hc11] | rw [if_neg (not_not_intro hc11)]); (try first | rw [if_pos hc12] | rw [if_neg hc12] | rw [if_neg (not_not_intro hc12)]); first | exact (bI_t (by assumption)).symm | exact (bI_f (by assumption)).symm | exact (bI_f (Int32.not_lt.mpr (by assumption))).symm | exact (bI_t (Int32.not_le.mp (by assumption))).symm) rfl rfl
    show GG _ _ _ _ _ _ _ _ _ _ _ _ _
    refine g_iload_4 hX (dk DX3_passes_0 55 rfl) ?_
    refine g_iload_5 hX (dk DX3_passes_0 56 rfl) ?_
    refine g_icmp_le (tgt := 197) hX (dk DX3_passes_0 57 rfl) (by decide) (fun hc14 => ?_) (fun hc14 => ?_)
    · refine g_iconst (v := 0) hX (dk DX3_passes_1 0 rfl) (by decide) ?_
      refine g_ireturn hX (dk DX3_passes_1 1 rfl) rfl (by decide) (by decide) (by decide) ?_
      exact rI_of (by unfold psC factC; (try first | rw [if_pos hc1n] | rw [if_neg hc1n] | rw [if_neg (not_not_intro hc1n)]); (try first | rw [if_pos hc8] | rw [if_neg hc8] | rw [if_neg (not_not_intro hc8)]); (try first | rw [if_pos hc9n] | rw [if_neg hc9n] | rw [if_neg (not_not_intro hc9n)]); (try first | rw [if_pos hc11n] | rw [if_neg hc11n] | rw [if_neg (not_not_intro hc11n)]); (try first | rw [if_pos hc14] | rw [if_neg hc14] | rw [if_neg (not_not_intro hc14)]); first | exact (bI_t (by assumption)).symm | exact (bI_f (by assumption)).symm | exact (bI_f (Int32.not_lt.mpr (by assumption))).symm | exact (bI_t (Int32.not_le.mp (by assumption))).symm) rfl rfl
    · refine g_iconst (v := 1) hX (dk DX3_passes_0 58 rfl) (by decide) ?_
      refine g_goto (tgt := 198) hX (dk DX3_passes_0 59 rfl) (by decide) ?_
      refine g_ireturn hX (dk DX3_passes_1 1 rfl) rfl (by decide) (by decide) (by decide) ?_
      exact rI_of (by unfold psC factC; (try first | rw [if_pos hc1n] | rw [if_neg hc1n] | rw [if_neg (not_not_intro hc1n)]); (try first | rw [if_pos hc8] | rw [if_neg hc8] | rw [if_neg (not_not_intro hc8)]); (try first | rw [if_pos hc9n] | rw [if_neg hc9n] | rw [if_neg (not_not_intro hc9n)]); (try first | rw [if_pos hc11n] | rw [if_neg hc11n] | rw [if_neg (not_not_intro hc11n)]); (try first | rw [if_pos hc14] | rw [if_neg hc14] | rw [if_neg (not_not_intro hc14)]); first | exact (bI_t (by assumption)).symm | exact (bI_f (by assumption)).symm | exact (bI_f (Int32.not_lt.mpr (by assumption))).symm | exact (bI_t (Int32.not_le.mp (by assumption))).symm) rfl rfl
  refine ⟨fun hc15 => ?_, fun hc15n => ?_⟩
  · show GG _ _ _ _ _ _ _ _ _ _ _ _ _
    refine g_aload_1 hX (dk DX3_passes_0 12 rfl) ?_
    refine g_c1I hX (sD_X3_passes_78 _ hdc) (by decide) (Nat.le_of_ble_eq_true rfl) (rc0 rfl hq rfl) (by decide) (by decide) (cD_kind hG hq hdc) ?_
    refine g_istore_4 hX (dk DX3_passes_0 14 rfl) (by decide) rfl ?_
    refine g_goto (tgt := 125) hX (dk DX3_passes_0 15 rfl) (by decide) ?_
    refine g_iload_0 hX (dk DX3_passes_0 35 rfl) ?_
    refine g_bipush (v := 8) hX (dk DX3_passes_0 36 rfl) (by decide) ?_
    refine g_ishr hX (dk DX3_passes_0 37 rfl) ?_
    refine g_sipush (v := 255) hX (dk DX3_passes_0 38 rfl) (by decide) ?_
    refine g_iand hX (dk DX3_passes_0 39 rfl) ?_
    refine g_lswitch (dt := 186) hX [(60, 160), (61, 173)] (dk DX3_passes_0 40 rfl) (by decide +kernel) (by decide +kernel) ?_
    refine ⟨fun hc16 => ?_, fun hc16n => ?_⟩
    · show GG _ _ _ _ _ _ _ _ _ _ _ _ _
      refine g_iload_4 hX (dk DX3_passes_0 41 rfl) ?_
      refine g_iload_5 hX (dk DX3_passes_0 42 rfl) ?_
      refine g_icmp_ge (tgt := 171) hX (dk DX3_passes_0 43 rfl) (by decide) (fun hc17 => ?_) (fun hc17 => ?_)
      · refine g_iconst (v := 0) hX (dk DX3_passes_0 46 rfl) (by decide) ?_
        refine g_ireturn hX (dk DX3_passes_0 47 rfl) rfl (by decide) (by decide) (by decide) ?_
        exact rI_of (by unfold psC factC; (try first | rw [if_pos hc1n] | rw [if_neg hc1n] | rw [if_neg (not_not_intro hc1n)]); (try first | rw [if_pos hc8n] | rw [if_neg hc8n] | rw [if_neg (not_not_intro hc8n)]); (try first | rw [if_pos hc15] | rw [if_neg hc15] | rw [if_neg (not_not_intro hc15)]); (try first | rw [if_pos hc16] | rw [if_neg hc16] | rw [if_neg (not_not_intro hc16)]); (try first | rw [if_pos hc17] | rw [if_neg hc17] | rw [if_neg (not_not_intro hc17)]); first | exact (bI_t (by assumption)).symm | exact (bI_f (by assumption)).symm | exact (bI_f (Int32.not_lt.mpr (by assumption))).symm | exact (bI_t (Int32.not_le.mp (by assumption))).symm) rfl rfl
      · refine g_iconst (v := 1) hX (dk DX3_passes_0 44 rfl) (by decide) ?_
        refine g_goto (tgt := 172) hX (dk DX3_passes_0 45 rfl) (by decide) ?_
        refine g_ireturn hX (dk DX3_passes_0 47 rfl) rfl (by decide) (by decide) (by decide) ?_
        exact rI_of (by unfold psC factC; (try first | rw [if_pos hc1n] | rw [if_neg hc1n] | rw [if_neg (not_not_intro hc1n)]); (try first | rw [if_pos hc8n] | rw [if_neg hc8n] | rw [if_neg (not_not_intro hc8n)]); (try first | rw [if_pos hc15] | rw [if_neg hc15] | rw [if_neg (not_not_intro hc15)]); (try first | rw [if_pos hc16] | rw [if_neg hc16] | rw [if_neg (not_not_intro hc16)]); (try first | rw [if_pos hc17] | rw [if_neg hc17] | rw [if_neg (not_not_intro hc17)]); first | exact (bI_t (by assumption)).symm | exact (bI_f (by assumption)).symm | exact (bI_f (Int32.not_lt.mpr (by assumption))).symm | exact (bI_t (Int32.not_le.mp (by assumption))).symm) rfl rfl
    refine ⟨fun hc18 => ?_, fun hc18n => ?_⟩
    · show GG _ _ _ _ _ _ _ _ _ _ _ _ _
      refine g_iload_4 hX (dk DX3_passes_0 48 rfl) ?_
      refine g_iload_5 hX (dk DX3_passes_0 49 rfl) ?_
      refine g_icmp_ne (tgt := 184) hX (dk DX3_passes_0 50 rfl) (by decide) (fun hc19 => ?_) (fun hc19 => ?_)
      · refine g_iconst (v := 0) hX (dk DX3_passes_0 53 rfl) (by decide) ?_
        refine g_ireturn hX (dk DX3_passes_0 54 rfl) rfl (by decide) (by decide) (by decide) ?_
        exact rI_of (by unfold psC factC; (try first | rw [if_pos hc1n] | rw [if_neg hc1n] | rw [if_neg (not_not_intro hc1n)]); (try first | rw [if_pos hc8n] | rw [if_neg hc8n] | rw [if_neg (not_not_intro hc8n)]); (try first | rw [if_pos hc15] | rw [if_neg hc15] | rw [if_neg (not_not_intro hc15)]); (try first | rw [if_pos hc16n] | rw [if_neg hc16n] | rw [if_neg (not_not_intro hc16n)]); (try first | rw [if_pos hc18] | rw [if_neg hc18] | rw [if_neg (not_not_intro hc18)]); (try first | rw [if_pos hc19] | rw [if_neg hc19] | rw [if_neg (not_not_intro hc19)]); first | exact (bI_t (by assumption)).symm | exact (bI_f (by assumption)).symm | exact (bI_f (Int32.not_lt.mpr (by assumption))).symm | exact (bI_t (Int32.not_le.mp (by assumption))).symm) rfl rfl
      · refine g_iconst (v := 1) hX (dk DX3_passes_0 51 rfl) (by decide) ?_
        refine g_goto (tgt := 185) hX (dk DX3_passes_0 52 rfl) (by decide) ?_
        refine g_ireturn hX (dk DX3_passes_0 54 rfl) rfl (by decide) (by decide) (by decide) ?_
        exact rI_of (by unfold psC factC; (try first | rw [if_pos hc1n] | rw [if_neg hc1n] | rw [if_neg (not_not_intro hc1n)]); (try first | rw [if_pos hc8n] | rw [if_neg hc8n] | rw [if_neg (not_not_intro hc8n)]); (try first | rw [if_pos hc15] | rw [if_neg hc15] | rw [if_neg (not_not_intro hc15)]); (try first | rw [if_pos hc16n] | rw [if_neg hc16n] | rw [if_neg (not_not_intro hc16n)]); (try first | rw [if_pos hc18] | rw [if_neg hc18] | rw [if_neg (not_not_intro hc18)]); (try first | rw [if_pos hc19] | rw [if_neg hc19] | rw [if_neg (not_not_intro hc19)]); first | exact (bI_t (by assumption)).symm | exact (bI_f (by assumption)).symm | exact (bI_f (Int32.not_lt.mpr (by assumption))).symm | exact (bI_t (Int32.not_le.mp (by assumption))).symm) rfl rfl
    show GG _ _ _ _ _ _ _ _ _ _ _ _ _
    refine g_iload_4 hX (dk DX3_passes_0 55 rfl) ?_
    refine g_iload_5 hX (dk DX3_passes_0 56 rfl) ?_
    refine g_icmp_le (tgt := 197) hX (dk DX3_passes_0 57 rfl) (by decide) (fun hc21 => ?_) (fun hc21 => ?_)
    · refine g_iconst (v := 0) hX (dk DX3_passes_1 0 rfl) (by decide) ?_
      refine g_ireturn hX (dk DX3_passes_1 1 rfl) rfl (by decide) (by decide) (by decide) ?_
      exact rI_of (by unfold psC factC; (try first | rw [if_pos hc1n] | rw [if_neg hc1n] | rw [if_neg (not_not_intro hc1n)]); (try first | rw [if_pos hc8n] | rw [if_neg hc8n] | rw [if_neg (not_not_intro hc8n)]); (try first | rw [if_pos hc15] | rw [if_neg hc15] | rw [if_neg (not_not_intro hc15)]); (try first | rw [if_pos hc16n] | rw [if_neg hc16n] | rw [if_neg (not_not_intro hc16n)]); (try first | rw [if_pos hc18n] | rw [if_neg hc18n] | rw [if_neg (not_not_intro hc18n)]); (try first | rw [if_pos hc21] | rw [if_neg hc21] | rw [if_neg (not_not_intro hc21)]); first | exact (bI_t (by assumption)).symm | exact (bI_f (by assumption)).symm | exact (bI_f (Int32.not_lt.mpr (by assumption))).symm | exact (bI_t (Int32.not_le.mp (by assumption))).symm) rfl rfl
    · refine g_iconst (v := 1) hX (dk DX3_passes_0 58 rfl) (by decide) ?_
      refine g_goto (tgt := 198) hX (dk DX3_passes_0 59 rfl) (by decide) ?_
      refine g_ireturn hX (dk DX3_passes_1 1 rfl) rfl (by decide) (by decide) (by decide) ?_
      exact rI_of (by unfold psC factC; (try first | rw [if_pos hc1n] | rw [if_neg hc1n] | rw [if_neg (not_not_intro hc1n)]); (try first | rw [if_pos hc8n] | rw [if_neg hc8n] | rw [if_neg (not_not_intro hc8n)]); (try first | rw [if_pos hc15] | rw [if_neg hc15] | rw [if_neg (not_not_intro hc15)]); (try first | rw [if_pos hc16n] | rw [if_neg hc16n] | rw [if_neg (not_not_intro hc16n)]); (try first | rw [if_pos hc18n] | rw [if_neg hc18n] | rw [if_neg (not_not_intro hc18n)]); (try first | rw [if_pos hc21] | rw [if_neg hc21] | rw [if_neg (not_not_intro hc21)]); first | exact (bI_t (by assumption)).symm | exact (bI_f (by assumption)).symm | exact (bI_f (Int32.not_lt.mpr (by assumption))).symm | exact (bI_t (Int32.not_le.mp (by assumption))).symm) rfl rfl
  refine ⟨fun hc22 => ?_, fun hc22n => ?_⟩
  · show GG _ _ _ _ _ _ _ _ _ _ _ _ _
    refine g_aload_1 hX (dk DX3_passes_0 16 rfl) ?_
    refine g_getD (v := _) hX (dk DX3_passes_0 17 rfl) fX3_109 (by decide) hq hdc (rfl) ?_
    refine g_istore_4 hX (dk DX3_passes_0 18 rfl) (by decide) rfl ?_
    refine g_goto (tgt := 125) hX (dk DX3_passes_0 19 rfl) (by decide) ?_
    refine g_iload_0 hX (dk DX3_passes_0 35 rfl) ?_
    refine g_bipush (v := 8) hX (dk DX3_passes_0 36 rfl) (by decide) ?_
    refine g_ishr hX (dk DX3_passes_0 37 rfl) ?_
    refine g_sipush (v := 255) hX (dk DX3_passes_0 38 rfl) (by decide) ?_
    refine g_iand hX (dk DX3_passes_0 39 rfl) ?_
    refine g_lswitch (dt := 186) hX [(60, 160), (61, 173)] (dk DX3_passes_0 40 rfl) (by decide +kernel) (by decide +kernel) ?_
    refine ⟨fun hc23 => ?_, fun hc23n => ?_⟩
    · show GG _ _ _ _ _ _ _ _ _ _ _ _ _
      refine g_iload_4 hX (dk DX3_passes_0 41 rfl) ?_
      refine g_iload_5 hX (dk DX3_passes_0 42 rfl) ?_
      refine g_icmp_ge (tgt := 171) hX (dk DX3_passes_0 43 rfl) (by decide) (fun hc24 => ?_) (fun hc24 => ?_)
      · refine g_iconst (v := 0) hX (dk DX3_passes_0 46 rfl) (by decide) ?_
        refine g_ireturn hX (dk DX3_passes_0 47 rfl) rfl (by decide) (by decide) (by decide) ?_
        exact rI_of (by unfold psC factC; (try first | rw [if_pos hc1n] | rw [if_neg hc1n] | rw [if_neg (not_not_intro hc1n)]); (try first | rw [if_pos hc8n] | rw [if_neg hc8n] | rw [if_neg (not_not_intro hc8n)]); (try first | rw [if_pos hc15n] | rw [if_neg hc15n] | rw [if_neg (not_not_intro hc15n)]); (try first | rw [if_pos hc22] | rw [if_neg hc22] | rw [if_neg (not_not_intro hc22)]); (try first | rw [if_pos hc23] | rw [if_neg hc23] | rw [if_neg (not_not_intro hc23)]); (try first | rw [if_pos hc24] | rw [if_neg hc24] | rw [if_neg (not_not_intro hc24)]); first | exact (bI_t (by assumption)).symm | exact (bI_f (by assumption)).symm | exact (bI_f (Int32.not_lt.mpr (by assumption))).symm | exact (bI_t (Int32.not_le.mp (by assumption))).symm) rfl rfl
      · refine g_iconst (v := 1) hX (dk DX3_passes_0 44 rfl) (by decide) ?_
        refine g_goto (tgt := 172) hX (dk DX3_passes_0 45 rfl) (by decide) ?_
        refine g_ireturn hX (dk DX3_passes_0 47 rfl) rfl (by decide) (by decide) (by decide) ?_
        exact rI_of (by unfold psC factC; (try first | rw [if_pos hc1n] | rw [if_neg hc1n] | rw [if_neg (not_not_intro hc1n)]); (try first | rw [if_pos hc8n] | rw [if_neg hc8n] | rw [if_neg (not_not_intro hc8n)]); (try first | rw [if_pos hc15n] | rw [if_neg hc15n] | rw [if_neg (not_not_intro hc15n)]); (try first | rw [if_pos hc22] | rw [if_neg hc22] | rw [if_neg (not_not_intro hc22)]); (try first | rw [if_pos hc23] | rw [if_neg hc23] | rw [if_neg (not_not_intro hc23)]); (try first | rw [if_pos hc24] | rw [if_neg hc24] | rw [if_neg (not_not_intro hc24)]); first | exact (bI_t (by assumption)).symm | exact (bI_f (by assumption)).symm | exact (bI_f (Int32.not_lt.mpr (by assumption))).symm | exact (bI_t (Int32.not_le.mp (by assumption))).symm) rfl rfl
    refine ⟨fun hc25 => ?_, fun hc25n => ?_⟩
    · show GG _ _ _ _ _ _ _ _ _ _ _ _ _
      refine g_iload_4 hX (dk DX3_passes_0 48 rfl) ?_
      refine g_iload_5 hX (dk DX3_passes_0 49 rfl) ?_
      refine g_icmp_ne (tgt := 184) hX (dk DX3_passes_0 50 rfl) (by decide) (fun hc26 => ?_) (fun hc26 => ?_)
      · refine g_iconst (v := 0) hX (dk DX3_passes_0 53 rfl) (by decide) ?_
        refine g_ireturn hX (dk DX3_passes_0 54 rfl) rfl (by decide) (by decide) (by decide) ?_
        exact rI_of (by unfold psC factC; (try first | rw [if_pos hc1n] | rw [if_neg hc1n] | rw [if_neg (not_not_intro hc1n)]); (try first | rw [if_pos hc8n] | rw [if_neg hc8n] | rw [if_neg (not_not_intro hc8n)]); (try first | rw [if_pos hc15n] | rw [if_neg hc15n] | rw [if_neg (not_not_intro hc15n)]); (try first | rw [if_pos hc22] | rw [if_neg hc22] | rw [if_neg (not_not_intro hc22)]); (try first | rw [if_pos hc23n] | rw [if_neg hc23n] | rw [if_neg (not_not_intro hc23n)]); (try first | rw [if_pos hc25] | rw [if_neg hc25] | rw [if_neg (not_not_intro hc25)]); (try first | rw [if_pos hc26] | rw [if_neg hc26] | rw [if_neg (not_not_intro hc26)]); first | exact (bI_t (by assumption)).symm | exact (bI_f (by assumption)).symm | exact (bI_f (Int32.not_lt.mpr (by assumption))).symm | exact (bI_t (Int32.not_le.mp (by assumption))).symm) rfl rfl
      · refine g_iconst (v := 1) hX (dk DX3_passes_0 51 rfl) (by decide) ?_
        refine g_goto (tgt := 185) hX (dk DX3_passes_0 52 rfl) (by decide) ?_
        refine g_ireturn hX (dk DX3_passes_0 54 rfl) rfl (by decide) (by decide) (by decide) ?_
        exact rI_of (by unfold psC factC; (try first | rw [if_pos hc1n] | rw [if_neg hc1n] | rw [if_neg (not_not_intro hc1n)]); (try first | rw [if_pos hc8n] | rw [if_neg hc8n] | rw [if_neg (not_not_intro hc8n)]); (try first | rw [if_pos hc15n] | rw [if_neg hc15n] | rw [if_neg (not_not_intro hc15n)]); (try first | rw [if_pos hc22] | rw [if_neg hc22] | rw [if_neg (not_not_intro hc22)]); (try first | rw [if_pos hc23n] | rw [if_neg hc23n] | rw [if_neg (not_not_intro hc23n)]); (try first | rw [if_pos hc25] | rw [if_neg hc25] | rw [if_neg (not_not_intro hc25)]); (try first | rw [if_pos hc26] | rw [if_neg hc26] | rw [if_neg (not_not_intro hc26)]); first | exact (bI_t (by assumption)).symm | exact (bI_f (by assumption)).symm | exact (bI_f (Int32.not_lt.mpr (by assumption))).symm | exact (bI_t (Int32.not_le.mp (by assumption))).symm) rfl rfl
    show GG _ _ _ _ _ _ _ _ _ _ _ _ _
    refine g_iload_4 hX (dk DX3_passes_0 55 rfl) ?_
    refine g_iload_5 hX (dk DX3_passes_0 56 rfl) ?_
    refine g_icmp_le (tgt := 197) hX (dk DX3_passes_0 57 rfl) (by decide) (fun hc28 => ?_) (fun hc28 => ?_)
    · refine g_iconst (v := 0) hX (dk DX3_passes_1 0 rfl) (by decide) ?_
      refine g_ireturn hX (dk DX3_passes_1 1 rfl) rfl (by decide) (by decide) (by decide) ?_
      exact rI_of (by unfold psC factC; (try first | rw [if_pos hc1n] | rw [if_neg hc1n] | rw [if_neg (not_not_intro hc1n)]); (try first | rw [if_pos hc8n] | rw [if_neg hc8n] | rw [if_neg (not_not_intro hc8n)]); (try first | rw [if_pos hc15n] | rw [if_neg hc15n] | rw [if_neg (not_not_intro hc15n)]); (try first | rw [if_pos hc22] | rw [if_neg hc22] | rw [if_neg (not_not_intro hc22)]); (try first | rw [if_pos hc23n] | rw [if_neg hc23n] | rw [if_neg (not_not_intro hc23n)]); (try first | rw [if_pos hc25n] | rw [if_neg hc25n] | rw [if_neg (not_not_intro hc25n)]); (try first | rw [if_pos hc28] | rw [if_neg hc28] | rw [if_neg (not_not_intro hc28)]); first | exact (bI_t (by assumption)).symm | exact (bI_f (by assumption)).symm | exact (bI_f (Int32.not_lt.mpr (by assumption))).symm | exact (bI_t (Int32.not_le.mp (by assumption))).symm) rfl rfl
    · refine g_iconst (v := 1) hX (dk DX3_passes_0 58 rfl) (by decide) ?_
      refine g_goto (tgt := 198) hX (dk DX3_passes_0 59 rfl) (by decide) ?_
      refine g_ireturn hX (dk DX3_passes_1 1 rfl) rfl (by decide) (by decide) (by decide) ?_
      exact rI_of (by unfold psC factC; (try first | rw [if_pos hc1n] | rw [if_neg hc1n] | rw [if_neg (not_not_intro hc1n)]); (try first | rw [if_pos hc8n] | rw [if_neg hc8n] | rw [if_neg (not_not_intro hc8n)]); (try first | rw [if_pos hc15n] | rw [if_neg hc15n] | rw [if_neg (not_not_intro hc15n)]); (try first | rw [if_pos hc22] | rw [if_neg hc22] | rw [if_neg (not_not_intro hc22)]); (try first | rw [if_pos hc23n] | rw [if_neg hc23n] | rw [if_neg (not_not_intro hc23n)]); (try first | rw [if_pos hc25n] | rw [if_neg hc25n] | rw [if_neg (not_not_intro hc25n)]); (try first | rw [if_pos hc28] | rw [if_neg hc28] | rw [if_neg (not_not_intro hc28)]); first | exact (bI_t (by assumption)).symm | exact (bI_f (by assumption)).symm | exact (bI_f (Int32.not_lt.mpr (by assumption))).symm | exact (bI_t (Int32.not_le.mp (by assumption))).symm) rfl rfl
  refine ⟨fun hc29 => ?_, fun hc29n => ?_⟩
  · show GG _ _ _ _ _ _ _ _ _ _ _ _ _
    refine g_aload_1 hX (dk DX3_passes_0 20 rfl) ?_
    refine g_getD (v := _) hX (dk DX3_passes_0 21 rfl) fX3_112 (by decide) hq hdc (rfl) ?_
    refine g_istore_4 hX (dk DX3_passes_0 22 rfl) (by decide) rfl ?_
    refine g_goto (tgt := 125) hX (dk DX3_passes_0 23 rfl) (by decide) ?_
    refine g_iload_0 hX (dk DX3_passes_0 35 rfl) ?_
    refine g_bipush (v := 8) hX (dk DX3_passes_0 36 rfl) (by decide) ?_
    refine g_ishr hX (dk DX3_passes_0 37 rfl) ?_
    refine g_sipush (v := 255) hX (dk DX3_passes_0 38 rfl) (by decide) ?_
    refine g_iand hX (dk DX3_passes_0 39 rfl) ?_
    refine g_lswitch (dt := 186) hX [(60, 160), (61, 173)] (dk DX3_passes_0 40 rfl) (by decide +kernel) (by decide +kernel) ?_
    refine ⟨fun hc30 => ?_, fun hc30n => ?_⟩
    · show GG _ _ _ _ _ _ _ _ _ _ _ _ _
      refine g_iload_4 hX (dk DX3_passes_0 41 rfl) ?_
      refine g_iload_5 hX (dk DX3_passes_0 42 rfl) ?_
      refine g_icmp_ge (tgt := 171) hX (dk DX3_passes_0 43 rfl) (by decide) (fun hc31 => ?_) (fun hc31 => ?_)
      · refine g_iconst (v := 0) hX (dk DX3_passes_0 46 rfl) (by decide) ?_
        refine g_ireturn hX (dk DX3_passes_0 47 rfl) rfl (by decide) (by decide) (by decide) ?_
        exact rI_of (by unfold psC factC; (try first | rw [if_pos hc1n] | rw [if_neg hc1n] | rw [if_neg (not_not_intro hc1n)]); (try first | rw [if_pos hc8n] | rw [if_neg hc8n] | rw [if_neg (not_not_intro hc8n)]); (try first | rw [if_pos hc15n] | rw [if_neg hc15n] | rw [if_neg (not_not_intro hc15n)]); (try first | rw [if_pos hc22n] | rw [if_neg hc22n] | rw [if_neg (not_not_intro hc22n)]); (try first | rw [if_pos hc29] | rw [if_neg hc29] | rw [if_neg (not_not_intro hc29)]); (try first | rw [if_pos hc30] | rw [if_neg hc30] | rw [if_neg (not_not_intro hc30)]); (try first | rw [if_pos hc31] | rw [if_neg hc31] | rw [if_neg (not_not_intro hc31)]); first | exact (bI_t (by assumption)).symm | exact (bI_f (by assumption)).symm | exact (bI_f (Int32.not_lt.mpr (by assumption))).symm | exact (bI_t (Int32.not_le.mp (by assumption))).symm) rfl rfl
      · refine g_iconst (v := 1) hX (dk DX3_passes_0 44 rfl) (by decide) ?_
        refine g_goto (tgt := 172) hX (dk DX3_passes_0 45 rfl) (by decide) ?_
        refine g_ireturn hX (dk DX3_passes_0 47 rfl) rfl (by decide) (by decide) (by decide) ?_
        exact rI_of (by unfold psC factC; (try first | rw [if_pos hc1n] | rw [if_neg hc1n] | rw [if_neg (not_not_intro hc1n)]); (try first | rw [if_pos hc8n] | rw [if_neg hc8n] | rw [if_neg (not_not_intro hc8n)]); (try first | rw [if_pos hc15n] | rw [if_neg hc15n] | rw [if_neg (not_not_intro hc15n)]); (try first | rw [if_pos hc22n] | rw [if_neg hc22n] | rw [if_neg (not_not_intro hc22n)]); (try first | rw [if_pos hc29] | rw [if_neg hc29] | rw [if_neg (not_not_intro hc29)]); (try first | rw [if_pos hc30] | rw [if_neg hc30] | rw [if_neg (not_not_intro hc30)]); (try first | rw [if_pos hc31] | rw [if_neg hc31] | rw [if_neg (not_not_intro hc31)]); first | exact (bI_t (by assumption)).symm | exact (bI_f (by assumption)).symm | exact (bI_f (Int32.not_lt.mpr (by assumption))).symm | exact (bI_t (Int32.not_le.mp (by assumption))).symm) rfl rfl
    refine ⟨fun hc32 => ?_, fun hc32n => ?_⟩
    · show GG _ _ _ _ _ _ _ _ _ _ _ _ _
      refine g_iload_4 hX (dk DX3_passes_0 48 rfl) ?_
      refine g_iload_5 hX (dk DX3_passes_0 49 rfl) ?_
      refine g_icmp_ne (tgt := 184) hX (dk DX3_passes_0 50 rfl) (by decide) (fun hc33 => ?_) (fun hc33 => ?_)
      · refine g_iconst (v := 0) hX (dk DX3_passes_0 53 rfl) (by decide) ?_
        refine g_ireturn hX (dk DX3_passes_0 54 rfl) rfl (by decide) (by decide) (by decide) ?_
        exact rI_of (by unfold psC factC; (try first | rw [if_pos hc1n] | rw [if_neg hc1n] | rw [if_neg (not_not_intro hc1n)]); (try first | rw [if_pos hc8n] | rw [if_neg hc8n] | rw [if_neg (not_not_intro hc8n)]); (try first | rw [if_pos hc15n] | rw [if_neg hc15n] | rw [if_neg (not_not_intro hc15n)]); (try first | rw [if_pos hc22n] | rw [if_neg hc22n] | rw [if_neg (not_not_intro hc22n)]); (try first | rw [if_pos hc29] | rw [if_neg hc29] | rw [if_neg (not_not_intro hc29)]); (try first | rw [if_pos hc30n] | rw [if_neg hc30n] | rw [if_neg (not_not_intro hc30n)]); (try first | rw [if_pos hc32] | rw [if_neg hc32] | rw [if_neg (not_not_intro hc32)]); (try first | rw [if_pos hc33] | rw [if_neg hc33] | rw [if_neg (not_not_intro hc33)]); first | exact (bI_t (by assumption)).symm | exact (bI_f (by assumption)).symm | exact (bI_f (Int32.not_lt.mpr (by assumption))).symm | exact (bI_t (Int32.not_le.mp (by assumption))).symm) rfl rfl
      · refine g_iconst (v := 1) hX (dk DX3_passes_0 51 rfl) (by decide) ?_
        refine g_goto (tgt := 185) hX (dk DX3_passes_0 52 rfl) (by decide) ?_
        refine g_ireturn hX (dk DX3_passes_0 54 rfl) rfl (by decide) (by decide) (by decide) ?_
        exact rI_of (by unfold psC factC; (try first | rw [if_pos hc1n] | rw [if_neg hc1n] | rw [if_neg (not_not_intro hc1n)]); (try first | rw [if_pos hc8n] | rw [if_neg hc8n] | rw [if_neg (not_not_intro hc8n)]); (try first | rw [if_pos hc15n] | rw [if_neg hc15n] | rw [if_neg (not_not_intro hc15n)]); (try first | rw [if_pos hc22n] | rw [if_neg hc22n] | rw [if_neg (not_not_intro hc22n)]); (try first | rw [if_pos hc29] | rw [if_neg hc29] | rw [if_neg (not_not_intro hc29)]); (try first | rw [if_pos hc30n] | rw [if_neg hc30n] | rw [if_neg (not_not_intro hc30n)]); (try first | rw [if_pos hc32] | rw [if_neg hc32] | rw [if_neg (not_not_intro hc32)]); (try first | rw [if_pos hc33] | rw [if_neg hc33] | rw [if_neg (not_not_intro hc33)]); first | exact (bI_t (by assumption)).symm | exact (bI_f (by assumption)).symm | exact (bI_f (Int32.not_lt.mpr (by assumption))).symm | exact (bI_t (Int32.not_le.mp (by assumption))).symm) rfl rfl
    show GG _ _ _ _ _ _ _ _ _ _ _ _ _
    refine g_iload_4 hX (dk DX3_passes_0 55 rfl) ?_
    refine g_iload_5 hX (dk DX3_passes_0 56 rfl) ?_
    refine g_icmp_le (tgt := 197) hX (dk DX3_passes_0 57 rfl) (by decide) (fun hc35 => ?_) (fun hc35 => ?_)
    · refine g_iconst (v := 0) hX (dk DX3_passes_1 0 rfl) (by decide) ?_
      refine g_ireturn hX (dk DX3_passes_1 1 rfl) rfl (by decide) (by decide) (by decide) ?_
      exact rI_of (by unfold psC factC; (try first | rw [if_pos hc1n] | rw [if_neg hc1n] | rw [if_neg (not_not_intro hc1n)]); (try first | rw [if_pos hc8n] | rw [if_neg hc8n] | rw [if_neg (not_not_intro hc8n)]); (try first | rw [if_pos hc15n] | rw [if_neg hc15n] | rw [if_neg (not_not_intro hc15n)]); (try first | rw [if_pos hc22n] | rw [if_neg hc22n] | rw [if_neg (not_not_intro hc22n)]); (try first | rw [if_pos hc29] | rw [if_neg hc29] | rw [if_neg (not_not_intro hc29)]); (try first | rw [if_pos hc30n] | rw [if_neg hc30n] | rw [if_neg (not_not_intro hc30n)]); (try first | rw [if_pos hc32n] | rw [if_neg hc32n] | rw [if_neg (not_not_intro hc32n)]); (try first | rw [if_pos hc35] | rw [if_neg hc35] | rw [if_neg (not_not_intro hc35)]); first | exact (bI_t (by assumption)).symm | exact (bI_f (by assumption)).symm | exact (bI_f (Int32.not_lt.mpr (by assumption))).symm | exact (bI_t (Int32.not_le.mp (by assumption))).symm) rfl rfl
    · refine g_iconst (v := 1) hX (dk DX3_passes_0 58 rfl) (by decide) ?_
      refine g_goto (tgt := 198) hX (dk DX3_passes_0 59 rfl) (by decide) ?_
      refine g_ireturn hX (dk DX3_passes_1 1 rfl) rfl (by decide) (by decide) (by decide) ?_
      exact rI_of (by unfold psC factC; (try first | rw [if_pos hc1n] | rw [if_neg hc1n] | rw [if_neg (not_not_intro hc1n)]); (try first | rw [if_pos hc8n] | rw [if_neg hc8n] | rw [if_neg (not_not_intro hc8n)]); (try first | rw [if_pos hc15n] | rw [if_neg hc15n] | rw [if_neg (not_not_intro hc15n)]); (try first | rw [if_pos hc22n] | rw [if_neg hc22n] | rw [if_neg (not_not_intro hc22n)]); (try first | rw [if_pos hc29] | rw [if_neg hc29] | rw [if_neg (not_not_intro hc29)]); (try first | rw [if_pos hc30n] | rw [if_neg hc30n] | rw [if_neg (not_not_intro hc30n)]); (try first | rw [if_pos hc32n] | rw [if_neg hc32n] | rw [if_neg (not_not_intro hc32n)]); (try first | rw [if_pos hc35] | rw [if_neg hc35] | rw [if_neg (not_not_intro hc35)]); first | exact (bI_t (by assumption)).symm | exact (bI_f (by assumption)).symm | exact (bI_f (Int32.not_lt.mpr (by assumption))).symm | exact (bI_t (Int32.not_le.mp (by assumption))).symm) rfl rfl
  refine ⟨fun hc36 => ?_, fun hc36n => ?_⟩
  · show GG _ _ _ _ _ _ _ _ _ _ _ _ _
    refine g_iload_2 hX (dk DX3_passes_0 30 rfl) ?_
    refine g_istore_4 hX (dk DX3_passes_0 31 rfl) (by decide) rfl ?_
    refine g_goto (tgt := 125) hX (dk DX3_passes_0 32 rfl) (by decide) ?_
    refine g_iload_0 hX (dk DX3_passes_0 35 rfl) ?_
    refine g_bipush (v := 8) hX (dk DX3_passes_0 36 rfl) (by decide) ?_
    refine g_ishr hX (dk DX3_passes_0 37 rfl) ?_
    refine g_sipush (v := 255) hX (dk DX3_passes_0 38 rfl) (by decide) ?_
    refine g_iand hX (dk DX3_passes_0 39 rfl) ?_
    refine g_lswitch (dt := 186) hX [(60, 160), (61, 173)] (dk DX3_passes_0 40 rfl) (by decide +kernel) (by decide +kernel) ?_
    refine ⟨fun hc37 => ?_, fun hc37n => ?_⟩
    · show GG _ _ _ _ _ _ _ _ _ _ _ _ _
      refine g_iload_4 hX (dk DX3_passes_0 41 rfl) ?_
      refine g_iload_5 hX (dk DX3_passes_0 42 rfl) ?_
      refine g_icmp_ge (tgt := 171) hX (dk DX3_passes_0 43 rfl) (by decide) (fun hc38 => ?_) (fun hc38 => ?_)
      · refine g_iconst (v := 0) hX (dk DX3_passes_0 46 rfl) (by decide) ?_
        refine g_ireturn hX (dk DX3_passes_0 47 rfl) rfl (by decide) (by decide) (by decide) ?_
        exact rI_of (by unfold psC factC; (try first | rw [if_pos hc1n] | rw [if_neg hc1n] | rw [if_neg (not_not_intro hc1n)]); (try first | rw [if_pos hc8n] | rw [if_neg hc8n] | rw [if_neg (not_not_intro hc8n)]); (try first | rw [if_pos hc15n] | rw [if_neg hc15n] | rw [if_neg (not_not_intro hc15n)]); (try first | rw [if_pos hc22n] | rw [if_neg hc22n] | rw [if_neg (not_not_intro hc22n)]); (try first | rw [if_pos hc29n] | rw [if_neg hc29n] | rw [if_neg (not_not_intro hc29n)]); (try first | rw [if_pos hc36] | rw [if_neg hc36] | rw [if_neg (not_not_intro hc36)]); (try first | rw [if_pos hc37] | rw [if_neg hc37] | rw [if_neg (not_not_intro hc37)]); (try first | rw [if_pos hc38] | rw [if_neg hc38] | rw [if_neg (not_not_intro hc38)]); first | exact (bI_t (by assumption)).symm | exact (bI_f (by assumption)).symm | exact (bI_f (Int32.not_lt.mpr (by assumption))).symm | exact (bI_t (Int32.not_le.mp (by assumption))).symm) rfl rfl
      · refine g_iconst (v := 1) hX (dk DX3_passes_0 44 rfl) (by decide) ?_
        refine g_goto (tgt := 172) hX (dk DX3_passes_0 45 rfl) (by decide) ?_
        refine g_ireturn hX (dk DX3_passes_0 47 rfl) rfl (by decide) (by decide) (by decide) ?_
        exact rI_of (by unfold psC factC; (try first | rw [if_pos hc1n] | rw [if_neg hc1n] | rw [if_neg (not_not_intro hc1n)]); (try first | rw [if_pos hc8n] | rw [if_neg hc8n] | rw [if_neg (not_not_intro hc8n)]); (try first | rw [if_pos hc15n] | rw [if_neg hc15n] | rw [if_neg (not_not_intro hc15n)]); (try first | rw [if_pos hc22n] | rw [if_neg hc22n] | rw [if_neg (not_not_intro hc22n)]); (try first | rw [if_pos hc29n] | rw [if_neg hc29n] | rw [if_neg (not_not_intro hc29n)]); (try first | rw [if_pos hc36] | rw [if_neg hc36] | rw [if_neg (not_not_intro hc36)]); (try first | rw [if_pos hc37] | rw [if_neg hc37] | rw [if_neg (not_not_intro hc37)]); (try first | rw [if_pos hc38] | rw [if_neg hc38] | rw [if_neg (not_not_intro hc38)]); first | exact (bI_t (by assumption)).symm | exact (bI_f (by assumption)).symm | exact (bI_f (Int32.not_lt.mpr (by assumption))).symm | exact (bI_t (Int32.not_le.mp (by assumption))).symm) rfl rfl
    refine ⟨fun hc39 => ?_, fun hc39n => ?_⟩
    · show GG _ _ _ _ _ _ _ _ _ _ _ _ _
      refine g_iload_4 hX (dk DX3_passes_0 48 rfl) ?_
      refine g_iload_5 hX (dk DX3_passes_0 49 rfl) ?_
      refine g_icmp_ne (tgt := 184) hX (dk DX3_passes_0 50 rfl) (by decide) (fun hc40 => ?_) (fun hc40 => ?_)
      · refine g_iconst (v := 0) hX (dk DX3_passes_0 53 rfl) (by decide) ?_
        refine g_ireturn hX (dk DX3_passes_0 54 rfl) rfl (by decide) (by decide) (by decide) ?_
        exact rI_of (by unfold psC factC; (try first | rw [if_pos hc1n] | rw [if_neg hc1n] | rw [if_neg (not_not_intro hc1n)]); (try first | rw [if_pos hc8n] | rw [if_neg hc8n] | rw [if_neg (not_not_intro hc8n)]); (try first | rw [if_pos hc15n] | rw [if_neg hc15n] | rw [if_neg (not_not_intro hc15n)]); (try first | rw [if_pos hc22n] | rw [if_neg hc22n] | rw [if_neg (not_not_intro hc22n)]); (try first | rw [if_pos hc29n] | rw [if_neg hc29n] | rw [if_neg (not_not_intro hc29n)]); (try first | rw [if_pos hc36] | rw [if_neg hc36] | rw [if_neg (not_not_intro hc36)]); (try first | rw [if_pos hc37n] | rw [if_neg hc37n] | rw [if_neg (not_not_intro hc37n)]); (try first | rw [if_pos hc39] | rw [if_neg hc39] | rw [if_neg (not_not_intro hc39)]); (try first | rw [if_pos hc40] | rw [if_neg hc40] | rw [if_neg (not_not_intro hc40)]); first | exact (bI_t (by assumption)).symm | exact (bI_f (by assumption)).symm | exact (bI_f (Int32.not_lt.mpr (by assumption))).symm | exact (bI_t (Int32.not_le.mp (by assumption))).symm) rfl rfl
      · refine g_iconst (v := 1) hX (dk DX3_passes_0 51 rfl) (by decide) ?_
        refine g_goto (tgt := 185) hX (dk DX3_passes_0 52 rfl) (by decide) ?_
        refine g_ireturn hX (dk DX3_passes_0 54 rfl) rfl (by decide) (by decide) (by decide) ?_
        exact rI_of (by unfold psC factC; (try first | rw [if_pos hc1n] | rw [if_neg hc1n] | rw [if_neg (not_not_intro hc1n)]); (try first | rw [if_pos hc8n] | rw [if_neg hc8n] | rw [if_neg (not_not_intro hc8n)]); (try first | rw [if_pos hc15n] | rw [if_neg hc15n] | rw [if_neg (not_not_intro hc15n)]); (try first | rw [if_pos hc22n] | rw [if_neg hc22n] | rw [if_neg (not_not_intro hc22n)]); (try first | rw [if_pos hc29n] | rw [if_neg hc29n] | rw [if_neg (not_not_intro hc29n)]); (try first | rw [if_pos hc36] | rw [if_neg hc36] | rw [if_neg (not_not_intro hc36)]); (try first | rw [if_pos hc37n] | rw [if_neg hc37n] | rw [if_neg (not_not_intro hc37n)]); (try first | rw [if_pos hc39] | rw [if_neg hc39] | rw [if_neg (not_not_intro hc39)]); (try first | rw [if_pos hc40] | rw [if_neg hc40] | rw [if_neg (not_not_intro hc40)]); first | exact (bI_t (by assumption)).symm | exact (bI_f (by assumption)).symm | exact (bI_f (Int32.not_lt.mpr (by assumption))).symm | exact (bI_t (Int32.not_le.mp (by assumption))).symm) rfl rfl
    show GG _ _ _ _ _ _ _ _ _ _ _ _ _
    refine g_iload_4 hX (dk DX3_passes_0 55 rfl) ?_
    refine g_iload_5 hX (dk DX3_passes_0 56 rfl) ?_
    refine g_icmp_le (tgt := 197) hX (dk DX3_passes_0 57 rfl) (by decide) (fun hc42 => ?_) (fun hc42 => ?_)
    · refine g_iconst (v := 0) hX (dk DX3_passes_1 0 rfl) (by decide) ?_
      refine g_ireturn hX (dk DX3_passes_1 1 rfl) rfl (by decide) (by decide) (by decide) ?_
      exact rI_of (by unfold psC factC; (try first | rw [if_pos hc1n] | rw [if_neg hc1n] | rw [if_neg (not_not_intro hc1n)]); (try first | rw [if_pos hc8n] | rw [if_neg hc8n] | rw [if_neg (not_not_intro hc8n)]); (try first | rw [if_pos hc15n] | rw [if_neg hc15n] | rw [if_neg (not_not_intro hc15n)]); (try first | rw [if_pos hc22n] | rw [if_neg hc22n] | rw [if_neg (not_not_intro hc22n)]); (try first | rw [if_pos hc29n] | rw [if_neg hc29n] | rw [if_neg (not_not_intro hc29n)]); (try first | rw [if_pos hc36] | rw [if_neg hc36] | rw [if_neg (not_not_intro hc36)]); (try first | rw [if_pos hc37n] | rw [if_neg hc37n] | rw [if_neg (not_not_intro hc37n)]); (try first | rw [if_pos hc39n] | rw [if_neg hc39n] | rw [if_neg (not_not_intro hc39n)]); (try first | rw [if_pos hc42] | rw [if_neg hc42] | rw [if_neg (not_not_intro hc42)]); first | exact (bI_t (by assumption)).symm | exact (bI_f (by assumption)).symm | exact (bI_f (Int32.not_lt.mpr (by assumption))).symm | exact (bI_t (Int32.not_le.mp (by assumption))).symm) rfl rfl
    · refine g_iconst (v := 1) hX (dk DX3_passes_0 58 rfl) (by decide) ?_
      refine g_goto (tgt := 198) hX (dk DX3_passes_0 59 rfl) (by decide) ?_
      refine g_ireturn hX (dk DX3_passes_1 1 rfl) rfl (by decide) (by decide) (by decide) ?_
      exact rI_of (by unfold psC factC; (try first | rw [if_pos hc1n] | rw [if_neg hc1n] | rw [if_neg (not_not_intro hc1n)]); (try first | rw [if_pos hc8n] | rw [if_neg hc8n] | rw [if_neg (not_not_intro hc8n)]); (try first | rw [if_pos hc15n] | rw [if_neg hc15n] | rw [if_neg (not_not_intro hc15n)]); (try first | rw [if_pos hc22n] | rw [if_neg hc22n] | rw [if_neg (not_not_intro hc22n)]); (try first | rw [if_pos hc29n] | rw [if_neg hc29n] | rw [if_neg (not_not_intro hc29n)]); (try first | rw [if_pos hc36] | rw [if_neg hc36] | rw [if_neg (not_not_intro hc36)]); (try first | rw [if_pos hc37n] | rw [if_neg hc37n] | rw [if_neg (not_not_intro hc37n)]); (try first | rw [if_pos hc39n] | rw [if_neg hc39n] | rw [if_neg (not_not_intro hc39n)]); (try first | rw [if_pos hc42] | rw [if_neg hc42] | rw [if_neg (not_not_intro hc42)]); first | exact (bI_t (by assumption)).symm | exact (bI_f (by assumption)).symm | exact (bI_f (Int32.not_lt.mpr (by assumption))).symm | exact (bI_t (Int32.not_le.mp (by assumption))).symm) rfl rfl
  show GG _ _ _ _ _ _ _ _ _ _ _ _ _
  refine g_iload_3 hX (dk DX3_passes_0 33 rfl) ?_
  refine g_istore_4 hX (dk DX3_passes_0 34 rfl) (by decide) rfl ?_
  refine g_iload_0 hX (dk DX3_passes_0 35 rfl) ?_
  refine g_bipush (v := 8) hX (dk DX3_passes_0 36 rfl) (by decide) ?_
  refine g_ishr hX (dk DX3_passes_0 37 rfl) ?_
  refine g_sipush (v := 255) hX (dk DX3_passes_0 38 rfl) (by decide) ?_
  refine g_iand hX (dk DX3_passes_0 39 rfl) ?_
  refine g_lswitch (dt := 186) hX [(60, 160), (61, 173)] (dk DX3_passes_0 40 rfl) (by decide +kernel) (by decide +kernel) ?_
  refine ⟨fun hc44 => ?_, fun hc44n => ?_⟩
  · show GG _ _ _ _ _ _ _ _ _ _ _ _ _
    refine g_iload_4 hX (dk DX3_passes_0 41 rfl) ?_
    refine g_iload_5 hX (dk DX3_passes_0 42 rfl) ?_
    refine g_icmp_ge (tgt := 171) hX (dk DX3_passes_0 43 rfl) (by decide) (fun hc45 => ?_) (fun hc45 => ?_)
    · refine g_iconst (v := 0) hX (dk DX3_passes_0 46 rfl) (by decide) ?_
      refine g_ireturn hX (dk DX3_passes_0 47 rfl) rfl (by decide) (by decide) (by decide) ?_
      exact rI_of (by unfold psC factC; (try first | rw [if_pos hc1n] | rw [if_neg hc1n] | rw [if_neg (not_not_intro hc1n)]); (try first | rw [if_pos hc8n] | rw [if_neg hc8n] | rw [if_neg (not_not_intro hc8n)]); (try first | rw [if_pos hc15n] | rw [if_neg hc15n] | rw [if_neg (not_not_intro hc15n)]); (try first | rw [if_pos hc22n] | rw [if_neg hc22n] | rw [if_neg (not_not_intro hc22n)]); (try first | rw [if_pos hc29n] | rw [if_neg hc29n] | rw [if_neg (not_not_intro hc29n)]); (try first | rw [if_pos hc36n] | rw [if_neg hc36n] | rw [if_neg (not_not_intro hc36n)]); (try first | rw [if_pos hc44] | rw [if_neg hc44] | rw [if_neg (not_not_intro hc44)]); (try first | rw [if_pos hc45] | rw [if_neg hc45] | rw [if_neg (not_not_intro hc45)]); first | exact (bI_t (by assumption)).symm | exact (bI_f (by assumption)).symm | exact (bI_f (Int32.not_lt.mpr (by assumption))).symm | exact (bI_t (Int32.not_le.mp (by assumption))).symm) rfl rfl
    · refine g_iconst (v := 1) hX (dk DX3_passes_0 44 rfl) (by decide) ?_
      refine g_goto (tgt := 172) hX (dk DX3_passes_0 45 rfl) (by decide) ?_
      refine g_ireturn hX (dk DX3_passes_0 47 rfl) rfl (by decide) (by decide) (by decide) ?_
      exact rI_of (by unfold psC factC; (try first | rw [if_pos hc1n] | rw [if_neg hc1n] | rw [if_neg (not_not_intro hc1n)]); (try first | rw [if_pos hc8n] | rw [if_neg hc8n] | rw [if_neg (not_not_intro hc8n)]); (try first | rw [if_pos hc15n] | rw [if_neg hc15n] | rw [if_neg (not_not_intro hc15n)]); (try first | rw [if_pos hc22n] | rw [if_neg hc22n] | rw [if_neg (not_not_intro hc22n)]); (try first | rw [if_pos hc29n] | rw [if_neg hc29n] | rw [if_neg (not_not_intro hc29n)]); (try first | rw [if_pos hc36n] | rw [if_neg hc36n] | rw [if_neg (not_not_intro hc36n)]); (try first | rw [if_pos hc44] | rw [if_neg hc44] | rw [if_neg (not_not_intro hc44)]); (try first | rw [if_pos hc45] | rw [if_neg hc45] | rw [if_neg (not_not_intro hc45)]); first | exact (bI_t (by assumption)).symm | exact (bI_f (by assumption)).symm | exact (bI_f (Int32.not_lt.mpr (by assumption))).symm | exact (bI_t (Int32.not_le.mp (by assumption))).symm) rfl rfl
  refine ⟨fun hc46 => ?_, fun hc46n => ?_⟩
  · show GG _ _ _ _ _ _ _ _ _ _ _ _ _
    refine g_iload_4 hX (dk DX3_passes_0 48 rfl) ?_
    refine g_iload_5 hX (dk DX3_passes_0 49 rfl) ?_
    refine g_icmp_ne (tgt := 184) hX (dk DX3_passes_0 50 rfl) (by decide) (fun hc47 => ?_) (fun hc47 => ?_)
    · refine g_iconst (v := 0) hX (dk DX3_passes_0 53 rfl) (by decide) ?_
      refine g_ireturn hX (dk DX3_passes_0 54 rfl) rfl (by decide) (by decide) (by decide) ?_
      exact rI_of (by unfold psC factC; (try first | rw [if_pos hc1n] | rw [if_neg hc1n] | rw [if_neg (not_not_intro hc1n)]); (try first | rw [if_pos hc8n] | rw [if_neg hc8n] | rw [if_neg (not_not_intro hc8n)]); (try first | rw [if_pos hc15n] | rw [if_neg hc15n] | rw [if_neg (not_not_intro hc15n)]); (try first | rw [if_pos hc22n] | rw [if_neg hc22n] | rw [if_neg (not_not_intro hc22n)]); (try first | rw [if_pos hc29n] | rw [if_neg hc29n] | rw [if_neg (not_not_intro hc29n)]); (try first | rw [if_pos hc36n] | rw [if_neg hc36n] | rw [if_neg (not_not_intro hc36n)]); (try first | rw [if_pos hc44n] | rw [if_neg hc44n] | rw [if_neg (not_not_intro hc44n)]); (try first | rw [if_pos hc46] | rw [if_neg hc46] | rw [if_neg (not_not_intro hc46)]); (try first | rw [if_pos hc47] | rw [if_neg hc47] | rw [if_neg (not_not_intro hc47)]); first | exact (bI_t (by assumption)).symm | exact (bI_f (by assumption)).symm | exact (bI_f (Int32.not_lt.mpr (by assumption))).symm | exact (bI_t (Int32.not_le.mp (by assumption))).symm) rfl rfl
    · refine g_iconst (v := 1) hX (dk DX3_passes_0 51 rfl) (by decide) ?_
      refine g_goto (tgt := 185) hX (dk DX3_passes_0 52 rfl) (by decide) ?_
      refine g_ireturn hX (dk DX3_passes_0 54 rfl) rfl (by decide) (by decide) (by decide) ?_
      exact rI_of (by unfold psC factC; (try first | rw [if_pos hc1n] | rw [if_neg hc1n] | rw [if_neg (not_not_intro hc1n)]); (try first | rw [if_pos hc8n] | rw [if_neg hc8n] | rw [if_neg (not_not_intro hc8n)]); (try first | rw [if_pos hc15n] | rw [if_neg hc15n] | rw [if_neg (not_not_intro hc15n)]); (try first | rw [if_pos hc22n] | rw [if_neg hc22n] | rw [if_neg (not_not_intro hc22n)]); (try first | rw [if_pos hc29n] | rw [if_neg hc29n] | rw [if_neg (not_not_intro hc29n)]); (try first | rw [if_pos hc36n] | rw [if_neg hc36n] | rw [if_neg (not_not_intro hc36n)]); (try first | rw [if_pos hc44n] | rw [if_neg hc44n] | rw [if_neg (not_not_intro hc44n)]); (try first | rw [if_pos hc46] | rw [if_neg hc46] | rw [if_neg (not_not_intro hc46)]); (try first | rw [if_pos hc47] | rw [if_neg hc47] | rw [if_neg (not_not_intro hc47)]); first | exact (bI_t (by assumption)).symm | exact (bI_f (by assumption)).symm | exact (bI_f (Int32.not_lt.mpr (by assumption))).symm | exact (bI_t (Int32.not_le.mp (by assumption))).symm) rfl rfl
  show GG _ _ _ _ _ _ _ _ _ _ _ _ _
  refine g_iload_4 hX (dk DX3_passes_0 55 rfl) ?_
  refine g_iload_5 hX (dk DX3_passes_0 56 rfl) ?_
  refine g_icmp_le (tgt := 197) hX (dk DX3_passes_0 57 rfl) (by decide) (fun hc49 => ?_) (fun hc49 => ?_)
  · refine g_iconst (v := 0) hX (dk DX3_passes_1 0 rfl) (by decide) ?_
    refine g_ireturn hX (dk DX3_passes_1 1 rfl) rfl (by decide) (by decide) (by decide) ?_
    exact rI_of (by unfold psC factC; (try first | rw [if_pos hc1n] | rw [if_neg hc1n] | rw [if_neg (not_not_intro hc1n)]); (try first | rw [if_pos hc8n] | rw [if_neg hc8n] | rw [if_neg (not_not_intro hc8n)]); (try first | rw [if_pos hc15n] | rw [if_neg hc15n] | rw [if_neg (not_not_intro hc15n)]); (try first | rw [if_pos hc22n] | rw [if_neg hc22n] | rw [if_neg (not_not_intro hc22n)]); (try first | rw [if_pos hc29n] | rw [if_neg hc29n] | rw [if_neg (not_not_intro hc29n)]); (try first | rw [if_pos hc36n] | rw [if_neg hc36n] | rw [if_neg (not_not_intro hc36n)]); (try first | rw [if_pos hc44n] | rw [if_neg hc44n] | rw [if_neg (not_not_intro hc44n)]); (try first | rw [if_pos hc46n] | rw [if_neg hc46n] | rw [if_neg (not_not_intro hc46n)]); (try first | rw [if_pos hc49] | rw [if_neg hc49] | rw [if_neg (not_not_intro hc49)]); first | exact (bI_t (by assumption)).symm | exact (bI_f (by assumption)).symm | exact (bI_f (Int32.not_lt.mpr (by assumption))).symm | exact (bI_t (Int32.not_le.mp (by assumption))).symm) rfl rfl
  · refine g_iconst (v := 1) hX (dk DX3_passes_0 58 rfl) (by decide) ?_
    refine g_goto (tgt := 198) hX (dk DX3_passes_0 59 rfl) (by decide) ?_
    refine g_ireturn hX (dk DX3_passes_1 1 rfl) rfl (by decide) (by decide) (by decide) ?_
    exact rI_of (by unfold psC factC; (try first | rw [if_pos hc1n] | rw [if_neg hc1n] | rw [if_neg (not_not_intro hc1n)]); (try first | rw [if_pos hc8n] | rw [if_neg hc8n] | rw [if_neg (not_not_intro hc8n)]); (try first | rw [if_pos hc15n] | rw [if_neg hc15n] | rw [if_neg (not_not_intro hc15n)]); (try first | rw [if_pos hc22n] | rw [if_neg hc22n] | rw [if_neg (not_not_intro hc22n)]); (try first | rw [if_pos hc29n] | rw [if_neg hc29n] | rw [if_neg (not_not_intro hc29n)]); (try first | rw [if_pos hc36n] | rw [if_neg hc36n] | rw [if_neg (not_not_intro hc36n)]); (try first | rw [if_pos hc44n] | rw [if_neg hc44n] | rw [if_neg (not_not_intro hc44n)]); (try first | rw [if_pos hc46n] | rw [if_neg hc46n] | rw [if_neg (not_not_intro hc46n)]); (try first | rw [if_pos hc49] | rw [if_neg hc49] | rw [if_neg (not_not_intro hc49)]); first | exact (bI_t (by assumption)).symm | exact (bI_f (by assumption)).symm | exact (bI_f (Int32.not_lt.mpr (by assumption))).symm | exact (bI_t (Int32.not_le.mp (by assumption))).symm) rfl rfl

set_option maxRecDepth 8000 in
set_option maxHeartbeats 4000000 in
theorem c_X3_holds {G : Gt} (hG : Gok G) {I : It} {h : Ht}  (hH : HX h) (hPO : PO I h) {p c0 q : Nat} {y w : Int32} (hp : p < 6) (hc0 : c0 < 10) (hq : q < hn h) (hdc : isDC (hs h q).1) : Con G 3 0 0 mX3_holds [.ref (43 + 5 * p), .int (nI c0), .ref q, .int y, .int w] I h (rI (bI (hoC I h p c0 q y w)) I h) := by
  refine con_intro (own := RX3) (lo0 := [some (.ref (43 + 5 * p)), some (.int (nI c0)), some (.ref q), some (.int y), some (.int w), none, none, none]) hG rfl pl_X3 (Nat.le_of_ble_eq_true rfl) rfl (fun X hX => ?_)
  have hee := eE_eq hPO hp hc0
  have loop21 : ∀ (k c : Nat) (bt : Int32), k = eE I p c0 - c → c ≤ 100 → hbR I h p q y w k c bt = hbR I h p q y w (eE I p c0 - eB I p c0) (eB I p c0) 0 → GG G 3 0 0 X (rI (bI (hoC I h p c0 q y w)) I h) 21 [some (.ref (43 + 5 * p)), some (.int (nI c0)), some (.ref q), some (.int y), some (.int w), some (.int bt), some (.int (nI c)), none] [] (I) (h) 0 0 := by
    intro k
    induction k using Nat.strongRecOn with | _ k ih => ?_
    intro c bt hk hc hv
    refine g_iload_6 hX (dk DX3_holds_0 13 rfl) ?_
    refine g_aload_0 hX (dk DX3_holds_0 14 rfl) ?_
    refine g_getRs (r := (46 + 5 * p)) hX (dk DX3_holds_0 15 rfl) KX3 fX3_18 (by decide) rfl (PL0 hH hp) (PSh hH hp) (PR5 hH hp) ?_
    refine g_iload_1 hX (dk DX3_holds_0 16 rfl) ?_
    refine v_iaload hX (dk DX3_holds_0 17 rfl) (PLt hH (j := 3) hp (by decide)) (PA6 hH hp) (⟨rfl, hc0, by decide⟩) (hee.1) ?_
    refine g_icmp_ge (tgt := 130) hX (dk DX3_holds_0 18 rfl) (by decide) (fun hc1 => ?_) (fun hc1 => ?_)
    · refine g_iload_5 hX (dk DX3_holds_1 12 rfl) ?_
      refine g_iconst (v := 1) hX (dk DX3_holds_1 13 rfl) (by decide) ?_
      refine g_iand hX (dk DX3_holds_1 14 rfl) ?_
      refine g_if_eq (tgt := 141) hX (dk DX3_holds_1 15 rfl) (by decide) (fun hc2 => ?_) (fun hc2 => ?_)
      · refine g_iconst (v := 0) hX (dk DX3_holds_1 18 rfl) (by decide) ?_
        refine g_ireturn hX (dk DX3_holds_1 19 rfl) rfl (by decide) (by decide) (by decide) ?_
        have hk0 : k = 0 := by have := (nI_leI (by omega) (by omega)).mp hc1; omega
        subst hk0
        first
        | exact rI_of (bI_t (by unfold hoC; rw [← hv]; assumption)).symm rfl rfl
        | exact rI_of (bI_f (by unfold hoC; rw [← hv]; exact not_not_intro (by assumption))).symm rfl rfl
      · refine g_iconst (v := 1) hX (dk DX3_holds_1 16 rfl) (by decide) ?_
        refine g_goto (tgt := 142) hX (dk DX3_holds_1 17 rfl) (by decide) ?_
        refine g_ireturn hX (dk DX3_holds_1 19 rfl) rfl (by decide) (by decide) (by decide) ?_
        have hk0 : k = 0 := by have := (nI_leI (by omega) (by omega)).mp hc1; omega
        subst hk0
        first
        | exact rI_of (bI_t (by unfold hoC; rw [← hv]; assumption)).symm rfl rfl
        | exact rI_of (bI_f (by unfold hoC; rw [← hv]; exact not_not_intro (by assumption))).symm rfl rfl
    · have hlt : c < eE I p c0 := by
        rcases Nat.lt_or_ge c (eE I p c0) with z | z
        · exact z
        · exact absurd (nI_le z (by omega)) hc1
      obtain ⟨k, rfl⟩ : ∃ z, k = z + 1 := ⟨k - 1, by omega⟩
      refine g_aload_0 hX (dk DX3_holds_0 19 rfl) ?_
      refine g_getRs (r := (47 + 5 * p)) hX (dk DX3_holds_0 20 rfl) KX3 fX3_21 (by decide) rfl (PL0 hH hp) (PSh hH hp) (PR6 hH hp) ?_
      refine g_iload_6 hX (dk DX3_holds_0 21 rfl) ?_
      refine i_iaload hX (dk DX3_holds_0 22 rfl) (PLt hH (j := 4) hp (by decide)) (PA7 hH hp) (⟨rfl, by omega, by decide⟩) ?_
      refine g_istore_7 hX (dk DX3_holds_0 23 rfl) (by decide) rfl ?_
      refine g_iload_7 hX (dk DX3_holds_0 24 rfl) ?_
      refine g_bipush (v := 33) hX (dk DX3_holds_0 25 rfl) (by decide) ?_
      refine g_icmp_ne (tgt := 57) hX (dk DX3_holds_0 26 rfl) (by decide) (fun hc3 => ?_) (fun hc3 => ?_)
      · refine g_iload_7 hX (dk DX3_holds_0 32 rfl) ?_
        refine g_bipush (v := 38) hX (dk DX3_holds_0 33 rfl) (by decide) ?_
        refine g_icmp_ne (tgt := 79) hX (dk DX3_holds_0 34 rfl) (by decide) (fun hc4 => ?_) (fun hc4 => ?_)
        · refine g_iload_7 hX (dk DX3_holds_0 44 rfl) ?_
          refine g_bipush (v := 124) hX (dk DX3_holds_0 45 rfl) (by decide) ?_
          refine g_icmp_ne (tgt := 100) hX (dk DX3_holds_0 46 rfl) (by decide) (fun hc5 => ?_) (fun hc5 => ?_)
          · refine g_iload_5 hX (dk DX3_holds_0 56 rfl) ?_
            refine g_iconst (v := 1) hX (dk DX3_holds_0 57 rfl) (by decide) ?_
            refine g_ishl hX (dk DX3_holds_0 58 rfl) ?_
            refine g_iload_7 hX (dk DX3_holds_0 59 rfl) ?_
            refine g_aload_2 hX (dk DX3_holds_1 0 rfl) ?_
            refine g_iload_3 hX (dk DX3_holds_1 1 rfl) ?_
            refine g_iload_4 hX (dk DX3_holds_1 2 rfl) ?_
            refine g_c4I hX sX3_holds_110 (by decide) (Nat.le_of_ble_eq_true rfl) rcN (by decide) (by decide) (c_X3_passes hG hq hdc) ?_
            refine g_if_eq (tgt := 120) hX (dk DX3_holds_1 4 rfl) (by decide) (fun hc6 => ?_) (fun hc6 => ?_)
            · have hps := hc6
              refine g_iconst (v := 0) hX (dk DX3_holds_1 7 rfl) (by decide) ?_
              refine g_ior hX (dk DX3_holds_1 8 rfl) ?_
              refine g_istore_5 hX (dk DX3_holds_1 9 rfl) (by decide) rfl ?_
              refine g_iinc_6 hX (dk DX3_holds_1 10 rfl) (nI_1 c) (by decide) rfl ?_
              refine g_goto (tgt := 21) hX (dk DX3_holds_1 11 rfl) (by decide) ?_
              exact g_fgt (ih k (by omega) (c + 1) _ (by omega) (by omega) (by rw [← hv, hbR_s]; unfold stC; (try first | rw [if_pos hc1] | rw [if_neg hc1] | rw [if_neg (not_not_intro hc1)]); (try first | rw [if_pos hc3] | rw [if_neg hc3] | rw [if_neg (not_not_intro hc3)]); (try first | rw [if_pos hc4] | rw [if_neg hc4] | rw [if_neg (not_not_intro hc4)]); (try first | rw [if_pos hc5] | rw [if_neg hc5] | rw [if_neg (not_not_intro hc5)]); (try first | rw [if_pos hc6] | rw [if_neg hc6] | rw [if_neg (not_not_intro hc6)]); first | done | rfl | rw [hps])) ⟨rfl, rfl, rfl, rfl, rfl, rfl, rfl, trivial⟩
            · have hps := psC_1 hc6
              refine g_iconst (v := 1) hX (dk DX3_holds_1 5 rfl) (by decide) ?_
              refine g_goto (tgt := 121) hX (dk DX3_holds_1 6 rfl) (by decide) ?_
              refine g_ior hX (dk DX3_holds_1 8 rfl) ?_
              refine g_istore_5 hX (dk DX3_holds_1 9 rfl) (by decide) rfl ?_
              refine g_iinc_6 hX (dk DX3_holds_1 10 rfl) (nI_1 c) (by decide) rfl ?_
              refine g_goto (tgt := 21) hX (dk DX3_holds_1 11 rfl) (by decide) ?_
              exact g_fgt (ih k (by omega) (c + 1) _ (by omega) (by omega) (by rw [← hv, hbR_s]; unfold stC; (try first | rw [if_pos hc1] | rw [if_neg hc1] | rw [if_neg (not_not_intro hc1)]); (try first | rw [if_pos hc3] | rw [if_neg hc3] | rw [if_neg (not_not_intro hc3)]); (try first | rw [if_pos hc4] | rw [if_neg hc4] | rw [if_neg (not_not_intro hc4)]); (try first | rw [if_pos hc5] | rw [if_neg hc5] | rw [if_neg (not_not_intro hc5)]); (try first | rw [if_pos hc6] | rw [if_neg hc6] | rw [if_neg (not_not_intro hc6)]); first | done | rfl | rw [hps])) ⟨rfl, rfl, rfl, rfl, rfl, rfl, rfl, trivial⟩
          · refine g_iload_5 hX (dk DX3_holds_0 47 rfl) ?_
            refine g_iconst (v := 1) hX (dk DX3_holds_0 48 rfl) (by decide) ?_
            refine g_ishr hX (dk DX3_holds_0 49 rfl) ?_
            refine g_iload_5 hX (dk DX3_holds_0 50 rfl) ?_
            refine g_iconst (v := 1) hX (dk DX3_holds_0 51 rfl) (by decide) ?_
            refine g_iand hX (dk DX3_holds_0 52 rfl) ?_
            refine g_ior hX (dk DX3_holds_0 53 rfl) ?_
            refine g_istore_5 hX (dk DX3_holds_0 54 rfl) (by decide) rfl ?_
            refine g_goto (tgt := 124) hX (dk DX3_holds_0 55 rfl) (by decide) ?_
            refine g_iinc_6 hX (dk DX3_holds_1 10 rfl) (nI_1 c) (by decide) rfl ?_
            refine g_goto (tgt := 21) hX (dk DX3_holds_1 11 rfl) (by decide) ?_
            exact g_fgt (ih k (by omega) (c + 1) _ (by omega) (by omega) (by rw [← hv, hbR_s]; unfold stC; (try first | rw [if_pos hc1] | rw [if_neg hc1] | rw [if_neg (not_not_intro hc1)]); (try first | rw [if_pos hc3] | rw [if_neg hc3] | rw [if_neg (not_not_intro hc3)]); (try first | rw [if_pos hc4] | rw [if_neg hc4] | rw [if_neg (not_not_intro hc4)]); (try first | rw [if_pos hc5] | rw [if_neg hc5] | rw [if_neg (not_not_intro hc5)]); first | done | rfl | rw [hps])) ⟨rfl, rfl, rfl, rfl, rfl, rfl, rfl, trivial⟩
        · refine g_iload_5 hX (dk DX3_holds_0 35 rfl) ?_
          refine g_iconst (v := 1) hX (dk DX3_holds_0 36 rfl) (by decide) ?_
          refine g_ishr hX (dk DX3_holds_0 37 rfl) ?_
          refine g_iload_5 hX (dk DX3_holds_0 38 rfl) ?_
          refine g_bipush (v := -2) hX (dk DX3_holds_0 39 rfl) (by decide) ?_
          refine g_ior hX (dk DX3_holds_0 40 rfl) ?_
          refine g_iand hX (dk DX3_holds_0 41 rfl) ?_
          refine g_istore_5 hX (dk DX3_holds_0 42 rfl) (by decide) rfl ?_
          refine g_goto (tgt := 124) hX (dk DX3_holds_0 43 rfl) (by decide) ?_
          refine g_iinc_6 hX (dk DX3_holds_1 10 rfl) (nI_1 c) (by decide) rfl ?_
          refine g_goto (tgt := 21) hX (dk DX3_holds_1 11 rfl) (by decide) ?_
          exact g_fgt (ih k (by omega) (c + 1) _ (by omega) (by omega) (by rw [← hv, hbR_s]; unfold stC; (try first | rw [if_pos hc1] | rw [if_neg hc1] | rw [if_neg (not_not_intro hc1)]); (try first | rw [if_pos hc3] | rw [if_neg hc3] | rw [if_neg (not_not_intro hc3)]); (try first | rw [if_pos hc4] | rw [if_neg hc4] | rw [if_neg (not_not_intro hc4)]); first | done | rfl | rw [hps])) ⟨rfl, rfl, rfl, rfl, rfl, rfl, rfl, trivial⟩
      · refine g_iload_5 hX (dk DX3_holds_0 27 rfl) ?_
        refine g_iconst (v := 1) hX (dk DX3_holds_0 28 rfl) (by decide) ?_
        refine g_ixor hX (dk DX3_holds_0 29 rfl) ?_
        refine g_istore_5 hX (dk DX3_holds_0 30 rfl) (by decide) rfl ?_
        refine g_goto (tgt := 124) hX (dk DX3_holds_0 31 rfl) (by decide) ?_
        refine g_iinc_6 hX (dk DX3_holds_1 10 rfl) (nI_1 c) (by decide) rfl ?_
        refine g_goto (tgt := 21) hX (dk DX3_holds_1 11 rfl) (by decide) ?_
        exact g_fgt (ih k (by omega) (c + 1) _ (by omega) (by omega) (by rw [← hv, hbR_s]; unfold stC; (try first | rw [if_pos hc1] | rw [if_neg hc1] | rw [if_neg (not_not_intro hc1)]); (try first | rw [if_pos hc3] | rw [if_neg hc3] | rw [if_neg (not_not_intro hc3)]); first | done | rfl | rw [hps])) ⟨rfl, rfl, rfl, rfl, rfl, rfl, rfl, trivial⟩
  refine g_iconst (v := 0) hX (dk DX3_holds_0 0 rfl) (by decide) ?_
  refine g_istore_5 hX (dk DX3_holds_0 1 rfl) (by decide) rfl ?_
  refine g_iload_1 hX (dk DX3_holds_0 2 rfl) ?_
  refine g_if_ne (tgt := 11) hX (dk DX3_holds_0 3 rfl) (by decide) (fun hc1 => ?_) (fun hc1 => ?_)
  · refine g_aload_0 hX (dk DX3_holds_0 6 rfl) ?_
    refine g_getRs (r := (46 + 5 * p)) hX (dk DX3_holds_0 7 rfl) KX3 fX3_18 (by decide) rfl (PL0 hH hp) (PSh hH hp) (PR5 hH hp) ?_
    refine g_iload_1 hX (dk DX3_holds_0 8 rfl) ?_
    refine g_iconst (v := 1) hX (dk DX3_holds_0 9 rfl) (by decide) ?_
    refine g_isub hX (dk DX3_holds_0 10 rfl) ?_
    refine i_iaload hX (dk DX3_holds_0 11 rfl) (PLt hH (j := 3) hp (by decide)) (PA6 hH hp) (k_1 hc0 hc1) ?_
    refine g_nmI (nI (eB I p c0)) (by first | exact eB_z hc0 (by assumption) | exact eB_z hc0 (Decidable.not_not.mp (by assumption)) | exact eB_n hPO hp hc0 (by assumption)) ?_
    refine g_istore_6 hX (dk DX3_holds_0 12 rfl) (by decide) rfl ?_
    exact g_fgt (loop21 _ (eB I p c0) 0 rfl (eB_le hPO hp hc0) rfl) ⟨rfl, rfl, rfl, rfl, rfl, rfl, rfl, trivial⟩
  · refine g_iconst (v := 0) hX (dk DX3_holds_0 4 rfl) (by decide) ?_
    refine g_goto (tgt := 19) hX (dk DX3_holds_0 5 rfl) (by decide) ?_
    refine g_nmI (nI (eB I p c0)) (by first | exact eB_z hc0 (by assumption) | exact eB_z hc0 (Decidable.not_not.mp (by assumption)) | exact eB_n hPO hp hc0 (by assumption)) ?_
    refine g_istore_6 hX (dk DX3_holds_0 12 rfl) (by decide) rfl ?_
    exact g_fgt (loop21 _ (eB I p c0) 0 rfl (eB_le hPO hp hc0) rfl) ⟨rfl, rfl, rfl, rfl, rfl, rfl, rfl, trivial⟩

set_option maxRecDepth 8000 in
set_option maxHeartbeats 4000000 in
theorem c_X3_together {G : Gt} (hG : Gok G) {I : It} {h : Ht}  (hH : HX h) (hPO : PO I h) {p q : Nat} {wd y w : Int32} (hp : p < 6) (hq : q < hn h) (hdc : isDC (hs h q).1) : Con G 4 0 0 mX3_together [.ref (43 + 5 * p), .int wd, .ref q, .int y, .int w] I h (rI (tgR I h p wd q y w (tN (I (43 + 5 * p) 2)) 0 0) I h) := by
  refine con_intro (own := RX3) (lo0 := [some (.ref (43 + 5 * p)), some (.int wd), some (.ref q), some (.int y), some (.int w), none, none]) hG rfl pl_X3 (Nat.le_of_ble_eq_true rfl) rfl (fun X hX => ?_)
  obtain ⟨cl, hcl, ecl⟩ := (hPO.2 p hp).1
  rw [ecl, tN_nI (by omega)]
  have loop6 : ∀ (k c : Nat) (z : Int32), c + k = cl → tgR I h p wd q y w k c z = tgR I h p wd q y w cl 0 0 → GG G 4 0 0 X (rI (tgR I h p wd q y w (tN (I (43 + 5 * p) 2)) 0 0) I h) 6 [some (.ref (43 + 5 * p)), some (.int wd), some (.ref q), some (.int y), some (.int w), some (.int z), some (.int (nI c))] [] (I) (h) 0 0 := by
    intro k
    induction k using Nat.strongRecOn with | _ k ih => ?_
    intro c z hk hv
    refine g_iload_6 hX (dk DX3_together 4 rfl) ?_
    refine g_aload_0 hX (dk DX3_together 5 rfl) ?_
    refine g_getIv hX (dk DX3_together 6 rfl) KX3 fX3_45 (by decide) rfl (PL0 hH hp) (PSh hH hp) (ecl) ?_
    refine g_icmp_ge (tgt := 57) hX (dk DX3_together 7 rfl) (by decide) (fun hc1 => ?_) (fun hc1 => ?_)
    · refine g_iload_5 hX (dk DX3_together 30 rfl) ?_
      refine g_ireturn hX (dk DX3_together 31 rfl) rfl (rfl) (by decide) (by decide) ?_
      have hk0 := cl_end hk (by omega) hc1
      subst hk0
      exact rI_of hv rfl rfl
    · obtain ⟨k, rfl⟩ := cl_go hk (by omega) hc1
      refine g_aload_0 hX (dk DX3_together 8 rfl) ?_
      refine g_getRs (r := (44 + 5 * p)) hX (dk DX3_together 9 rfl) KX3 fX3_11 (by decide) rfl (PL0 hH hp) (PSh hH hp) (PR3 hH hp) ?_
      refine g_iload_6 hX (dk DX3_together 10 rfl) ?_
      refine i_iaload hX (dk DX3_together 11 rfl) (PLt hH (j := 1) hp (by decide)) (PA4 hH hp) (⟨rfl, by omega, by decide⟩) ?_
      refine g_iload_1 hX (dk DX3_together 12 rfl) ?_
      refine g_icmp_ne (tgt := 51) hX (dk DX3_together 13 rfl) (by decide) (fun hc2 => ?_) (fun hc2 => ?_)
      · refine g_iinc_6 hX (dk DX3_together 28 rfl) (nI_1 c) (by decide) rfl ?_
        refine g_goto (tgt := 6) hX (dk DX3_together 29 rfl) (by decide) ?_
        exact g_fgt (ih k (by omega) (c + 1) _ (by omega) (by rw [← hv, tgR_s]; first | rw [if_pos ⟨hA, hB⟩] | rw [if_neg (fun z => by first | exact absurd z.1 (by assumption) | exact absurd z.2 (by assumption))])) ⟨rfl, rfl, rfl, rfl, rfl, rfl, rfl, trivial⟩
      · have hA := hc2
        refine g_aload_0 hX (dk DX3_together 14 rfl) ?_
        refine g_iload_6 hX (dk DX3_together 15 rfl) ?_
        refine g_aload_2 hX (dk DX3_together 16 rfl) ?_
        refine g_iload_3 hX (dk DX3_together 17 rfl) ?_
        refine g_iload_4 hX (dk DX3_together 18 rfl) ?_
        refine g_c5I hX sX3_together_33 (by decide) (Nat.le_of_ble_eq_true rfl) (rc0 rfl (PL0 hH hp) (PSh hH hp)) (by decide) (by decide) (c_X3_holds hG hH hPO hp (by omega) hq hdc) ?_
        refine g_ifb_eq (tgt := 51) hX (dk DX3_together 20 rfl) (by decide) (fun hc3 => ?_) (fun hc3 => ?_)
        · refine g_iinc_6 hX (dk DX3_together 28 rfl) (nI_1 c) (by decide) rfl ?_
          refine g_goto (tgt := 6) hX (dk DX3_together 29 rfl) (by decide) ?_
          exact g_fgt (ih k (by omega) (c + 1) _ (by omega) (by rw [← hv, tgR_s]; first | rw [if_pos ⟨hA, hB⟩] | rw [if_neg (fun z => by first | exact absurd z.1 (by assumption) | exact absurd z.2 (by assumption))])) ⟨rfl, rfl, rfl, rfl, rfl, rfl, rfl, trivial⟩
        · have hB := hc3
          refine g_iload_5 hX (dk DX3_together 21 rfl) ?_
          refine g_aload_0 hX (dk DX3_together 22 rfl) ?_
          refine g_getRs (r := (45 + 5 * p)) hX (dk DX3_together 23 rfl) KX3 fX3_15 (by decide) rfl (PL0 hH hp) (PSh hH hp) (PR4 hH hp) ?_
          refine g_iload_6 hX (dk DX3_together 24 rfl) ?_
          refine i_iaload hX (dk DX3_together 25 rfl) (PLt hH (j := 2) hp (by decide)) (PA5 hH hp) (⟨rfl, by omega, by decide⟩) ?_
          refine g_iadd hX (dk DX3_together 26 rfl) ?_
          refine g_istore_5 hX (dk DX3_together 27 rfl) (by decide) rfl ?_
          refine g_iinc_6 hX (dk DX3_together 28 rfl) (nI_1 c) (by decide) rfl ?_
          refine g_goto (tgt := 6) hX (dk DX3_together 29 rfl) (by decide) ?_
          exact g_fgt (ih k (by omega) (c + 1) _ (by omega) (by rw [← hv, tgR_s]; first | rw [if_pos ⟨hA, hB⟩] | rw [if_neg (fun z => by first | exact absurd z.1 (by assumption) | exact absurd z.2 (by assumption))])) ⟨rfl, rfl, rfl, rfl, rfl, rfl, rfl, trivial⟩
  refine g_iconst (v := 0) hX (dk DX3_together 0 rfl) (by decide) ?_
  refine g_istore_5 hX (dk DX3_together 1 rfl) (by decide) rfl ?_
  refine g_iconst (v := 0) hX (dk DX3_together 2 rfl) (by decide) ?_
  refine g_istore_6 hX (dk DX3_together 3 rfl) (by decide) rfl ?_
  exact g_fgt (loop6 cl 0 0 (Nat.zero_add _) rfl) ⟨rfl, rfl, rfl, rfl, rfl, rfl, rfl, trivial⟩

set_option maxRecDepth 8000 in
set_option maxHeartbeats 4000000 in
theorem cn_X5_saidBy {G : Gt} (hG : Gok G) {I : It} {h : Ht}  (hW : WX I h) {q : Nat} {y : Int32} (hq : q < hn h) (hdc : isDC (hs h q).1) (hps : hR h 1 13 = none) : Con G 5 0 0 mX5_saidBy [.ref 1, .ref q, .int y] I h (rI 0 I h) := by
  refine con_intro (own := RX5) (lo0 := [some (.ref 1), some (.ref q), some (.int y)]) hG rfl pl_X5 (Nat.le_of_ble_eq_true rfl) rfl (fun X hX => ?_)
  have hH := hW.1
  have hc10 := hW.2.1.2
  refine g_aload_0 hX (dk DX5_saidBy 0 rfl) ?_
  refine g_getR (r := none) hX (dk DX5_saidBy 1 rfl) KX5 fX5_61 (by decide) rfl (CLt hH (q := 1) (by decide)) (CC hH 1 (by decide) rfl) (hps) ?_
  refine g_ifnonnullN hX (dk DX5_saidBy 2 rfl) ?_
  refine g_iconst (v := 0) hX (dk DX5_saidBy 3 rfl) (by decide) ?_
  refine g_goto (tgt := 23) hX (dk DX5_saidBy 4 rfl) (by decide) ?_
  refine g_ireturn hX (dk DX5_saidBy 12 rfl) rfl (rfl) (by decide) (by decide) ?_
  exact rI_of rfl rfl rfl

set_option maxRecDepth 8000 in
set_option maxHeartbeats 4000000 in
theorem cs_X5_saidBy {G : Gt} (hG : Gok G) {I : It} {h : Ht}  (hW : WX I h) {q : Nat} {y : Int32} (hq : q < hn h) (hdc : isDC (hs h q).1) {p : Nat} (hp : p < 6) (hps : hR h 1 13 = some (43 + 5 * p)) : Con G 5 0 0 mX5_saidBy [.ref 1, .ref q, .int y] I h (rI (tgR I h p 115 q y 0 (tN (I (43 + 5 * p) 2)) 0 0) I h) := by
  refine con_intro (own := RX5) (lo0 := [some (.ref 1), some (.ref q), some (.int y)]) hG rfl pl_X5 (Nat.le_of_ble_eq_true rfl) rfl (fun X hX => ?_)
  have hH := hW.1
  have hc10 := hW.2.1.2
  refine g_aload_0 hX (dk DX5_saidBy 0 rfl) ?_
  refine g_getRs (r := (43 + 5 * p)) hX (dk DX5_saidBy 1 rfl) KX5 fX5_61 (by decide) rfl (CLt hH (q := 1) (by decide)) (CC hH 1 (by decide) rfl) (hps) ?_
  refine g_ifnonnull (tgt := 11) hX (dk DX5_saidBy 2 rfl) (by decide) ?_
  refine g_aload_0 hX (dk DX5_saidBy 5 rfl) ?_
  refine g_getRs (r := (43 + 5 * p)) hX (dk DX5_saidBy 6 rfl) KX5 fX5_61 (by decide) rfl (CLt hH (q := 1) (by decide)) (CC hH 1 (by decide) rfl) (hps) ?_
  refine g_bipush (v := 115) hX (dk DX5_saidBy 7 rfl) (by decide) ?_
  refine g_aload_1 hX (dk DX5_saidBy 8 rfl) ?_
  refine g_iload_2 hX (dk DX5_saidBy 9 rfl) ?_
  refine g_iconst (v := 0) hX (dk DX5_saidBy 10 rfl) (by decide) ?_
  refine g_c5I hX sX5_saidBy_20 (by decide) (Nat.le_of_ble_eq_true rfl) (rc0 rfl (PL0 hH hp) (PSh hH hp)) (by decide) (by decide) (c_X3_together hG hH hW.2.2.2.1 hp hq hdc) ?_
  refine g_ireturn hX (dk DX5_saidBy 12 rfl) rfl (rfl) (by decide) (by decide) ?_
  exact rI_of rfl rfl rfl

theorem c_X5_saidBy {G : Gt} (hG : Gok G) {I : It} {h : Ht} (hW : WX I h) {q : Nat} {y : Int32} (hq : q < hn h) (hdc : isDC (hs h q).1) : Con G 5 0 0 mX5_saidBy [.ref 1, .ref q, .int y] I h (rI (tgF I h 115 q y 0) I h) := by
  cases hps : hR h 1 13 with
  | none =>
    have hc := cn_X5_saidBy hG hW hq hdc hps
    have e : tgF I h 115 q y 0 = 0 := by unfold tgF; rw [hps]
    rw [e]; exact hc
  | some P =>
    obtain ⟨p, hp, rfl⟩ := hW.2.2.2.1.1 P hps
    have hc := cs_X5_saidBy hG hW hq hdc hp hps
    have e : tgF I h 115 q y 0 = tgR I h p 115 q y 0 (tN (I (43 + 5 * p) 2)) 0 0 := by unfold tgF; rw [hps]; show tgR I h (pN (43 + 5 * p)) 115 q y 0 _ 0 0 = _; rw [pN_eq]
    rw [e]; exact hc
set_option maxRecDepth 8000 in
set_option maxHeartbeats 4000000 in
theorem cn_X5_dearIn {G : Gt} (hG : Gok G) {I : It} {h : Ht}  (hW : WX I h) {q : Nat} {w : Int32} (hq : q < hn h) (hdc : isDC (hs h q).1) (hps : hR h 1 13 = none) : Con G 5 0 0 mX5_dearIn [.ref 1, .ref q, .int w] I h (rI (I q 4 + 0) I h) := by
  refine con_intro (own := RX5) (lo0 := [some (.ref 1), some (.ref q), some (.int w)]) hG rfl pl_X5 (Nat.le_of_ble_eq_true rfl) rfl (fun X hX => ?_)
  have hH := hW.1
  have hc10 := hW.2.1.2
  refine g_aload_1 hX (dk DX5_dearIn 0 rfl) ?_
  refine g_getD (v := _) hX (dk DX5_dearIn 1 rfl) fX5_80 (by decide) hq hdc (rfl) ?_
  refine g_aload_0 hX (dk DX5_dearIn 2 rfl) ?_
  refine g_getR (r := none) hX (dk DX5_dearIn 3 rfl) KX5 fX5_61 (by decide) rfl (CLt hH (q := 1) (by decide)) (CC hH 1 (by decide) rfl) (hps) ?_
  refine g_ifnonnullN hX (dk DX5_dearIn 4 rfl) ?_
  refine g_iconst (v := 0) hX (dk DX5_dearIn 5 rfl) (by decide) ?_
  refine g_goto (tgt := 31) hX (dk DX5_dearIn 6 rfl) (by decide) ?_
  refine g_iadd hX (dk DX5_dearIn 16 rfl) ?_
  refine g_ireturn hX (dk DX5_dearIn 17 rfl) rfl (rfl) (by decide) (by decide) ?_
  exact rI_of rfl rfl rfl

set_option maxRecDepth 8000 in
set_option maxHeartbeats 4000000 in
theorem cs_X5_dearIn {G : Gt} (hG : Gok G) {I : It} {h : Ht}  (hW : WX I h) {q : Nat} {w : Int32} (hq : q < hn h) (hdc : isDC (hs h q).1) {p : Nat} (hp : p < 6) (hps : hR h 1 13 = some (43 + 5 * p)) : Con G 5 0 0 mX5_dearIn [.ref 1, .ref q, .int w] I h (rI (I q 4 + tgR I h p 99 q 9 (remI w 60) (tN (I (43 + 5 * p) 2)) 0 0) I h) := by
  refine con_intro (own := RX5) (lo0 := [some (.ref 1), some (.ref q), some (.int w)]) hG rfl pl_X5 (Nat.le_of_ble_eq_true rfl) rfl (fun X hX => ?_)
  have hH := hW.1
  have hc10 := hW.2.1.2
  refine g_aload_1 hX (dk DX5_dearIn 0 rfl) ?_
  refine g_getD (v := _) hX (dk DX5_dearIn 1 rfl) fX5_80 (by decide) hq hdc (rfl) ?_
  refine g_aload_0 hX (dk DX5_dearIn 2 rfl) ?_
  refine g_getRs (r := (43 + 5 * p)) hX (dk DX5_dearIn 3 rfl) KX5 fX5_61 (by decide) rfl (CLt hH (q := 1) (by decide)) (CC hH 1 (by decide) rfl) (hps) ?_
  refine g_ifnonnull (tgt := 15) hX (dk DX5_dearIn 4 rfl) (by decide) ?_
  refine g_aload_0 hX (dk DX5_dearIn 7 rfl) ?_
  refine g_getRs (r := (43 + 5 * p)) hX (dk DX5_dearIn 8 rfl) KX5 fX5_61 (by decide) rfl (CLt hH (q := 1) (by decide)) (CC hH 1 (by decide) rfl) (hps) ?_
  refine g_bipush (v := 99) hX (dk DX5_dearIn 9 rfl) (by decide) ?_
  refine g_aload_1 hX (dk DX5_dearIn 10 rfl) ?_
  refine g_bipush (v := 9) hX (dk DX5_dearIn 11 rfl) (by decide) ?_
  refine g_iload_2 hX (dk DX5_dearIn 12 rfl) ?_
  refine g_bipush (v := 60) hX (dk DX5_dearIn 13 rfl) (by decide) ?_
  refine g_irem hX (dk DX5_dearIn 14 rfl) (by decide) ?_
  refine g_c5I hX sX5_dearIn_28 (by decide) (Nat.le_of_ble_eq_true rfl) (rc0 rfl (PL0 hH hp) (PSh hH hp)) (by decide) (by decide) (c_X3_together hG hH hW.2.2.2.1 hp hq hdc) ?_
  refine g_iadd hX (dk DX5_dearIn 16 rfl) ?_
  refine g_ireturn hX (dk DX5_dearIn 17 rfl) rfl (rfl) (by decide) (by decide) ?_
  exact rI_of rfl rfl rfl

theorem c_X5_dearIn {G : Gt} (hG : Gok G) {I : It} {h : Ht} (hW : WX I h) {q : Nat} {w : Int32} (hq : q < hn h) (hdc : isDC (hs h q).1) : Con G 5 0 0 mX5_dearIn [.ref 1, .ref q, .int w] I h (rI (I q 4 + tgF I h 99 q 9 (remI w 60)) I h) := by
  cases hps : hR h 1 13 with
  | none =>
    have hc := cn_X5_dearIn hG hW hq hdc hps
    have e : tgF I h 99 q 9 (remI w 60) = 0 := by unfold tgF; rw [hps]
    rw [e]; exact hc
  | some P =>
    obtain ⟨p, hp, rfl⟩ := hW.2.2.2.1.1 P hps
    have hc := cs_X5_dearIn hG hW hq hdc hp hps
    have e : tgF I h 99 q 9 (remI w 60) = tgR I h p 99 q 9 (remI w 60) (tN (I (43 + 5 * p) 2)) 0 0 := by unfold tgF; rw [hps]; show tgR I h (pN (43 + 5 * p)) 99 q 9 _ _ 0 0 = _; rw [pN_eq]
    rw [e]; exact hc
