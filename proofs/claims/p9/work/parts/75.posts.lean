set_option maxRecDepth 8000 in
set_option maxHeartbeats 4000000 in
theorem cn_X5_callsAtFirst {G : Gt} (hG : Gok G) {I : It} {h : Ht}  (hW : WX I h)  (hps : hR h 1 13 = none) : Con G (1) 0 0 mX5_callsAtFirst [.ref 1] I h (rI 7 I h) := by
  refine con_intro (own := RX5) (lo0 := [some (.ref 1)]) hG rfl pl_X5 (Nat.le_of_ble_eq_true rfl) rfl (fun X hX => ?_)
  have hH := hW.1
  have hc10 := hW.2.1.2
  refine g_aload_0 hX (dk DX5_callsAtFirst 0 rfl) ?_
  refine g_getR (r := none) hX (dk DX5_callsAtFirst 1 rfl) KX5 fX5_61 (by decide) rfl (CLt hH (q := 1) (by decide)) (CC hH 1 (by decide) rfl) (hps) ?_
  refine g_ifnonnullN hX (dk DX5_callsAtFirst 2 rfl) ?_
  refine g_bipush (v := 7) hX (dk DX5_callsAtFirst 3 rfl) (by decide) ?_
  refine g_goto (tgt := 19) hX (dk DX5_callsAtFirst 4 rfl) (by decide) ?_
  refine g_ireturn hX (dk DX5_callsAtFirst 8 rfl) rfl (rfl) (by decide) (by decide) ?_
  exact rI_of rfl rfl rfl

set_option maxRecDepth 8000 in
set_option maxHeartbeats 4000000 in
theorem cs_X5_callsAtFirst {G : Gt} (hG : Gok G) {I : It} {h : Ht}  (hW : WX I h)  {p : Nat} (hp : p < 6) (hps : hR h 1 13 = some (43 + 5 * p)) : Con G (1) 0 0 mX5_callsAtFirst [.ref 1] I h (rI (I (43 + 5 * p) 0) I h) := by
  refine con_intro (own := RX5) (lo0 := [some (.ref 1)]) hG rfl pl_X5 (Nat.le_of_ble_eq_true rfl) rfl (fun X hX => ?_)
  have hH := hW.1
  have hc10 := hW.2.1.2
  refine g_aload_0 hX (dk DX5_callsAtFirst 0 rfl) ?_
  refine g_getRs (r := (43 + 5 * p)) hX (dk DX5_callsAtFirst 1 rfl) KX5 fX5_61 (by decide) rfl (CLt hH (q := 1) (by decide)) (CC hH 1 (by decide) rfl) (hps) ?_
  refine g_ifnonnull (tgt := 12) hX (dk DX5_callsAtFirst 2 rfl) (by decide) ?_
  refine g_aload_0 hX (dk DX5_callsAtFirst 5 rfl) ?_
  refine g_getRs (r := (43 + 5 * p)) hX (dk DX5_callsAtFirst 6 rfl) KX5 fX5_61 (by decide) rfl (CLt hH (q := 1) (by decide)) (CC hH 1 (by decide) rfl) (hps) ?_
  refine g_getI hX (dk DX5_callsAtFirst 7 rfl) KX3 fX5_83 (by decide) rfl (PL0 hH hp) (PSh hH hp) ?_
  refine g_ireturn hX (dk DX5_callsAtFirst 8 rfl) rfl (rfl) (by decide) (by decide) ?_
  exact rI_of rfl rfl rfl

theorem c_X5_callsAtFirst {G : Gt} (hG : Gok G) {I : It} {h : Ht} (hW : WX I h)  : Con G 1 0 0 mX5_callsAtFirst [.ref 1] I h (rI (caF I h) I h) := by
  cases hps : hR h 1 13 with
  | none =>
    have hc := cn_X5_callsAtFirst hG hW  hps
    have e : caF I h = 7 := by unfold caF; rw [hps]
    rw [e]; exact hc
  | some P =>
    obtain ⟨p, hp, rfl⟩ := hW.2.2.2.1.1 P hps
    have hc := cs_X5_callsAtFirst hG hW  hp hps
    have e : caF I h = I (43 + 5 * p) 0 := by unfold caF; rw [hps]
    rw [e]; exact hc
set_option maxRecDepth 8000 in
set_option maxHeartbeats 4000000 in
theorem cn_X5_callsFading {G : Gt} (hG : Gok G) {I : It} {h : Ht}  (hW : WX I h)  (hps : hR h 1 13 = none) : Con G (1) 0 0 mX5_callsFading [.ref 1] I h (rI 1 I h) := by
  refine con_intro (own := RX5) (lo0 := [some (.ref 1)]) hG rfl pl_X5 (Nat.le_of_ble_eq_true rfl) rfl (fun X hX => ?_)
  have hH := hW.1
  have hc10 := hW.2.1.2
  refine g_aload_0 hX (dk DX5_callsFading 0 rfl) ?_
  refine g_getR (r := none) hX (dk DX5_callsFading 1 rfl) KX5 fX5_61 (by decide) rfl (CLt hH (q := 1) (by decide)) (CC hH 1 (by decide) rfl) (hps) ?_
  refine g_ifnonnullN hX (dk DX5_callsFading 2 rfl) ?_
  refine g_iconst (v := 1) hX (dk DX5_callsFading 3 rfl) (by decide) ?_
  refine g_goto (tgt := 18) hX (dk DX5_callsFading 4 rfl) (by decide) ?_
  refine g_ireturn hX (dk DX5_callsFading 8 rfl) rfl (rfl) (by decide) (by decide) ?_
  exact rI_of rfl rfl rfl

set_option maxRecDepth 8000 in
set_option maxHeartbeats 4000000 in
theorem cs_X5_callsFading {G : Gt} (hG : Gok G) {I : It} {h : Ht}  (hW : WX I h)  {p : Nat} (hp : p < 6) (hps : hR h 1 13 = some (43 + 5 * p)) : Con G (1) 0 0 mX5_callsFading [.ref 1] I h (rI (I (43 + 5 * p) 1) I h) := by
  refine con_intro (own := RX5) (lo0 := [some (.ref 1)]) hG rfl pl_X5 (Nat.le_of_ble_eq_true rfl) rfl (fun X hX => ?_)
  have hH := hW.1
  have hc10 := hW.2.1.2
  refine g_aload_0 hX (dk DX5_callsFading 0 rfl) ?_
  refine g_getRs (r := (43 + 5 * p)) hX (dk DX5_callsFading 1 rfl) KX5 fX5_61 (by decide) rfl (CLt hH (q := 1) (by decide)) (CC hH 1 (by decide) rfl) (hps) ?_
  refine g_ifnonnull (tgt := 11) hX (dk DX5_callsFading 2 rfl) (by decide) ?_
  refine g_aload_0 hX (dk DX5_callsFading 5 rfl) ?_
  refine g_getRs (r := (43 + 5 * p)) hX (dk DX5_callsFading 6 rfl) KX5 fX5_61 (by decide) rfl (CLt hH (q := 1) (by decide)) (CC hH 1 (by decide) rfl) (hps) ?_
  refine g_getI hX (dk DX5_callsFading 7 rfl) KX3 fX5_86 (by decide) rfl (PL0 hH hp) (PSh hH hp) ?_
  refine g_ireturn hX (dk DX5_callsFading 8 rfl) rfl (rfl) (by decide) (by decide) ?_
  exact rI_of rfl rfl rfl

theorem c_X5_callsFading {G : Gt} (hG : Gok G) {I : It} {h : Ht} (hW : WX I h)  : Con G 1 0 0 mX5_callsFading [.ref 1] I h (rI (faF I h) I h) := by
  cases hps : hR h 1 13 with
  | none =>
    have hc := cn_X5_callsFading hG hW  hps
    have e : faF I h = 1 := by unfold faF; rw [hps]
    rw [e]; exact hc
  | some P =>
    obtain ⟨p, hp, rfl⟩ := hW.2.2.2.1.1 P hps
    have hc := cs_X5_callsFading hG hW  hp hps
    have e : faF I h = I (43 + 5 * p) 1 := by unfold faF; rw [hps]
    rw [e]; exact hc
set_option maxRecDepth 8000 in
set_option maxHeartbeats 4000000 in
theorem c_X3_passes {G : Gt} (hG : Gok G) {I : It} {h : Ht}  {q : Nat} {t y w : Int32} (hq : q < hn h) (hdc : isDC (hs h q).1) : Con G (2) 0 0 mX3_passes [.int t, .ref q, .int y, .int w] I h (rI (psC I h q t y w) I h) := by
  refine con_intro (own := RX3) (lo0 := [some (.int t), some (.ref q), some (.int y), some (.int w), none, none]) hG rfl pl_X3 (Nat.le_of_ble_eq_true rfl) rfl (fun X hX => ?_)
  have loop125 : ∀ (v : Int32), v = factC I h q t y w → GG G (2) 0 0 X (rI (psC I h q t y w) I h) 125 [some (.int t), some (.ref q), some (.int y), some (.int w), some (.int v), some (.int (t >>> (16 &&& 31)))] [] (I) (h) 0 0 := by
    intro v hv
    refine g_iload_0 hX (dk DX3_passes_0 35 rfl) ?_
    refine g_bipush (v := 8) hX (dk DX3_passes_0 36 rfl) (by decide) ?_
    refine g_ishr hX (dk DX3_passes_0 37 rfl) ?_
    refine g_sipush (v := 255) hX (dk DX3_passes_0 38 rfl) (by decide) ?_
    refine g_iand hX (dk DX3_passes_0 39 rfl) ?_
    refine g_lswitch (dt := 186) hX [(60, 160), (61, 173)] (dk DX3_passes_0 40 rfl) (by decide +kernel) (by decide +kernel) ?_
    refine ⟨fun hc1 => ?_, fun hc1n => ?_⟩
    · show GG _ _ _ _ _ _ _ _ _ _ _ _ _
      refine g_iload_4 hX (dk DX3_passes_0 41 rfl) ?_
      refine g_iload_5 hX (dk DX3_passes_0 42 rfl) ?_
      refine g_icmp_ge (tgt := 171) hX (dk DX3_passes_0 43 rfl) (by decide) (fun hc2 => ?_) (fun hc2 => ?_)
      · refine g_iconst (v := 0) hX (dk DX3_passes_0 46 rfl) (by decide) ?_
        refine g_ireturn hX (dk DX3_passes_0 47 rfl) rfl (by decide) (by decide) (by decide) ?_
        exact rI_of (by unfold psC; rw [← hv]; (try first | rw [if_pos hc1] | rw [if_neg hc1] | rw [if_neg (not_not_intro hc1)]); (try first | rw [if_pos hc2] | rw [if_neg hc2] | rw [if_neg (not_not_intro hc2)]); first | exact (bI_t (by assumption)).symm | exact (bI_f (by assumption)).symm | exact (bI_f (Int32.not_lt.mpr (by assumption))).symm | exact (bI_t (Int32.not_le.mp (by assumption))).symm) rfl rfl
      · refine g_iconst (v := 1) hX (dk DX3_passes_0 44 rfl) (by decide) ?_
        refine g_goto (tgt := 172) hX (dk DX3_passes_0 45 rfl) (by decide) ?_
        refine g_ireturn hX (dk DX3_passes_0 47 rfl) rfl (by decide) (by decide) (by decide) ?_
        exact rI_of (by unfold psC; rw [← hv]; (try first | rw [if_pos hc1] | rw [if_neg hc1] | rw [if_neg (not_not_intro hc1)]); (try first | rw [if_pos hc2] | rw [if_neg hc2] | rw [if_neg (not_not_intro hc2)]); first | exact (bI_t (by assumption)).symm | exact (bI_f (by assumption)).symm | exact (bI_f (Int32.not_lt.mpr (by assumption))).symm | exact (bI_t (Int32.not_le.mp (by assumption))).symm) rfl rfl
    refine ⟨fun hc3 => ?_, fun hc3n => ?_⟩
    · show GG _ _ _ _ _ _ _ _ _ _ _ _ _
      refine g_iload_4 hX (dk DX3_passes_0 48 rfl) ?_
      refine g_iload_5 hX (dk DX3_passes_0 49 rfl) ?_
      refine g_icmp_ne (tgt := 184) hX (dk DX3_passes_0 50 rfl) (by decide) (fun hc4 => ?_) (fun hc4 => ?_)
      · refine g_iconst (v := 0) hX (dk DX3_passes_0 53 rfl) (by decide) ?_
        refine g_ireturn hX (dk DX3_passes_0 54 rfl) rfl (by decide) (by decide) (by decide) ?_
        exact rI_of (by unfold psC; rw [← hv]; (try first | rw [if_pos hc1n] | rw [if_neg hc1n] | rw [if_neg (not_not_intro hc1n)]); (try first | rw [if_pos hc3] | rw [if_neg hc3] | rw [if_neg (not_not_intro hc3)]); (try first | rw [if_pos hc4] | rw [if_neg hc4] | rw [if_neg (not_not_intro hc4)]); first | exact (bI_t (by assumption)).symm | exact (bI_f (by assumption)).symm | exact (bI_f (Int32.not_lt.mpr (by assumption))).symm | exact (bI_t (Int32.not_le.mp (by assumption))).symm) rfl rfl
      · refine g_iconst (v := 1) hX (dk DX3_passes_0 51 rfl) (by decide) ?_
        refine g_goto (tgt := 185) hX (dk DX3_passes_0 52 rfl) (by decide) ?_
        refine g_ireturn hX (dk DX3_passes_0 54 rfl) rfl (by decide) (by decide) (by decide) ?_
        exact rI_of (by unfold psC; rw [← hv]; (try first | rw [if_pos hc1n] | rw [if_neg hc1n] | rw [if_neg (not_not_intro hc1n)]); (try first | rw [if_pos hc3] | rw [if_neg hc3] | rw [if_neg (not_not_intro hc3)]); (try first | rw [if_pos hc4] | rw [if_neg hc4] | rw [if_neg (not_not_intro hc4)]); first | exact (bI_t (by assumption)).symm | exact (bI_f (by assumption)).symm | exact (bI_f (Int32.not_lt.mpr (by assumption))).symm | exact (bI_t (Int32.not_le.mp (by assumption))).symm) rfl rfl
    show GG _ _ _ _ _ _ _ _ _ _ _ _ _
    refine g_iload_4 hX (dk DX3_passes_0 55 rfl) ?_
    refine g_iload_5 hX (dk DX3_passes_0 56 rfl) ?_
    refine g_icmp_le (tgt := 197) hX (dk DX3_passes_0 57 rfl) (by decide) (fun hc6 => ?_) (fun hc6 => ?_)
    · refine g_iconst (v := 0) hX (dk DX3_passes_1 0 rfl) (by decide) ?_
      refine g_ireturn hX (dk DX3_passes_1 1 rfl) rfl (by decide) (by decide) (by decide) ?_
      exact rI_of (by unfold psC; rw [← hv]; (try first | rw [if_pos hc1n] | rw [if_neg hc1n] | rw [if_neg (not_not_intro hc1n)]); (try first | rw [if_pos hc3n] | rw [if_neg hc3n] | rw [if_neg (not_not_intro hc3n)]); (try first | rw [if_pos hc6] | rw [if_neg hc6] | rw [if_neg (not_not_intro hc6)]); first | exact (bI_t (by assumption)).symm | exact (bI_f (by assumption)).symm | exact (bI_f (Int32.not_lt.mpr (by assumption))).symm | exact (bI_t (Int32.not_le.mp (by assumption))).symm) rfl rfl
    · refine g_iconst (v := 1) hX (dk DX3_passes_0 58 rfl) (by decide) ?_
      refine g_goto (tgt := 198) hX (dk DX3_passes_0 59 rfl) (by decide) ?_
      refine g_ireturn hX (dk DX3_passes_1 1 rfl) rfl (by decide) (by decide) (by decide) ?_
      exact rI_of (by unfold psC; rw [← hv]; (try first | rw [if_pos hc1n] | rw [if_neg hc1n] | rw [if_neg (not_not_intro hc1n)]); (try first | rw [if_pos hc3n] | rw [if_neg hc3n] | rw [if_neg (not_not_intro hc3n)]); (try first | rw [if_pos hc6] | rw [if_neg hc6] | rw [if_neg (not_not_intro hc6)]); first | exact (bI_t (by assumption)).symm | exact (bI_f (by assumption)).symm | exact (bI_f (Int32.not_lt.mpr (by assumption))).symm | exact (bI_t (Int32.not_le.mp (by assumption))).symm) rfl rfl
  refine g_iload_0 hX (dk DX3_passes_0 0 rfl) ?_
  refine g_bipush (v := 16) hX (dk DX3_passes_0 1 rfl) (by decide) ?_
  refine g_ishr hX (dk DX3_passes_0 2 rfl) ?_
  refine g_istore_5 hX (dk DX3_passes_0 3 rfl) (by decide) rfl ?_
  refine g_iload_0 hX (dk DX3_passes_0 4 rfl) ?_
  refine g_sipush (v := 255) hX (dk DX3_passes_0 5 rfl) (by decide) ?_
  refine g_iand hX (dk DX3_passes_0 6 rfl) ?_
  refine g_lswitch (dt := 122) hX [(99, 104), (105, 68), (107, 77), (114, 86), (118, 95), (121, 116)] (dk DX3_passes_0 7 rfl) (by decide +kernel) (by decide +kernel) ?_
  refine ⟨fun hc1 => ?_, fun hc1n => ?_⟩
  · show GG _ _ _ _ _ _ _ _ _ _ _ _ _
    refine g_aload_1 hX (dk DX3_passes_0 24 rfl) ?_
    refine g_getD (v := _) hX (dk DX3_passes_0 25 rfl) fX3_115 (by decide) hq hdc (rfl) ?_
    refine g_bipush (v := 10) hX (dk DX3_passes_0 26 rfl) (by decide) ?_
    refine g_idiv hX (dk DX3_passes_0 27 rfl) (by decide) ?_
    refine g_istore_4 hX (dk DX3_passes_0 28 rfl) (by decide) rfl ?_
    refine g_goto (tgt := 125) hX (dk DX3_passes_0 29 rfl) (by decide) ?_
    exact loop125 _ (by unfold factC; (try first | rw [if_pos hc1] | rw [if_neg hc1] | rw [if_neg (not_not_intro hc1)]); first | done | rfl)
  refine ⟨fun hc2 => ?_, fun hc2n => ?_⟩
  · show GG _ _ _ _ _ _ _ _ _ _ _ _ _
    refine g_aload_1 hX (dk DX3_passes_0 8 rfl) ?_
    refine g_getD (v := _) hX (dk DX3_passes_0 9 rfl) fX3_101 (by decide) hq hdc (rfl) ?_
    refine g_istore_4 hX (dk DX3_passes_0 10 rfl) (by decide) rfl ?_
    refine g_goto (tgt := 125) hX (dk DX3_passes_0 11 rfl) (by decide) ?_
    exact loop125 _ (by unfold factC; (try first | rw [if_pos hc1n] | rw [if_neg hc1n] | rw [if_neg (not_not_intro hc1n)]); (try first | rw [if_pos hc2] | rw [if_neg hc2] | rw [if_neg (not_not_intro hc2)]); first | done | rfl)
  refine ⟨fun hc3 => ?_, fun hc3n => ?_⟩
  · show GG _ _ _ _ _ _ _ _ _ _ _ _ _
    refine g_aload_1 hX (dk DX3_passes_0 12 rfl) ?_
    refine g_c1I hX (sD_X3_passes_78 _ hdc) (by decide) (Nat.le_of_ble_eq_true rfl) (rc0 rfl hq rfl) (by decide) (by decide) (cD_kind hG hq hdc) ?_
    refine g_istore_4 hX (dk DX3_passes_0 14 rfl) (by decide) rfl ?_
    refine g_goto (tgt := 125) hX (dk DX3_passes_0 15 rfl) (by decide) ?_
    exact loop125 _ (by unfold factC; (try first | rw [if_pos hc1n] | rw [if_neg hc1n] | rw [if_neg (not_not_intro hc1n)]); (try first | rw [if_pos hc2n] | rw [if_neg hc2n] | rw [if_neg (not_not_intro hc2n)]); (try first | rw [if_pos hc3] | rw [if_neg hc3] | rw [if_neg (not_not_intro hc3)]); first | done | rfl)
  refine ⟨fun hc4 => ?_, fun hc4n => ?_⟩
  · show GG _ _ _ _ _ _ _ _ _ _ _ _ _
    refine g_aload_1 hX (dk DX3_passes_0 16 rfl) ?_
    refine g_getD (v := _) hX (dk DX3_passes_0 17 rfl) fX3_109 (by decide) hq hdc (rfl) ?_
    refine g_istore_4 hX (dk DX3_passes_0 18 rfl) (by decide) rfl ?_
    refine g_goto (tgt := 125) hX (dk DX3_passes_0 19 rfl) (by decide) ?_
    exact loop125 _ (by unfold factC; (try first | rw [if_pos hc1n] | rw [if_neg hc1n] | rw [if_neg (not_not_intro hc1n)]); (try first | rw [if_pos hc2n] | rw [if_neg hc2n] | rw [if_neg (not_not_intro hc2n)]); (try first | rw [if_pos hc3n] | rw [if_neg hc3n] | rw [if_neg (not_not_intro hc3n)]); (try first | rw [if_pos hc4] | rw [if_neg hc4] | rw [if_neg (not_not_intro hc4)]); first | done | rfl)
  refine ⟨fun hc5 => ?_, fun hc5n => ?_⟩
  · show GG _ _ _ _ _ _ _ _ _ _ _ _ _
    refine g_aload_1 hX (dk DX3_passes_0 20 rfl) ?_
    refine g_getD (v := _) hX (dk DX3_passes_0 21 rfl) fX3_112 (by decide) hq hdc (rfl) ?_
    refine g_istore_4 hX (dk DX3_passes_0 22 rfl) (by decide) rfl ?_
    refine g_goto (tgt := 125) hX (dk DX3_passes_0 23 rfl) (by decide) ?_
    exact loop125 _ (by unfold factC; (try first | rw [if_pos hc1n] | rw [if_neg hc1n] | rw [if_neg (not_not_intro hc1n)]); (try first | rw [if_pos hc2n] | rw [if_neg hc2n] | rw [if_neg (not_not_intro hc2n)]); (try first | rw [if_pos hc3n] | rw [if_neg hc3n] | rw [if_neg (not_not_intro hc3n)]); (try first | rw [if_pos hc4n] | rw [if_neg hc4n] | rw [if_neg (not_not_intro hc4n)]); (try first | rw [if_pos hc5] | rw [if_neg hc5] | rw [if_neg (not_not_intro hc5)]); first | done | rfl)
  refine ⟨fun hc6 => ?_, fun hc6n => ?_⟩
  · show GG _ _ _ _ _ _ _ _ _ _ _ _ _
    refine g_iload_2 hX (dk DX3_passes_0 30 rfl) ?_
    refine g_istore_4 hX (dk DX3_passes_0 31 rfl) (by decide) rfl ?_
    refine g_goto (tgt := 125) hX (dk DX3_passes_0 32 rfl) (by decide) ?_
    exact loop125 _ (by unfold factC; (try first | rw [if_pos hc1n] | rw [if_neg hc1n] | rw [if_neg (not_not_intro hc1n)]); (try first | rw [if_pos hc2n] | rw [if_neg hc2n] | rw [if_neg (not_not_intro hc2n)]); (try first | rw [if_pos hc3n] | rw [if_neg hc3n] | rw [if_neg (not_not_intro hc3n)]); (try first | rw [if_pos hc4n] | rw [if_neg hc4n] | rw [if_neg (not_not_intro hc4n)]); (try first | rw [if_pos hc5n] | rw [if_neg hc5n] | rw [if_neg (not_not_intro hc5n)]); (try first | rw [if_pos hc6] | rw [if_neg hc6] | rw [if_neg (not_not_intro hc6)]); first | done | rfl)
  show GG _ _ _ _ _ _ _ _ _ _ _ _ _
  refine g_iload_3 hX (dk DX3_passes_0 33 rfl) ?_
  refine g_istore_4 hX (dk DX3_passes_0 34 rfl) (by decide) rfl ?_
  exact loop125 _ (by unfold factC; (try first | rw [if_pos hc1n] | rw [if_neg hc1n] | rw [if_neg (not_not_intro hc1n)]); (try first | rw [if_pos hc2n] | rw [if_neg hc2n] | rw [if_neg (not_not_intro hc2n)]); (try first | rw [if_pos hc3n] | rw [if_neg hc3n] | rw [if_neg (not_not_intro hc3n)]); (try first | rw [if_pos hc4n] | rw [if_neg hc4n] | rw [if_neg (not_not_intro hc4n)]); (try first | rw [if_pos hc5n] | rw [if_neg hc5n] | rw [if_neg (not_not_intro hc5n)]); (try first | rw [if_pos hc6n] | rw [if_neg hc6n] | rw [if_neg (not_not_intro hc6n)]); first | done | rfl)

