set_option maxRecDepth 8000 in
set_option maxHeartbeats 4000000 in
theorem zm_next {G : Gt} (hG : Gok G) {I : It} {h : Ht} (hM : HM h) (h1 : I 0 18 = 0) (h2 : I 0 17 = 0)  : Con G 1 0 0 mX12_next [.ref 0] I h (rI (-1) I h) := by
  refine con_intro (own := RX12) (lo0 := [some (.ref 0)]) hG rfl pl_X12 (Nat.le_of_ble_eq_true rfl) rfl (fun X hX => ?_)
  refine g_aload_0 hX (dk DX12_next 0 rfl) ?_
  refine g_getIv hX (dk DX12_next 1 rfl) KX12 fX12_65 (by decide) rfl (MLt hM (by decide)) (MC hM) (h1) ?_
  refine g_aload_0 hX (dk DX12_next 2 rfl) ?_
  refine g_getIv hX (dk DX12_next 3 rfl) KX12 fX12_62 (by decide) rfl (MLt hM (by decide)) (MC hM) (h2) ?_
  refine g_icmp_ge (tgt := 23) hX (dk DX12_next 4 rfl) (by decide) (fun hc1 => ?_) (fun hc1 => absurd (by decide) hc1)
  refine g_iconst (v := -1) hX (dk DX12_next 11 rfl) (by decide) ?_
  refine g_ireturn hX (dk DX12_next 12 rfl) rfl (rfl) (by decide) (by decide) ?_
  exact rI_of rfl rfl rfl

set_option maxRecDepth 8000 in
set_option maxHeartbeats 4000000 in
theorem zm_second {G : Gt} (hG : Gok G) {I : It} {h : Ht} (hM : HM h) (h1 : I 0 18 = 0) (h2 : I 0 17 = 0)  : Con G 1 0 0 mX12_second [.ref 0] I h (rI (-1) I h) := by
  refine con_intro (own := RX12) (lo0 := [some (.ref 0)]) hG rfl pl_X12 (Nat.le_of_ble_eq_true rfl) rfl (fun X hX => ?_)
  refine g_aload_0 hX (dk DX12_second 0 rfl) ?_
  refine g_getIv hX (dk DX12_second 1 rfl) KX12 fX12_65 (by decide) rfl (MLt hM (by decide)) (MC hM) (h1) ?_
  refine g_iconst (v := 1) hX (dk DX12_second 2 rfl) (by decide) ?_
  refine g_iadd hX (dk DX12_second 3 rfl) ?_
  refine g_nmI 1 (by decide) ?_
  refine g_aload_0 hX (dk DX12_second 4 rfl) ?_
  refine g_getIv hX (dk DX12_second 5 rfl) KX12 fX12_62 (by decide) rfl (MLt hM (by decide)) (MC hM) (h2) ?_
  refine g_icmp_ge (tgt := 27) hX (dk DX12_second 6 rfl) (by decide) (fun hc1 => ?_) (fun hc1 => absurd (by decide) hc1)
  refine g_iconst (v := -1) hX (dk DX12_second 15 rfl) (by decide) ?_
  refine g_ireturn hX (dk DX12_second 16 rfl) rfl (rfl) (by decide) (by decide) ?_
  exact rI_of rfl rfl rfl

set_option maxRecDepth 8000 in
set_option maxHeartbeats 4000000 in
theorem zm_takes {G : Gt} (hG : Gok G) {I : It} {h : Ht} (hM : HM h) (h1 : I 0 18 = 0) (h2 : I 0 17 = 0) {c : Int32} (hc : ¬ (-1) = c) : Con G 2 0 0 mX12_takes [.ref 0, .int c] I h (rI 0 I h) := by
  refine con_intro (own := RX12) (lo0 := [some (.ref 0), some (.int c)]) hG rfl pl_X12 (Nat.le_of_ble_eq_true rfl) rfl (fun X hX => ?_)
  refine g_aload_0 hX (dk DX12_takes 0 rfl) ?_
  refine g_c1I hX sX12_takes_1 (by decide) (Nat.le_of_ble_eq_true rfl) (rc0 rfl (MLt hM (by decide)) (MC hM)) (by decide) (by decide) (zm_next hG hM (by exact h1) (by exact h2)) ?_
  refine g_iload_1 hX (dk DX12_takes 2 rfl) ?_
  refine g_icmp_eq (tgt := 10) hX (dk DX12_takes 3 rfl) (by decide) (fun hc1 => absurd hc1 hc) (fun hc1 => ?_)
  refine g_iconst (v := 0) hX (dk DX12_takes 4 rfl) (by decide) ?_
  refine g_ireturn hX (dk DX12_takes 5 rfl) rfl (by decide) (by decide) (by decide) ?_
  exact rI_of rfl rfl rfl

set_option maxRecDepth 8000 in
set_option maxHeartbeats 4000000 in
theorem zm_takesWord {G : Gt} (hG : Gok G) {I : It} {h : Ht} (hM : HM h) (h1 : I 0 18 = 0) (h2 : I 0 17 = 0) (hl : ∀ j, j < 15 → I 17 j = lettersL.getD j 0)  : Con G 3 0 0 mX12_takesWord [.ref 0, .int 11, .int 4] I h (rI 0 I h) := by
  refine con_intro (own := RX12) (lo0 := [some (.ref 0), some (.int 11), some (.int 4), none]) hG rfl pl_X12 (Nat.le_of_ble_eq_true rfl) rfl (fun X hX => ?_)
  refine g_iconst (v := 0) hX (dk DX12_takesWord 0 rfl) (by decide) ?_
  refine g_istore_3 hX (dk DX12_takesWord 1 rfl) (by decide) rfl ?_
  refine g_iload_3 hX (dk DX12_takesWord 2 rfl) ?_
  refine g_iload_2 hX (dk DX12_takesWord 3 rfl) ?_
  refine g_icmp_ge (tgt := 30) hX (dk DX12_takesWord 4 rfl) (by decide) (fun hc1 => absurd hc1 (by decide)) (fun hc1 => ?_)
  refine g_aload_0 hX (dk DX12_takesWord 5 rfl) ?_
  refine g_aload_0 hX (dk DX12_takesWord 6 rfl) ?_
  refine g_getRs (r := 17) hX (dk DX12_takesWord 7 rfl) KX12 fX12_104 (by decide) rfl (MLt hM (by decide)) (MC hM) (MR hM 31 (by decide) rfl) ?_
  refine g_iload_1 hX (dk DX12_takesWord 8 rfl) ?_
  refine g_iload_3 hX (dk DX12_takesWord 9 rfl) ?_
  refine g_iadd hX (dk DX12_takesWord 10 rfl) ?_
  refine v_iaload hX (dk DX12_takesWord 11 rfl) (MLt hM (q := 17) (by decide)) (MS hM 17 (by decide) rfl) ((show idx ((11 : Int32) + 0) 11 15 from ⟨by decide, by decide, by decide⟩)) ((hl 11 (by decide))) ?_
  refine g_c2I hX sX12_takesWord_16 (by decide) (Nat.le_of_ble_eq_true rfl) (rc0 rfl (MLt hM (by decide)) (MC hM)) (by decide) (by decide) (zm_takes hG hM (by exact h1) (by exact h2) (by decide)) ?_
  refine g_if_ne (tgt := 24) hX (dk DX12_takesWord 13 rfl) (by decide) (fun hc2 => absurd hc2 (by decide)) (fun hc2 => ?_)
  refine g_iconst (v := 0) hX (dk DX12_takesWord 14 rfl) (by decide) ?_
  refine g_ireturn hX (dk DX12_takesWord 15 rfl) rfl (by decide) (by decide) (by decide) ?_
  exact rI_of rfl rfl rfl

set_option maxRecDepth 8000 in
set_option maxHeartbeats 4000000 in
theorem zm_takesHead {G : Gt} (hG : Gok G) {I : It} {h : Ht} (hM : HM h) (h1 : I 0 18 = 0) (h2 : I 0 17 = 0) (hl : ∀ j, j < 15 → I 17 j = lettersL.getD j 0)  : Con G 4 0 0 mX12_takesHead [.ref 0, .int 0] I h (rI 0 (upI I 11 0 3) h) := by
  refine con_intro (own := RX12) (lo0 := [some (.ref 0), some (.int 0), none]) hG rfl pl_X12 (Nat.le_of_ble_eq_true rfl) rfl (fun X hX => ?_)
  refine g_aload_0 hX (dk DX12_takesHead 0 rfl) ?_
  refine g_c1I hX sX12_takesHead_1 (by decide) (Nat.le_of_ble_eq_true rfl) (rc0 rfl (MLt hM (by decide)) (MC hM)) (by decide) (by decide) (zm_second hG hM (by exact h1) (by exact h2)) ?_
  refine g_istore_2 hX (dk DX12_takesHead 2 rfl) (by decide) rfl ?_
  refine g_aload_0 hX (dk DX12_takesHead 3 rfl) ?_
  refine g_c1I hX sX12_takesHead_6 (by decide) (Nat.le_of_ble_eq_true rfl) (rc0 rfl (MLt hM (by decide)) (MC hM)) (by decide) (by decide) (zm_next hG hM (by exact h1) (by exact h2)) ?_
  refine g_lswitch (dt := 90) hX [(99, 50), (115, 36)] (dk DX12_takesHead 5 rfl) (by decide +kernel) (by decide +kernel) ?_
  refine ⟨fun hc1 => ?_, fun hc1n => ?_⟩
  · show GG _ _ _ _ _ _ _ _ _ _ _ _ _
    exact absurd hc1 (by decide)
  refine ⟨fun hc2 => ?_, fun hc2n => ?_⟩
  · show GG _ _ _ _ _ _ _ _ _ _ _ _ _
    exact absurd hc2 (by decide)
  show GG _ _ _ _ _ _ _ _ _ _ _ _ _
  refine g_aload_0 hX (dk DX12_takesHead 39 rfl) ?_
  refine g_getRs (r := 11) hX (dk DX12_takesHead 40 rfl) KX12 fX12_77 (by decide) rfl (MLt hM (by decide)) (MC hM) (MR hM 22 (by decide) rfl) ?_
  refine g_iload_1 hX (dk DX12_takesHead 41 rfl) ?_
  refine g_iconst (v := 3) hX (dk DX12_takesHead 42 rfl) (by decide) ?_
  refine i_iastore (j := 0) hX (dk DX12_takesHead 43 rfl) (MLt hM (q := 11) (by decide)) (MS hM 11 (by decide) rfl) (⟨rfl, by decide, by decide⟩) ?_
  refine g_aload_0 hX (dk DX12_takesHead 44 rfl) ?_
  refine g_bipush (v := 11) hX (dk DX12_takesHead 45 rfl) (by decide) ?_
  refine g_iconst (v := 4) hX (dk DX12_takesHead 46 rfl) (by decide) ?_
  refine g_c3I hX sX12_takesHead_101 (by decide) (Nat.le_of_ble_eq_true rfl) (rc0 rfl (MLt hM (by decide)) (MC hM)) (by decide) (by decide) (zm_takesWord hG hM (by exact h1) (by exact h2) (by exact hl)) ?_
  refine g_ireturn hX (dk DX12_takesHead 48 rfl) rfl (by decide) (by decide) (by decide) ?_
  exact rI_of rfl rfl rfl

set_option maxRecDepth 8000 in
set_option maxHeartbeats 4000000 in
theorem zm_takesClause {G : Gt} (hG : Gok G) {I : It} {h : Ht} (hM : HM h) (h1 : I 0 18 = 0) (h2 : I 0 17 = 0) (hl : ∀ j, j < 15 → I 17 j = lettersL.getD j 0)  : Con G 5 0 0 mX12_takesClause [.ref 0, .int 0] I h (rI 0 (upI I 11 0 3) h) := by
  refine con_intro (own := RX12) (lo0 := [some (.ref 0), some (.int 0)]) hG rfl pl_X12 (Nat.le_of_ble_eq_true rfl) rfl (fun X hX => ?_)
  refine g_aload_0 hX (dk DX12_takesClause 0 rfl) ?_
  refine g_iload_1 hX (dk DX12_takesClause 1 rfl) ?_
  refine g_c2I hX sX12_takesClause_2 (by decide) (Nat.le_of_ble_eq_true rfl) (rc0 rfl (MLt hM (by decide)) (MC hM)) (by decide) (by decide) (zm_takesHead hG hM (by exact h1) (by exact h2) (by exact hl)) ?_
  refine g_if_eq (tgt := 15) hX (dk DX12_takesClause 3 rfl) (by decide) (fun hc1 => ?_) (fun hc1 => absurd (by decide) hc1)
  refine g_iconst (v := 0) hX (dk DX12_takesClause 7 rfl) (by decide) ?_
  refine g_ireturn hX (dk DX12_takesClause 8 rfl) rfl (by decide) (by decide) (by decide) ?_
  exact rI_of rfl rfl rfl

set_option maxRecDepth 8000 in
set_option maxHeartbeats 4000000 in
theorem zm_goesText {G : Gt} (hG : Gok G) {I : It} {h : Ht} (hM : HM h) (h2 : I 0 17 = 0) (hl : ∀ j, j < 15 → I 17 j = lettersL.getD j 0)  : Con G 6 0 0 mX12_goesText [.ref 0, .int 0] I h (rI 0 (upI (upI (upI I 0 18 0) 0 28 (100 * 0)) 11 0 3) h) := by
  refine con_intro (own := RX12) (lo0 := [some (.ref 0), some (.int 0), none]) hG rfl pl_X12 (Nat.le_of_ble_eq_true rfl) rfl (fun X hX => ?_)
  refine g_aload_0 hX (dk DX12_goesText 0 rfl) ?_
  refine g_iconst (v := 0) hX (dk DX12_goesText 1 rfl) (by decide) ?_
  refine g_putI hX (dk DX12_goesText 2 rfl) KX12 fX12_65 (by decide) rfl (MLt hM (by decide)) (MC hM) (Or.inl rfl) (rfl) (rfl) ?_
  refine g_aload_0 hX (dk DX12_goesText 3 rfl) ?_
  refine g_bipush (v := 100) hX (dk DX12_goesText 4 rfl) (by decide) ?_
  refine g_iload_1 hX (dk DX12_goesText 5 rfl) ?_
  refine g_imul hX (dk DX12_goesText 6 rfl) ?_
  refine g_putI hX (dk DX12_goesText 7 rfl) KX12 fX12_95 (by decide) rfl (MLt hM (by decide)) (MC hM) (Or.inl rfl) (rfl) (rfl) ?_
  refine g_iconst (v := 0) hX (dk DX12_goesText 8 rfl) (by decide) ?_
  refine g_istore_2 hX (dk DX12_goesText 9 rfl) (by decide) rfl ?_
  refine g_aload_0 hX (dk DX12_goesText 10 rfl) ?_
  refine g_bipush (v := 10) hX (dk DX12_goesText 11 rfl) (by decide) ?_
  refine g_iload_1 hX (dk DX12_goesText 12 rfl) ?_
  refine g_imul hX (dk DX12_goesText 13 rfl) ?_
  refine g_iload_2 hX (dk DX12_goesText 14 rfl) ?_
  refine g_iadd hX (dk DX12_goesText 15 rfl) ?_
  refine g_nmI 0 (by decide) ?_
  refine g_c2I hX sX12_goesText_22 (by decide) (Nat.le_of_ble_eq_true rfl) (rc0 rfl (MLt hM (by decide)) (MC hM)) (by decide) (by decide) (zm_takesClause hG hM (by rfl) (by exact h2) (by exact hl)) ?_
  refine g_if_ne (tgt := 30) hX (dk DX12_goesText 17 rfl) (by decide) (fun hc1 => absurd hc1 (by decide)) (fun hc1 => ?_)
  refine g_iconst (v := 0) hX (dk DX12_goesText 18 rfl) (by decide) ?_
  refine g_ireturn hX (dk DX12_goesText 19 rfl) rfl (by decide) (by decide) (by decide) ?_
  exact rI_of rfl rfl rfl

set_option maxRecDepth 8000 in
set_option maxHeartbeats 4000000 in
theorem zm_post {G : Gt} (hG : Gok G) {I : It} {h : Ht} (hM : HM h) {E : It} (hF : fresh E) (hR : RM E I)  : Con G 7 0 0 mX12_post [.ref 0] I h (qA (-10)) := by
  refine con_intro (own := RX12) (lo0 := [some (.ref 0), none]) hG rfl pl_X12 (Nat.le_of_ble_eq_true rfl) rfl (fun X hX => ?_)
  have h2 : I 0 17 = 0 := (RM.f hR 17 (by decide) (by decide)).trans (fr_z hF 17 (by decide) (by decide) (by decide))
  have h15 : I 0 15 = 0 := (RM.f hR 15 (by decide) (by decide)).trans (fr_z hF 15 (by decide) (by decide) (by decide))
  have hl := hR.2.2.2.2.2
  refine g_aload_0 hX (dk DX12_post 0 rfl) ?_
  refine g_getIv hX (dk DX12_post 1 rfl) KX12 fX12_56 (by decide) rfl (MLt hM (by decide)) (MC hM) (h15) ?_
  refine g_bipush (v := 6) hX (dk DX12_post 2 rfl) (by decide) ?_
  refine g_icmp_ne (tgt := 12) hX (dk DX12_post 3 rfl) (by decide) (fun hc1 => ?_) (fun hc1 => absurd hc1 (by decide))
  refine g_aload_0 hX (dk DX12_post 6 rfl) ?_
  refine g_aload_0 hX (dk DX12_post 7 rfl) ?_
  refine g_getIv hX (dk DX12_post 8 rfl) KX12 fX12_56 (by decide) rfl (MLt hM (by decide)) (MC hM) (h15) ?_
  refine g_c2I hX sX12_post_17 (by decide) (Nat.le_of_ble_eq_true rfl) (rc0 rfl (MLt hM (by decide)) (MC hM)) (by decide) (by decide) (zm_goesText hG hM (by exact h2) (by exact hl)) ?_
  refine g_istore_1 hX (dk DX12_post 10 rfl) (by decide) rfl ?_
  refine g_aload_0 hX (dk DX12_post 11 rfl) ?_
  refine g_iconst (v := 0) hX (dk DX12_post 12 rfl) (by decide) ?_
  refine g_putI hX (dk DX12_post 13 rfl) KX12 fX12_62 (by decide) rfl (MLt hM (by decide)) (MC hM) (Or.inl rfl) (rfl) (rfl) ?_
  refine g_iload_1 hX (dk DX12_post 14 rfl) ?_
  refine g_if_ne (tgt := 38) hX (dk DX12_post 15 rfl) (by decide) (fun hc2 => absurd hc2 (by decide)) (fun hc2 => ?_)
  refine g_bipush (v := -10) hX (dk DX12_post 16 rfl) (by decide) ?_
  refine g_aload_0 hX (dk DX12_post 17 rfl) ?_
  refine g_getIv hX (dk DX12_post 18 rfl) KX12 fX12_65 (by decide) rfl (MLt hM (by decide)) (MC hM) ((show _ = (0 : Int32) from rfl)) ?_
  refine g_isub hX (dk DX12_post 19 rfl) ?_
  refine g_ireturn hX (dk DX12_post 20 rfl) rfl (rfl) (by decide) (by decide) ?_
  exact qA_of (by decide)

set_option maxRecDepth 8000 in
set_option maxHeartbeats 4000000 in
theorem zm_firstOff {G : Gt} (hG : Gok G) {I : It} {h : Ht} (hM : HM h) {E : It} (hE : Inv E) (hR : RM E I) {L : Nat → Int64} (hl : hL h 38 = L) {s : Int32} (hr0 : E 0 44 = 0) : Con G 7 0 0 mX12_firstOff [.ref 0, .int s] I h (qI (fun x I2 h2 => x = -5 ∧ SM E L I2 h2)) := by
  refine con_intro (own := RX12) (lo0 := [some (.ref 0), some (.int s), none]) hG rfl pl_X12 (Nat.le_of_ble_eq_true rfl) rfl (fun X hX => ?_)
  have loop2 : ∀ (k i : Nat) (J : It), RM E J → i + k = 1000 → GG G 7 0 0 X (qI (fun x I2 h2 => x = -5 ∧ SM E L I2 h2)) 2 [some (.ref 0), some (.int s), some (.int (nI i))] [] (J) (h) 0 0 := by
    intro k
    induction k using Nat.strongRecOn with | _ k ih => ?_
    intro i J hR hk
    refine g_iload_2 hX (dk DX12_firstOff 2 rfl) ?_
    refine g_sipush (v := 1000) hX (dk DX12_firstOff 3 rfl) (by decide) ?_
    refine g_icmp_ge (tgt := 22) hX (dk DX12_firstOff 4 rfl) (by decide) (fun hc1 => ?_) (fun hc1 => ?_)
    · refine g_aload_0 hX (dk DX12_firstOff 12 rfl) ?_
      refine g_iload_1 hX (dk DX12_firstOff 13 rfl) ?_
      refine g_aload_0 hX (dk DX12_firstOff 14 rfl) ?_
      refine g_getIv hX (dk DX12_firstOff 15 rfl) KX12 fX12_28 (by decide) rfl (MLt hM (by decide)) (MC hM) (RM.f hR 6 (by decide) (by decide)) ?_
      refine g_c3v hX sX12_firstOff_28 (by decide) (Nat.le_of_ble_eq_true rfl) (rc0 rfl (MLt hM (by decide)) (MC hM)) (by decide) (by decide) (c_X12_begins hG hM) ?_
      rintro J1 _ ⟨hT, hfr, rfl⟩
      have hR := RM.keep hR hfr (by decide) (by decide) (by decide)
      refine g_aload_0 hX (dk DX12_firstOff 17 rfl) ?_
      refine g_bipush (v := 100) hX (dk DX12_firstOff 18 rfl) (by decide) ?_
      refine g_c2v hX sX12_firstOff_34 (by decide) (Nat.le_of_ble_eq_true rfl) (rc0 rfl (MLt hM (by decide)) (MC hM)) (by decide) (by decide) (c_X12_goWeeks hG hM hE (Ag.of hR (by decide) (by decide)) (m := 100) (by decide) hT) ?_
      rintro J2 _ ⟨hT, hfr, rfl⟩
      have hT := TS.all hT
      have hR := RM.keep hR hfr (by decide) (by decide) (by decide)
      refine g_iconst (v := 0) hX (dk DX12_firstOff 20 rfl) (by decide) ?_
      refine g_istore_2 hX (dk DX12_firstOff 21 rfl) (by decide) rfl ?_
      refine g_iload_2 hX (dk DX12_firstOff 22 rfl) ?_
      refine g_aload_0 hX (dk DX12_firstOff 23 rfl) ?_
      refine g_getIv hX (dk DX12_firstOff 24 rfl) KX12 fX12_144 (by decide) rfl (MLt hM (by decide)) (MC hM) ((RM.f hR 44 (by decide) (by decide)).trans hr0) ?_
      refine g_icmp_ge (tgt := 79) hX (dk DX12_firstOff 25 rfl) (by decide) (fun hc2 => ?_) (fun hc2 => absurd (by decide) hc2)
      refine g_bipush (v := -5) hX (dk DX12_firstOff 45 rfl) (by decide) ?_
      refine g_ireturn hX (dk DX12_firstOff 46 rfl) rfl (rfl) (by decide) (by decide) ?_
      exact qI_of ⟨rfl, hR, hM, hl⟩
    · obtain ⟨k, rfl⟩ := ct_go (e := 1000) hk (by decide) hc1
      refine g_aload_0 hX (dk DX12_firstOff 5 rfl) ?_
      refine g_getRs (r := 20) hX (dk DX12_firstOff 6 rfl) KX12 fX12_135 (by decide) rfl (MLt hM (by decide)) (MC hM) (MR hM 41 (by decide) rfl) ?_
      refine g_iload_2 hX (dk DX12_firstOff 7 rfl) ?_
      refine g_iconst (v := 0) hX (dk DX12_firstOff 8 rfl) (by decide) ?_
      refine i_zastore hX (dk DX12_firstOff 9 rfl) (MLt hM (q := 20) (by decide)) (MS hM 20 (by decide) rfl) (⟨rfl, by omega, by decide⟩) ?_
      refine g_iinc_2 hX (dk DX12_firstOff 10 rfl) (nI_1 i) (by decide) rfl ?_
      refine g_goto (tgt := 2) hX (dk DX12_firstOff 11 rfl) (by decide) ?_
      exact ih k (by omega) (i + 1) _ (RM.keep hR (Fr.rf (F := []) (C := [20])).pcw (by decide) (by decide) (by decide)) (by omega)
  refine g_iconst (v := 0) hX (dk DX12_firstOff 0 rfl) (by decide) ?_
  refine g_istore_2 hX (dk DX12_firstOff 1 rfl) (by decide) rfl ?_
  exact loop2 1000 0 I hR (Nat.zero_add _)

set_option maxRecDepth 8000 in
set_option maxHeartbeats 4000000 in
theorem zm_looked {G : Gt} (hG : Gok G) {I : It} {h : Ht} (hM : HM h) {E : It} (hE : Inv E) (hR : RM E I) {L : Nat → Int64} (hl : hL h 38 = L) (hr0 : E 0 44 = 0) : Con G 8 0 0 mX12_looked [.ref 0] I h (qI (fun x I2 h2 => x = -5 ∧ SM E L I2 h2)) := by
  refine con_intro (own := RX12) (lo0 := [some (.ref 0)]) hG rfl pl_X12 (Nat.le_of_ble_eq_true rfl) rfl (fun X hX => ?_)
  refine g_aload_0 hX (dk DX12_looked 0 rfl) ?_
  refine g_aload_0 hX (dk DX12_looked 1 rfl) ?_
  refine g_getIv hX (dk DX12_looked 2 rfl) KX12 fX12_25 (by decide) rfl (MLt hM (by decide)) (MC hM) (RM.f hR 5 (by decide) (by decide)) ?_
  refine g_c2q hX sX12_looked_5 (by decide) (Nat.le_of_ble_eq_true rfl) (rc0 rfl (MLt hM (by decide)) (MC hM)) (by decide) (by decide) (zm_firstOff hG hM hE hR hl hr0) ?_
  rintro _ J2 h2 ⟨rfl, hR, hM, hl⟩
  refine g_ireturn hX (dk DX12_looked 4 rfl) rfl (rfl) (by decide) (by decide) ?_
  exact qI_of ⟨rfl, hR, hM, hl⟩

set_option maxRecDepth 8000 in
set_option maxHeartbeats 4000000 in
theorem zm_fits {G : Gt} (hG : Gok G) {I : It} {h : Ht} (hM : HM h) {E : It} (hE : Inv E) (hR : RM E I) {L : Nat → Int64} (hl : hL h 38 = L) (hr0 : E 0 44 = 0) (hd0 : E 0 0 = 0) : Con G 8 0 0 mX12_fits [.ref 0] I h (qI (fun x I2 h2 => x = 1 ∧ SM E L I2 h2)) := by
  refine con_intro (own := RX12) (lo0 := [some (.ref 0), none, none]) hG rfl pl_X12 (Nat.le_of_ble_eq_true rfl) rfl (fun X hX => ?_)
  refine g_aload_0 hX (dk DX12_fits 0 rfl) ?_
  refine g_getIv hX (dk DX12_fits 1 rfl) KX12 fX12_7 (by decide) rfl (MLt hM (by decide)) (MC hM) ((RM.f hR 0 (by decide) (by decide)).trans hd0) ?_
  refine g_bipush (v := 8) hX (dk DX12_fits 2 rfl) (by decide) ?_
  refine g_icmp_le (tgt := 12) hX (dk DX12_fits 3 rfl) (by decide) (fun hc1 => ?_) (fun hc1 => absurd (by decide) hc1)
  refine g_iconst (v := 0) hX (dk DX12_fits 6 rfl) (by decide) ?_
  refine g_istore_1 hX (dk DX12_fits 7 rfl) (by decide) rfl ?_
  refine g_iconst (v := 0) hX (dk DX12_fits 8 rfl) (by decide) ?_
  refine g_istore_2 hX (dk DX12_fits 9 rfl) (by decide) rfl ?_
  refine g_iload_2 hX (dk DX12_fits 10 rfl) ?_
  refine g_iconst (v := 1) hX (dk DX12_fits 11 rfl) (by decide) ?_
  refine g_aload_0 hX (dk DX12_fits 12 rfl) ?_
  refine g_getIv hX (dk DX12_fits 13 rfl) KX12 fX12_7 (by decide) rfl (MLt hM (by decide)) (MC hM) ((RM.f hR 0 (by decide) (by decide)).trans hd0) ?_
  refine g_ishl hX (dk DX12_fits 14 rfl) ?_
  refine g_nmI 1 (by decide) ?_
  refine g_icmp_ge (tgt := 48) hX (dk DX12_fits 15 rfl) (by decide) (fun hc2 => absurd hc2 (by decide)) (fun hc2 => ?_)
  refine g_iload_1 hX (dk DX12_fits 16 rfl) ?_
  refine g_aload_0 hX (dk DX12_fits 17 rfl) ?_
  refine g_iload_2 hX (dk DX12_fits 18 rfl) ?_
  refine g_c2q hX sX12_fits_29 (by decide) (Nat.le_of_ble_eq_true rfl) (rc0 rfl (MLt hM (by decide)) (MC hM)) (by decide) (by decide) (zm_firstOff hG hM hE hR hl hr0) ?_
  rintro _ J2 h2 ⟨rfl, hR, hM, hl⟩
  refine g_if_ge (tgt := 39) hX (dk DX12_fits 20 rfl) (by decide) (fun hc3 => absurd hc3 (by decide)) (fun hc3 => ?_)
  refine g_iconst (v := 1) hX (dk DX12_fits 21 rfl) (by decide) ?_
  refine g_goto (tgt := 40) hX (dk DX12_fits 22 rfl) (by decide) ?_
  refine g_iadd hX (dk DX12_fits 24 rfl) ?_
  refine g_nmI 1 (by decide) ?_
  refine g_istore_1 hX (dk DX12_fits 25 rfl) (by decide) rfl ?_
  refine g_iinc_2 (v := 1) hX (dk DX12_fits 26 rfl) (by decide) (by decide) rfl ?_
  refine g_goto (tgt := 16) hX (dk DX12_fits 27 rfl) (by decide) ?_
  refine g_iload_2 hX (dk DX12_fits 10 rfl) ?_
  refine g_iconst (v := 1) hX (dk DX12_fits 11 rfl) (by decide) ?_
  refine g_aload_0 hX (dk DX12_fits 12 rfl) ?_
  refine g_getIv hX (dk DX12_fits 13 rfl) KX12 fX12_7 (by decide) rfl (MLt hM (by decide)) (MC hM) ((RM.f hR 0 (by decide) (by decide)).trans hd0) ?_
  refine g_ishl hX (dk DX12_fits 14 rfl) ?_
  refine g_nmI 1 (by decide) ?_
  refine g_icmp_ge (tgt := 48) hX (dk DX12_fits 15 rfl) (by decide) (fun hc4 => ?_) (fun hc4 => absurd (by decide) hc4)
  refine g_iload_1 hX (dk DX12_fits 28 rfl) ?_
  refine g_ireturn hX (dk DX12_fits 29 rfl) rfl (rfl) (by decide) (by decide) ?_
  exact qI_of ⟨rfl, hR, hM, hl⟩

