section
set_option maxRecDepth 8000 in
set_option maxHeartbeats 4000000 in
theorem c_X12_dear {G : Gt} (hG : Gok G) {I : It} {h : Ht} (hM : HM h) {E : It} (hE : Inv E) (hA : Ag E I) {w : Int32} {d : Nat} (hd : d < 10) : Con G (4) 0 0 mX12_dear [.ref 0, .int (nI d), .int w] I h (qF (dearF E d w) [] [18] I h) := by
  refine con_intro (own := RX12) (lo0 := [some (.ref 0), some (.int (nI d)), some (.int w)]) hG rfl pl_X12 (Nat.le_of_ble_eq_true rfl) rfl (fun X hX => ?_)
  refine g_aload_0 hX (dk DX12_dear 0 rfl) ?_
  refine g_getRs (r := 5) hX (dk DX12_dear 1 rfl) KX12 fX12_44 (by decide) rfl (MLt hM (by decide)) (MC hM) (MR hM 11 (by decide) rfl) ?_
  refine g_iload_1 hX (dk DX12_dear 2 rfl) ?_
  refine v_iaload hX (dk DX12_dear 3 rfl) (MLt hM (q := 5) (by decide)) (MS hM 5 (by decide) rfl) (⟨rfl, by omega, by decide⟩) (congrFun (hA.2.1 5 (by decide)) d) ?_
  refine g_aload_0 hX (dk DX12_dear 4 rfl) ?_
  refine g_iconst (v := 1) hX (dk DX12_dear 5 rfl) (by decide) ?_
  refine g_iload_1 hX (dk DX12_dear 6 rfl) ?_
  refine g_bipush (v := 9) hX (dk DX12_dear 7 rfl) (by decide) ?_
  refine g_iload_2 hX (dk DX12_dear 8 rfl) ?_
  refine g_bipush (v := 60) hX (dk DX12_dear 9 rfl) (by decide) ?_
  refine g_irem hX (dk DX12_dear 10 rfl) (by decide) ?_
  refine g_c5q hX sX12_dear_15 (by decide) (Nat.le_of_ble_eq_true rfl) (rc0 rfl (MLt hM (by decide)) (MC hM)) (by decide) (by decide) (c_X12_sumOf hG hM hE hA hd (Or.inr rfl)) ?_
  rintro _ J2 _ ⟨rfl, hfr2, rfl⟩
  refine g_iadd hX (dk DX12_dear 12 rfl) ?_
  refine g_ireturn hX (dk DX12_dear 13 rfl) rfl (rfl) (by decide) (by decide) ?_
  exact qF_of rfl hfr2

theorem inv_r {E : It} (hE : Inv E) {d : Nat} (hd : d < cnt E) : ∃ r p, 1 ≤ r ∧ r ≤ 60 ∧ p < r ∧ E 3 d = nI r ∧ E 4 d = nI p := by
  obtain ⟨-, -, ⟨r, h1, h2, h3, p, h4, h5⟩, -⟩ := inv_d hE hd
  exact ⟨r, p, h1, h2, h4, h3, h5⟩
theorem inv_r0 {E : It} (hE : Inv E) {d : Nat} (hd : d < cnt E) : ¬ E 3 d = 0 := by
  obtain ⟨r, p, h1, h2, -, h3, -⟩ := inv_r hE hd
  rw [h3]
  exact nI_ne0 (by omega) (by omega)

set_option maxRecDepth 8000 in
set_option maxHeartbeats 4000000 in
theorem c_X12_comes {G : Gt} (hG : Gok G) {I : It} {h : Ht} (hM : HM h) {E : It} (hE : Inv E) (hA : Ag E I) {w : Int32} {d : Nat} (hd : d < cnt E) : Con G (1) 0 0 mX12_comes [.ref 0, .int (nI d), .int w] I h (rI (bI (remI w (E 3 d) = E 4 d)) I h) := by
  refine con_intro (own := RX12) (lo0 := [some (.ref 0), some (.int (nI d)), some (.int w)]) hG rfl pl_X12 (Nat.le_of_ble_eq_true rfl) rfl (fun X hX => ?_)
  have hc10 := (inv_cnt hE).2
  refine g_iload_2 hX (dk DX12_comes 0 rfl) ?_
  refine g_aload_0 hX (dk DX12_comes 1 rfl) ?_
  refine g_getRs (r := 3) hX (dk DX12_comes 2 rfl) KX12 fX12_38 (by decide) rfl (MLt hM (by decide)) (MC hM) (MR hM 9 (by decide) rfl) ?_
  refine g_iload_1 hX (dk DX12_comes 3 rfl) ?_
  refine v_iaload hX (dk DX12_comes 4 rfl) (MLt hM (q := 3) (by decide)) (MS hM 3 (by decide) rfl) (⟨rfl, by omega, by decide⟩) (congrFun (hA.2.1 3 (by decide)) d) ?_
  refine g_irem hX (dk DX12_comes 5 rfl) (inv_r0 hE hd) ?_
  refine g_aload_0 hX (dk DX12_comes 6 rfl) ?_
  refine g_getRs (r := 4) hX (dk DX12_comes 7 rfl) KX12 fX12_41 (by decide) rfl (MLt hM (by decide)) (MC hM) (MR hM 10 (by decide) rfl) ?_
  refine g_iload_1 hX (dk DX12_comes 8 rfl) ?_
  refine v_iaload hX (dk DX12_comes 9 rfl) (MLt hM (q := 4) (by decide)) (MS hM 4 (by decide) rfl) (⟨rfl, by omega, by decide⟩) (congrFun (hA.2.1 4 (by decide)) d) ?_
  refine g_icmp_ne (tgt := 21) hX (dk DX12_comes 10 rfl) (by decide) (fun hc1 => ?_) (fun hc1 => ?_)
  · refine g_iconst (v := 0) hX (dk DX12_comes 13 rfl) (by decide) ?_
    refine g_ireturn hX (dk DX12_comes 14 rfl) rfl (by decide) (by decide) (by decide) ?_
    exact rI_of (by first | exact (bI_t (by assumption)).symm | exact (bI_f (by assumption)).symm) rfl rfl
  · refine g_iconst (v := 1) hX (dk DX12_comes 11 rfl) (by decide) ?_
    refine g_goto (tgt := 22) hX (dk DX12_comes 12 rfl) (by decide) ?_
    refine g_ireturn hX (dk DX12_comes 14 rfl) rfl (by decide) (by decide) (by decide) ?_
    exact rI_of (by first | exact (bI_t (by assumption)).symm | exact (bI_f (by assumption)).symm) rfl rfl

set_option maxRecDepth 8000 in
set_option maxHeartbeats 4000000 in
theorem c_X12_learnsBy {G : Gt} (hG : Gok G) {I : It} {h : Ht} (hM : HM h) {E : It} (hA : Ag E I) {d : Nat} (hd : d < 10) : Con G (1) 0 0 mX12_learnsBy [.ref 0, .int (nI d)] I h (rI (@bI (learnsF E d) (dcL E d)) I h) := by
  refine con_intro (own := RX12) (lo0 := [some (.ref 0), some (.int (nI d))]) hG rfl pl_X12 (Nat.le_of_ble_eq_true rfl) rfl (fun X hX => ?_)
  refine g_aload_0 hX (dk DX12_learnsBy 0 rfl) ?_
  refine g_getRs (r := 1) hX (dk DX12_learnsBy 1 rfl) KX12 fX12_31 (by decide) rfl (MLt hM (by decide)) (MC hM) (MR hM 7 (by decide) rfl) ?_
  refine g_iload_1 hX (dk DX12_learnsBy 2 rfl) ?_
  refine v_iaload hX (dk DX12_learnsBy 3 rfl) (MLt hM (q := 1) (by decide)) (MS hM 1 (by decide) rfl) (⟨rfl, by omega, by decide⟩) (congrFun (hA.2.1 1 (by decide)) d) ?_
  refine g_iconst (v := 3) hX (dk DX12_learnsBy 4 rfl) (by decide) ?_
  refine g_icmp_eq (tgt := 21) hX (dk DX12_learnsBy 5 rfl) (by decide) (fun hc1 => ?_) (fun hc1 => ?_)
  · refine g_aload_0 hX (dk DX12_learnsBy 12 rfl) ?_
    refine g_getRs (r := 2) hX (dk DX12_learnsBy 13 rfl) KX12 fX12_35 (by decide) rfl (MLt hM (by decide)) (MC hM) (MR hM 8 (by decide) rfl) ?_
    refine g_iload_1 hX (dk DX12_learnsBy 14 rfl) ?_
    refine v_iaload hX (dk DX12_learnsBy 15 rfl) (MLt hM (q := 2) (by decide)) (MS hM 2 (by decide) rfl) (⟨rfl, by omega, by decide⟩) (congrFun (hA.2.1 2 (by decide)) d) ?_
    refine g_if_eq (tgt := 60) hX (dk DX12_learnsBy 16 rfl) (by decide) (fun hc2 => ?_) (fun hc2 => ?_)
    · refine g_iconst (v := 1) hX (dk DX12_learnsBy 35 rfl) (by decide) ?_
      refine g_goto (tgt := 65) hX (dk DX12_learnsBy 36 rfl) (by decide) ?_
      refine g_ireturn hX (dk DX12_learnsBy 38 rfl) rfl (by decide) (by decide) (by decide) ?_
      exact rI_of (by first | exact (@bI_t _ (dcL E d) (by unfold learnsF; grind)).symm | exact (@bI_f _ (dcL E d) (by unfold learnsF; grind)).symm) rfl rfl
    · refine g_aload_0 hX (dk DX12_learnsBy 17 rfl) ?_
      refine g_getRs (r := 1) hX (dk DX12_learnsBy 18 rfl) KX12 fX12_31 (by decide) rfl (MLt hM (by decide)) (MC hM) (MR hM 7 (by decide) rfl) ?_
      refine g_iload_1 hX (dk DX12_learnsBy 19 rfl) ?_
      refine v_iaload hX (dk DX12_learnsBy 20 rfl) (MLt hM (q := 1) (by decide)) (MS hM 1 (by decide) rfl) (⟨rfl, by omega, by decide⟩) (congrFun (hA.2.1 1 (by decide)) d) ?_
      refine g_iconst (v := 2) hX (dk DX12_learnsBy 21 rfl) (by decide) ?_
      refine g_icmp_eq (tgt := 50) hX (dk DX12_learnsBy 22 rfl) (by decide) (fun hc3 => ?_) (fun hc3 => ?_)
      · refine g_aload_0 hX (dk DX12_learnsBy 29 rfl) ?_
        refine g_getRs (r := 2) hX (dk DX12_learnsBy 30 rfl) KX12 fX12_35 (by decide) rfl (MLt hM (by decide)) (MC hM) (MR hM 8 (by decide) rfl) ?_
        refine g_iload_1 hX (dk DX12_learnsBy 31 rfl) ?_
        refine v_iaload hX (dk DX12_learnsBy 32 rfl) (MLt hM (q := 2) (by decide)) (MS hM 2 (by decide) rfl) (⟨rfl, by omega, by decide⟩) (congrFun (hA.2.1 2 (by decide)) d) ?_
        refine g_iconst (v := 4) hX (dk DX12_learnsBy 33 rfl) (by decide) ?_
        refine g_icmp_le (tgt := 64) hX (dk DX12_learnsBy 34 rfl) (by decide) (fun hc4 => ?_) (fun hc4 => ?_)
        · refine g_iconst (v := 0) hX (dk DX12_learnsBy 37 rfl) (by decide) ?_
          refine g_ireturn hX (dk DX12_learnsBy 38 rfl) rfl (by decide) (by decide) (by decide) ?_
          exact rI_of (by first | exact (@bI_t _ (dcL E d) (by unfold learnsF; grind)).symm | exact (@bI_f _ (dcL E d) (by unfold learnsF; grind)).symm) rfl rfl
        · refine g_iconst (v := 1) hX (dk DX12_learnsBy 35 rfl) (by decide) ?_
          refine g_goto (tgt := 65) hX (dk DX12_learnsBy 36 rfl) (by decide) ?_
          refine g_ireturn hX (dk DX12_learnsBy 38 rfl) rfl (by decide) (by decide) (by decide) ?_
          exact rI_of (by first | exact (@bI_t _ (dcL E d) (by unfold learnsF; grind)).symm | exact (@bI_f _ (dcL E d) (by unfold learnsF; grind)).symm) rfl rfl
      · refine g_aload_0 hX (dk DX12_learnsBy 23 rfl) ?_
        refine g_getRs (r := 1) hX (dk DX12_learnsBy 24 rfl) KX12 fX12_31 (by decide) rfl (MLt hM (by decide)) (MC hM) (MR hM 7 (by decide) rfl) ?_
        refine g_iload_1 hX (dk DX12_learnsBy 25 rfl) ?_
        refine v_iaload hX (dk DX12_learnsBy 26 rfl) (MLt hM (q := 1) (by decide)) (MS hM 1 (by decide) rfl) (⟨rfl, by omega, by decide⟩) (congrFun (hA.2.1 1 (by decide)) d) ?_
        refine g_iconst (v := 5) hX (dk DX12_learnsBy 27 rfl) (by decide) ?_
        refine g_icmp_ne (tgt := 64) hX (dk DX12_learnsBy 28 rfl) (by decide) (fun hc5 => ?_) (fun hc5 => ?_)
        · refine g_iconst (v := 0) hX (dk DX12_learnsBy 37 rfl) (by decide) ?_
          refine g_ireturn hX (dk DX12_learnsBy 38 rfl) rfl (by decide) (by decide) (by decide) ?_
          exact rI_of (by first | exact (@bI_t _ (dcL E d) (by unfold learnsF; grind)).symm | exact (@bI_f _ (dcL E d) (by unfold learnsF; grind)).symm) rfl rfl
        · refine g_aload_0 hX (dk DX12_learnsBy 29 rfl) ?_
          refine g_getRs (r := 2) hX (dk DX12_learnsBy 30 rfl) KX12 fX12_35 (by decide) rfl (MLt hM (by decide)) (MC hM) (MR hM 8 (by decide) rfl) ?_
          refine g_iload_1 hX (dk DX12_learnsBy 31 rfl) ?_
          refine v_iaload hX (dk DX12_learnsBy 32 rfl) (MLt hM (q := 2) (by decide)) (MS hM 2 (by decide) rfl) (⟨rfl, by omega, by decide⟩) (congrFun (hA.2.1 2 (by decide)) d) ?_
          refine g_iconst (v := 4) hX (dk DX12_learnsBy 33 rfl) (by decide) ?_
          refine g_icmp_le (tgt := 64) hX (dk DX12_learnsBy 34 rfl) (by decide) (fun hc6 => ?_) (fun hc6 => ?_)
          · refine g_iconst (v := 0) hX (dk DX12_learnsBy 37 rfl) (by decide) ?_
            refine g_ireturn hX (dk DX12_learnsBy 38 rfl) rfl (by decide) (by decide) (by decide) ?_
            exact rI_of (by first | exact (@bI_t _ (dcL E d) (by unfold learnsF; grind)).symm | exact (@bI_f _ (dcL E d) (by unfold learnsF; grind)).symm) rfl rfl
          · refine g_iconst (v := 1) hX (dk DX12_learnsBy 35 rfl) (by decide) ?_
            refine g_goto (tgt := 65) hX (dk DX12_learnsBy 36 rfl) (by decide) ?_
            refine g_ireturn hX (dk DX12_learnsBy 38 rfl) rfl (by decide) (by decide) (by decide) ?_
            exact rI_of (by first | exact (@bI_t _ (dcL E d) (by unfold learnsF; grind)).symm | exact (@bI_f _ (dcL E d) (by unfold learnsF; grind)).symm) rfl rfl
  · refine g_aload_0 hX (dk DX12_learnsBy 6 rfl) ?_
    refine g_getRs (r := 1) hX (dk DX12_learnsBy 7 rfl) KX12 fX12_31 (by decide) rfl (MLt hM (by decide)) (MC hM) (MR hM 7 (by decide) rfl) ?_
    refine g_iload_1 hX (dk DX12_learnsBy 8 rfl) ?_
    refine v_iaload hX (dk DX12_learnsBy 9 rfl) (MLt hM (q := 1) (by decide)) (MS hM 1 (by decide) rfl) (⟨rfl, by omega, by decide⟩) (congrFun (hA.2.1 1 (by decide)) d) ?_
    refine g_bipush (v := 6) hX (dk DX12_learnsBy 10 rfl) (by decide) ?_
    refine g_icmp_ne (tgt := 30) hX (dk DX12_learnsBy 11 rfl) (by decide) (fun hc7 => ?_) (fun hc7 => ?_)
    · refine g_aload_0 hX (dk DX12_learnsBy 17 rfl) ?_
      refine g_getRs (r := 1) hX (dk DX12_learnsBy 18 rfl) KX12 fX12_31 (by decide) rfl (MLt hM (by decide)) (MC hM) (MR hM 7 (by decide) rfl) ?_
      refine g_iload_1 hX (dk DX12_learnsBy 19 rfl) ?_
      refine v_iaload hX (dk DX12_learnsBy 20 rfl) (MLt hM (q := 1) (by decide)) (MS hM 1 (by decide) rfl) (⟨rfl, by omega, by decide⟩) (congrFun (hA.2.1 1 (by decide)) d) ?_
      refine g_iconst (v := 2) hX (dk DX12_learnsBy 21 rfl) (by decide) ?_
      refine g_icmp_eq (tgt := 50) hX (dk DX12_learnsBy 22 rfl) (by decide) (fun hc8 => ?_) (fun hc8 => ?_)
      · refine g_aload_0 hX (dk DX12_learnsBy 29 rfl) ?_
        refine g_getRs (r := 2) hX (dk DX12_learnsBy 30 rfl) KX12 fX12_35 (by decide) rfl (MLt hM (by decide)) (MC hM) (MR hM 8 (by decide) rfl) ?_
        refine g_iload_1 hX (dk DX12_learnsBy 31 rfl) ?_
        refine v_iaload hX (dk DX12_learnsBy 32 rfl) (MLt hM (q := 2) (by decide)) (MS hM 2 (by decide) rfl) (⟨rfl, by omega, by decide⟩) (congrFun (hA.2.1 2 (by decide)) d) ?_
        refine g_iconst (v := 4) hX (dk DX12_learnsBy 33 rfl) (by decide) ?_
        refine g_icmp_le (tgt := 64) hX (dk DX12_learnsBy 34 rfl) (by decide) (fun hc9 => ?_) (fun hc9 => ?_)
        · refine g_iconst (v := 0) hX (dk DX12_learnsBy 37 rfl) (by decide) ?_
          refine g_ireturn hX (dk DX12_learnsBy 38 rfl) rfl (by decide) (by decide) (by decide) ?_
          exact rI_of (by first | exact (@bI_t _ (dcL E d) (by unfold learnsF; grind)).symm | exact (@bI_f _ (dcL E d) (by unfold learnsF; grind)).symm) rfl rfl
        · refine g_iconst (v := 1) hX (dk DX12_learnsBy 35 rfl) (by decide) ?_
          refine g_goto (tgt := 65) hX (dk DX12_learnsBy 36 rfl) (by decide) ?_
          refine g_ireturn hX (dk DX12_learnsBy 38 rfl) rfl (by decide) (by decide) (by decide) ?_
          exact rI_of (by first | exact (@bI_t _ (dcL E d) (by unfold learnsF; grind)).symm | exact (@bI_f _ (dcL E d) (by unfold learnsF; grind)).symm) rfl rfl
      · refine g_aload_0 hX (dk DX12_learnsBy 23 rfl) ?_
        refine g_getRs (r := 1) hX (dk DX12_learnsBy 24 rfl) KX12 fX12_31 (by decide) rfl (MLt hM (by decide)) (MC hM) (MR hM 7 (by decide) rfl) ?_
        refine g_iload_1 hX (dk DX12_learnsBy 25 rfl) ?_
        refine v_iaload hX (dk DX12_learnsBy 26 rfl) (MLt hM (q := 1) (by decide)) (MS hM 1 (by decide) rfl) (⟨rfl, by omega, by decide⟩) (congrFun (hA.2.1 1 (by decide)) d) ?_
        refine g_iconst (v := 5) hX (dk DX12_learnsBy 27 rfl) (by decide) ?_
        refine g_icmp_ne (tgt := 64) hX (dk DX12_learnsBy 28 rfl) (by decide) (fun hc10 => ?_) (fun hc10 => ?_)
        · refine g_iconst (v := 0) hX (dk DX12_learnsBy 37 rfl) (by decide) ?_
          refine g_ireturn hX (dk DX12_learnsBy 38 rfl) rfl (by decide) (by decide) (by decide) ?_
          exact rI_of (by first | exact (@bI_t _ (dcL E d) (by unfold learnsF; grind)).symm | exact (@bI_f _ (dcL E d) (by unfold learnsF; grind)).symm) rfl rfl
        · refine g_aload_0 hX (dk DX12_learnsBy 29 rfl) ?_
          refine g_getRs (r := 2) hX (dk DX12_learnsBy 30 rfl) KX12 fX12_35 (by decide) rfl (MLt hM (by decide)) (MC hM) (MR hM 8 (by decide) rfl) ?_
          refine g_iload_1 hX (dk DX12_learnsBy 31 rfl) ?_
          refine v_iaload hX (dk DX12_learnsBy 32 rfl) (MLt hM (q := 2) (by decide)) (MS hM 2 (by decide) rfl) (⟨rfl, by omega, by decide⟩) (congrFun (hA.2.1 2 (by decide)) d) ?_
          refine g_iconst (v := 4) hX (dk DX12_learnsBy 33 rfl) (by decide) ?_
          refine g_icmp_le (tgt := 64) hX (dk DX12_learnsBy 34 rfl) (by decide) (fun hc11 => ?_) (fun hc11 => ?_)
          · refine g_iconst (v := 0) hX (dk DX12_learnsBy 37 rfl) (by decide) ?_
            refine g_ireturn hX (dk DX12_learnsBy 38 rfl) rfl (by decide) (by decide) (by decide) ?_
            exact rI_of (by first | exact (@bI_t _ (dcL E d) (by unfold learnsF; grind)).symm | exact (@bI_f _ (dcL E d) (by unfold learnsF; grind)).symm) rfl rfl
          · refine g_iconst (v := 1) hX (dk DX12_learnsBy 35 rfl) (by decide) ?_
            refine g_goto (tgt := 65) hX (dk DX12_learnsBy 36 rfl) (by decide) ?_
            refine g_ireturn hX (dk DX12_learnsBy 38 rfl) rfl (by decide) (by decide) (by decide) ?_
            exact rI_of (by first | exact (@bI_t _ (dcL E d) (by unfold learnsF; grind)).symm | exact (@bI_f _ (dcL E d) (by unfold learnsF; grind)).symm) rfl rfl
    · refine g_aload_0 hX (dk DX12_learnsBy 12 rfl) ?_
      refine g_getRs (r := 2) hX (dk DX12_learnsBy 13 rfl) KX12 fX12_35 (by decide) rfl (MLt hM (by decide)) (MC hM) (MR hM 8 (by decide) rfl) ?_
      refine g_iload_1 hX (dk DX12_learnsBy 14 rfl) ?_
      refine v_iaload hX (dk DX12_learnsBy 15 rfl) (MLt hM (q := 2) (by decide)) (MS hM 2 (by decide) rfl) (⟨rfl, by omega, by decide⟩) (congrFun (hA.2.1 2 (by decide)) d) ?_
      refine g_if_eq (tgt := 60) hX (dk DX12_learnsBy 16 rfl) (by decide) (fun hc12 => ?_) (fun hc12 => ?_)
      · refine g_iconst (v := 1) hX (dk DX12_learnsBy 35 rfl) (by decide) ?_
        refine g_goto (tgt := 65) hX (dk DX12_learnsBy 36 rfl) (by decide) ?_
        refine g_ireturn hX (dk DX12_learnsBy 38 rfl) rfl (by decide) (by decide) (by decide) ?_
        exact rI_of (by first | exact (@bI_t _ (dcL E d) (by unfold learnsF; grind)).symm | exact (@bI_f _ (dcL E d) (by unfold learnsF; grind)).symm) rfl rfl
      · refine g_aload_0 hX (dk DX12_learnsBy 17 rfl) ?_
        refine g_getRs (r := 1) hX (dk DX12_learnsBy 18 rfl) KX12 fX12_31 (by decide) rfl (MLt hM (by decide)) (MC hM) (MR hM 7 (by decide) rfl) ?_
        refine g_iload_1 hX (dk DX12_learnsBy 19 rfl) ?_
        refine v_iaload hX (dk DX12_learnsBy 20 rfl) (MLt hM (q := 1) (by decide)) (MS hM 1 (by decide) rfl) (⟨rfl, by omega, by decide⟩) (congrFun (hA.2.1 1 (by decide)) d) ?_
        refine g_iconst (v := 2) hX (dk DX12_learnsBy 21 rfl) (by decide) ?_
        refine g_icmp_eq (tgt := 50) hX (dk DX12_learnsBy 22 rfl) (by decide) (fun hc13 => ?_) (fun hc13 => ?_)
        · refine g_aload_0 hX (dk DX12_learnsBy 29 rfl) ?_
          refine g_getRs (r := 2) hX (dk DX12_learnsBy 30 rfl) KX12 fX12_35 (by decide) rfl (MLt hM (by decide)) (MC hM) (MR hM 8 (by decide) rfl) ?_
          refine g_iload_1 hX (dk DX12_learnsBy 31 rfl) ?_
          refine v_iaload hX (dk DX12_learnsBy 32 rfl) (MLt hM (q := 2) (by decide)) (MS hM 2 (by decide) rfl) (⟨rfl, by omega, by decide⟩) (congrFun (hA.2.1 2 (by decide)) d) ?_
          refine g_iconst (v := 4) hX (dk DX12_learnsBy 33 rfl) (by decide) ?_
          refine g_icmp_le (tgt := 64) hX (dk DX12_learnsBy 34 rfl) (by decide) (fun hc14 => ?_) (fun hc14 => ?_)
          · refine g_iconst (v := 0) hX (dk DX12_learnsBy 37 rfl) (by decide) ?_
            refine g_ireturn hX (dk DX12_learnsBy 38 rfl) rfl (by decide) (by decide) (by decide) ?_
            exact rI_of (by first | exact (@bI_t _ (dcL E d) (by unfold learnsF; grind)).symm | exact (@bI_f _ (dcL E d) (by unfold learnsF; grind)).symm) rfl rfl
          · refine g_iconst (v := 1) hX (dk DX12_learnsBy 35 rfl) (by decide) ?_
            refine g_goto (tgt := 65) hX (dk DX12_learnsBy 36 rfl) (by decide) ?_
            refine g_ireturn hX (dk DX12_learnsBy 38 rfl) rfl (by decide) (by decide) (by decide) ?_
            exact rI_of (by first | exact (@bI_t _ (dcL E d) (by unfold learnsF; grind)).symm | exact (@bI_f _ (dcL E d) (by unfold learnsF; grind)).symm) rfl rfl
        · refine g_aload_0 hX (dk DX12_learnsBy 23 rfl) ?_
          refine g_getRs (r := 1) hX (dk DX12_learnsBy 24 rfl) KX12 fX12_31 (by decide) rfl (MLt hM (by decide)) (MC hM) (MR hM 7 (by decide) rfl) ?_
          refine g_iload_1 hX (dk DX12_learnsBy 25 rfl) ?_
          refine v_iaload hX (dk DX12_learnsBy 26 rfl) (MLt hM (q := 1) (by decide)) (MS hM 1 (by decide) rfl) (⟨rfl, by omega, by decide⟩) (congrFun (hA.2.1 1 (by decide)) d) ?_
          refine g_iconst (v := 5) hX (dk DX12_learnsBy 27 rfl) (by decide) ?_
          refine g_icmp_ne (tgt := 64) hX (dk DX12_learnsBy 28 rfl) (by decide) (fun hc15 => ?_) (fun hc15 => ?_)
          · refine g_iconst (v := 0) hX (dk DX12_learnsBy 37 rfl) (by decide) ?_
            refine g_ireturn hX (dk DX12_learnsBy 38 rfl) rfl (by decide) (by decide) (by decide) ?_
            exact rI_of (by first | exact (@bI_t _ (dcL E d) (by unfold learnsF; grind)).symm | exact (@bI_f _ (dcL E d) (by unfold learnsF; grind)).symm) rfl rfl
          · refine g_aload_0 hX (dk DX12_learnsBy 29 rfl) ?_
            refine g_getRs (r := 2) hX (dk DX12_learnsBy 30 rfl) KX12 fX12_35 (by decide) rfl (MLt hM (by decide)) (MC hM) (MR hM 8 (by decide) rfl) ?_
            refine g_iload_1 hX (dk DX12_learnsBy 31 rfl) ?_
            refine v_iaload hX (dk DX12_learnsBy 32 rfl) (MLt hM (q := 2) (by decide)) (MS hM 2 (by decide) rfl) (⟨rfl, by omega, by decide⟩) (congrFun (hA.2.1 2 (by decide)) d) ?_
            refine g_iconst (v := 4) hX (dk DX12_learnsBy 33 rfl) (by decide) ?_
            refine g_icmp_le (tgt := 64) hX (dk DX12_learnsBy 34 rfl) (by decide) (fun hc16 => ?_) (fun hc16 => ?_)
            · refine g_iconst (v := 0) hX (dk DX12_learnsBy 37 rfl) (by decide) ?_
              refine g_ireturn hX (dk DX12_learnsBy 38 rfl) rfl (by decide) (by decide) (by decide) ?_
              exact rI_of (by first | exact (@bI_t _ (dcL E d) (by unfold learnsF; grind)).symm | exact (@bI_f _ (dcL E d) (by unfold learnsF; grind)).symm) rfl rfl
            · refine g_iconst (v := 1) hX (dk DX12_learnsBy 35 rfl) (by decide) ?_
              refine g_goto (tgt := 65) hX (dk DX12_learnsBy 36 rfl) (by decide) ?_
              refine g_ireturn hX (dk DX12_learnsBy 38 rfl) rfl (by decide) (by decide) (by decide) ?_
              exact rI_of (by first | exact (@bI_t _ (dcL E d) (by unfold learnsF; grind)).symm | exact (@bI_f _ (dcL E d) (by unfold learnsF; grind)).symm) rfl rfl

set_option maxRecDepth 8000 in
set_option maxHeartbeats 4000000 in
theorem c_X12_begins {G : Gt} (hG : Gok G) {I : It} {h : Ht} (hM : HM h) {a b : Int32} : Con G (1) 0 0 mX12_begins [.ref 0, .int a, .int b] I h (qV (fun I' h' => TS I' b (0, a, 0, 0, 0, -5, -5) ∧ Fr [34, 35, 36, 37, 38, 39, 40] [] I I' ∧ h' = h)) := by
  refine con_intro (own := RX12) (lo0 := [some (.ref 0), some (.int a), some (.int b)]) hG rfl pl_X12 (Nat.le_of_ble_eq_true rfl) rfl (fun X hX => ?_)
  refine g_aload_0 hX (dk DX12_begins 0 rfl) ?_
  refine g_iload_1 hX (dk DX12_begins 1 rfl) ?_
  refine g_putI hX (dk DX12_begins 2 rfl) KX12 fX12_114 (by decide) rfl (MLt hM (by decide)) (MC hM) (Or.inl rfl) (rfl) (rfl) ?_
  refine g_aload_0 hX (dk DX12_begins 3 rfl) ?_
  refine g_iload_2 hX (dk DX12_begins 4 rfl) ?_
  refine g_putI hX (dk DX12_begins 5 rfl) KX12 fX12_117 (by decide) rfl (MLt hM (by decide)) (MC hM) (Or.inl rfl) (rfl) (rfl) ?_
  refine g_aload_0 hX (dk DX12_begins 6 rfl) ?_
  refine g_iconst (v := 0) hX (dk DX12_begins 7 rfl) (by decide) ?_
  refine g_putI hX (dk DX12_begins 8 rfl) KX12 fX12_120 (by decide) rfl (MLt hM (by decide)) (MC hM) (Or.inl rfl) (rfl) (rfl) ?_
  refine g_aload_0 hX (dk DX12_begins 9 rfl) ?_
  refine g_iconst (v := 0) hX (dk DX12_begins 10 rfl) (by decide) ?_
  refine g_putI hX (dk DX12_begins 11 rfl) KX12 fX12_123 (by decide) rfl (MLt hM (by decide)) (MC hM) (Or.inl rfl) (rfl) (rfl) ?_
  refine g_aload_0 hX (dk DX12_begins 12 rfl) ?_
  refine g_iconst (v := 0) hX (dk DX12_begins 13 rfl) (by decide) ?_
  refine g_putI hX (dk DX12_begins 14 rfl) KX12 fX12_126 (by decide) rfl (MLt hM (by decide)) (MC hM) (Or.inl rfl) (rfl) (rfl) ?_
  refine g_aload_0 hX (dk DX12_begins 15 rfl) ?_
  refine g_bipush (v := -5) hX (dk DX12_begins 16 rfl) (by decide) ?_
  refine g_putI hX (dk DX12_begins 17 rfl) KX12 fX12_129 (by decide) rfl (MLt hM (by decide)) (MC hM) (Or.inl rfl) (rfl) (rfl) ?_
  refine g_aload_0 hX (dk DX12_begins 18 rfl) ?_
  refine g_bipush (v := -5) hX (dk DX12_begins 19 rfl) (by decide) ?_
  refine g_putI hX (dk DX12_begins 20 rfl) KX12 fX12_132 (by decide) rfl (MLt hM (by decide)) (MC hM) (Or.inl rfl) (rfl) (rfl) ?_
  refine g_return hX (dk DX12_begins 21 rfl) rfl (by decide) (by decide) ?_
  exact qV_of ⟨by simp [TS, upI], (((((((Fr.rf).pf (by decide)).pf (by decide)).pf (by decide)).pf (by decide)).pf (by decide)).pf (by decide)).pf (by decide), rfl⟩

theorem stix {wn k i : Nat} (h1 : k ≤ wn) (h2 : wn ≤ 20000) (hi : i < 10) (hc : ¬ 100 ≤ nI wn - nI k) : idx (10 * (nI wn - nI k) + nI i) (10 * (wn - k) + i) 1000 := by
  rw [pk_sub h1] at hc ⊢
  have h3 : wn - k < 100 := by
    rcases Nat.lt_or_ge (wn - k) 100 with h | h
    · exact h
    · exact absurd (nI_le h (by omega)) hc
  exact ⟨by rw [show (10 : Int32) = nI 10 from rfl, pk_mul, nI_add], by omega, by decide⟩

set_option maxRecDepth 8000 in
set_option maxHeartbeats 4000000 in
theorem c_X12_goWeek {G : Gt} (hG : Gok G) {I : It} {h : Ht} (hM : HM h) {E : It} (hE : Inv E) (hA : Ag E I) {may idl kn co st ca fw fd : Int32} {wn : Nat} (hw1 : wk E ≤ wn) (hw2 : wn ≤ 20000) (hT : TS I idl (0, kn, co, st, ca, fw, fd)) : Con G (5) 0 0 mX12_goWeek [.ref 0, .int (nI wn), .int may] I h (qV (fun I' h' => TS I' idl (wkRun E idl wn may (cnt E) 0 (0, kn, co, st, ca, fw, fd)) ∧ Fr [34, 36, 37, 38, 39, 40] [18, 20] I I' ∧ h' = h)) := by
  refine con_intro (own := RX12) (lo0 := [some (.ref 0), some (.int (nI wn)), some (.int may), none, none]) hG rfl pl_X12 (Nat.le_of_ble_eq_true rfl) rfl (fun X hX => ?_)
  have hA0 := hA
  have hc10 := inv_cnt hE
  have loop5 : ∀ (k i : Nat) (had kn1 co1 st1 ca1 fw1 fd1 : Int32) (J : It), i + k = cnt E → wkRun E idl wn may k i (had, kn1, co1, st1, ca1, fw1, fd1) = wkRun E idl wn may (cnt E) 0 (0, kn, co, st, ca, fw, fd) → TS J idl (had, kn1, co1, st1, ca1, fw1, fd1) → Fr [34, 36, 37, 38, 39, 40] [18, 20] I J → GG G (5) 0 0 X (qV (fun I' h' => TS I' idl (wkRun E idl wn may (cnt E) 0 (0, kn, co, st, ca, fw, fd)) ∧ Fr [34, 36, 37, 38, 39, 40] [18, 20] I I' ∧ h' = h)) 5 [some (.ref 0), some (.int (nI wn)), some (.int may), some (.int had), some (.int (nI i))] [] (J) (h) 0 0 := by
    intro k
    induction k using Nat.strongRecOn with | _ k ih => ?_
    intro i had kn1 co1 st1 ca1 fw1 fd1 J hk hv hT hfr
    have hA := Ag.keep hA0 hfr (by decide) (by decide)
    refine g_iload_4 hX (dk DX12_goWeek_0 4 rfl) ?_
    refine g_aload_0 hX (dk DX12_goWeek_0 5 rfl) ?_
    refine g_getIv hX (dk DX12_goWeek_0 6 rfl) KX12 fX12_7 (by decide) rfl (MLt hM (by decide)) (MC hM) (hA.1.1.trans hc10.1) ?_
    refine g_icmp_ge (tgt := 247) hX (dk DX12_goWeek_0 7 rfl) (by decide) (fun hc1 => ?_) (fun hc1 => ?_)
    · refine g_return hX (dk DX12_goWeek_2 9 rfl) rfl (by decide) (by decide) ?_
      have hk0 := cl_end hk (by omega) hc1
      subst hk0
      exact qV_of ⟨by rw [← hv]; exact hT, hfr, rfl⟩
    · obtain ⟨k, rfl⟩ := cl_go hk (by omega) hc1
      have hi : i < cnt E := by omega
      have hi10 : i < 10 := by omega
      refine g_aload_0 hX (dk DX12_goWeek_0 8 rfl) ?_
      refine g_iload_4 hX (dk DX12_goWeek_0 9 rfl) ?_
      refine g_iload_1 hX (dk DX12_goWeek_0 10 rfl) ?_
      refine g_c3I hX sX12_goWeek_18 (by decide) (Nat.le_of_ble_eq_true rfl) (rc0 rfl (MLt hM (by decide)) (MC hM)) (by decide) (by decide) (c_X12_comes hG hM hE hA hi) ?_
      refine g_ifb_ne (tgt := 27) hX (dk DX12_goWeek_0 12 rfl) (by decide) (fun hc2 => ?_) (fun hc2 => ?_)
      · have hcm := hc2
        refine g_aload_0 hX (dk DX12_goWeek_0 14 rfl) ?_
        refine g_aload_0 hX (dk DX12_goWeek_0 15 rfl) ?_
        refine g_getIv hX (dk DX12_goWeek_0 16 rfl) KX12 fX12_117 (by decide) rfl (MLt hM (by decide)) (MC hM) (hT.2.1) ?_
        refine g_iload_4 hX (dk DX12_goWeek_0 17 rfl) ?_
        refine g_c3I hX sX12_goWeek_34 (by decide) (Nat.le_of_ble_eq_true rfl) (rc0 rfl (MLt hM (by decide)) (MC hM)) (by decide) (by decide) (c_X12_has hG) ?_
        refine g_ifb_eq (tgt := 70) hX (dk DX12_goWeek_0 19 rfl) (by decide) (fun hc3 => ?_) (fun hc3 => ?_)
        · have hid := hc3
          refine g_aload_0 hX (dk DX12_goWeek_0 35 rfl) ?_
          refine g_aload_0 hX (dk DX12_goWeek_0 36 rfl) ?_
          refine g_getIv hX (dk DX12_goWeek_0 37 rfl) KX12 fX12_114 (by decide) rfl (MLt hM (by decide)) (MC hM) (hT.1) ?_
          refine g_iload_4 hX (dk DX12_goWeek_0 38 rfl) ?_
          refine g_c3I hX sX12_goWeek_77 (by decide) (Nat.le_of_ble_eq_true rfl) (rc0 rfl (MLt hM (by decide)) (MC hM)) (by decide) (by decide) (c_X12_has hG) ?_
          refine g_ifb_eq (tgt := 86) hX (dk DX12_goWeek_0 40 rfl) (by decide) (fun hc4 => ?_) (fun hc4 => ?_)
          · have hkn := hc4
            refine g_aload_0 hX (dk DX12_goWeek_0 42 rfl) ?_
            refine g_dup hX (dk DX12_goWeek_0 43 rfl) rfl ?_
            refine g_getIv hX (dk DX12_goWeek_0 44 rfl) KX12 fX12_123 (by decide) rfl (MLt hM (by decide)) (MC hM) (hT.2.2.2.1) ?_
            refine g_iconst (v := 1) hX (dk DX12_goWeek_0 45 rfl) (by decide) ?_
            refine g_iadd hX (dk DX12_goWeek_0 46 rfl) ?_
            refine g_putI hX (dk DX12_goWeek_0 47 rfl) KX12 fX12_123 (by decide) rfl (MLt hM (by decide)) (MC hM) (Or.inl rfl) (rfl) (rfl) ?_
            refine g_gen (fun J2 hJ2 => ?_)
            have hT : TS J2 idl (had, kn1, co1, st1 + 1, ca1, fw1, fd1) := by rw [hJ2]; exact hT.st
            have hfr : Fr [34, 36, 37, 38, 39, 40] [18, 20] I J2 := by rw [hJ2]; exact hfr.pf (by decide)
            have hA := Ag.keep hA0 hfr (by decide) (by decide)
            refine g_aload_0 hX (dk DX12_goWeek_0 48 rfl) ?_
            refine g_getIv hX (dk DX12_goWeek_0 49 rfl) KX12 fX12_129 (by decide) rfl (MLt hM (by decide)) (MC hM) (hT.2.2.2.2.2.1) ?_
            refine g_if_ge (tgt := 114) hX (dk DX12_goWeek_0 50 rfl) (by decide) (fun hc5 => ?_) (fun hc5 => ?_)
            · first
              | have hfe : (if fw1 < 0 then nI wn else fw1) = nI wn ∧ (if fw1 < 0 then nI i else fd1) = nI i := ⟨if_pos hf1, if_pos hf1⟩
              | have hfe : (if fw1 < 0 then nI wn else fw1) = fw1 ∧ (if fw1 < 0 then nI i else fd1) = fd1 := ⟨if_neg (Int32.not_lt.mpr hc5), if_neg (Int32.not_lt.mpr hc5)⟩
              have hT : TS J2 idl (had, kn1, co1, st1 + 1, ca1, (if fw1 < 0 then nI wn else fw1), (if fw1 < 0 then nI i else fd1)) := by rw [hfe.1, hfe.2]; exact hT
              refine g_iload_1 hX (dk DX12_goWeek_0 57 rfl) ?_
              refine g_aload_0 hX (dk DX12_goWeek_0 58 rfl) ?_
              refine g_getIv hX (dk DX12_goWeek_0 59 rfl) KX12 fX12_13 (by decide) rfl (MLt hM (by decide)) (MC hM) (hA.1.2.1.trans (inv_wk hE).1) ?_
              refine g_isub hX (dk DX12_goWeek_1 0 rfl) ?_
              refine g_bipush (v := 100) hX (dk DX12_goWeek_1 1 rfl) (by decide) ?_
              refine g_icmp_ge (tgt := 143) hX (dk DX12_goWeek_1 2 rfl) (by decide) (fun hc6 => ?_) (fun hc6 => ?_)
              · refine g_iload_3 hX (dk DX12_goWeek_1 15 rfl) ?_
                refine g_iload_2 hX (dk DX12_goWeek_1 16 rfl) ?_
                refine g_icmp_ge (tgt := 205) hX (dk DX12_goWeek_1 17 rfl) (by decide) (fun hc7 => ?_) (fun hc7 => ?_)
                · have hm : ¬ had < may := Int32.not_lt.mpr hc7
                  refine g_aload_0 hX (dk DX12_goWeek_1 48 rfl) ?_
                  refine g_dup hX (dk DX12_goWeek_1 49 rfl) rfl ?_
                  refine g_getIv hX (dk DX12_goWeek_1 50 rfl) KX12 fX12_120 (by decide) rfl (MLt hM (by decide)) (MC hM) (hT.2.2.1) ?_
                  refine g_aload_0 hX (dk DX12_goWeek_1 51 rfl) ?_
                  refine g_iload_4 hX (dk DX12_goWeek_1 52 rfl) ?_
                  refine g_iload_1 hX (dk DX12_goWeek_1 53 rfl) ?_
                  refine g_c3q hX sX12_goWeek_214 (by decide) (Nat.le_of_ble_eq_true rfl) (rc0 rfl (MLt hM (by decide)) (MC hM)) (by decide) (by decide) (c_X12_dear hG hM hE hA hi10) ?_
                  rintro _ J4 _ ⟨rfl, hfr4, rfl⟩
                  have hT := hT.fr hfr4 (by decide)
                  have hfr := hfr.trans (hfr4.mono (F' := [34, 36, 37, 38, 39, 40]) (C' := [18, 20]) (by decide) (by decide))
                  have hA := Ag.keep hA0 hfr (by decide) (by decide)
                  refine g_iadd hX (dk DX12_goWeek_1 55 rfl) ?_
                  refine g_putI hX (dk DX12_goWeek_1 56 rfl) KX12 fX12_120 (by decide) rfl (MLt hM (by decide)) (MC hM) (Or.inl rfl) (rfl) (rfl) ?_
                  refine g_gen (fun J2 hJ2 => ?_)
                  have hT : TS J2 idl (had, kn1, co1 + dearF E i (nI wn), st1 + 1, ca1, (if fw1 < 0 then nI wn else fw1), (if fw1 < 0 then nI i else fd1)) := by rw [hJ2]; exact hT.co
                  have hfr : Fr [34, 36, 37, 38, 39, 40] [18, 20] I J2 := by rw [hJ2]; exact hfr.pf (by decide)
                  have hA := Ag.keep hA0 hfr (by decide) (by decide)
                  refine g_aload_0 hX (dk DX12_goWeek_1 57 rfl) ?_
                  refine g_aload_0 hX (dk DX12_goWeek_1 58 rfl) ?_
                  refine g_aload_0 hX (dk DX12_goWeek_1 59 rfl) ?_
                  refine g_getIv hX (dk DX12_goWeek_2 0 rfl) KX12 fX12_114 (by decide) rfl (MLt hM (by decide)) (MC hM) (hT.1) ?_
                  refine g_iload_4 hX (dk DX12_goWeek_2 1 rfl) ?_
                  refine g_aload_0 hX (dk DX12_goWeek_2 2 rfl) ?_
                  refine g_iload_4 hX (dk DX12_goWeek_2 3 rfl) ?_
                  refine g_c2I hX sX12_goWeek_232 (by decide) (Nat.le_of_ble_eq_true rfl) (rc0 rfl (MLt hM (by decide)) (MC hM)) (by decide) (by decide) (c_X12_learnsBy hG hM hA hi10) ?_
                  refine g_c4I hX sX12_goWeek_235 (by decide) (Nat.le_of_ble_eq_true rfl) (rc0 rfl (MLt hM (by decide)) (MC hM)) (by decide) (by decide) (c_X12_with hG) ?_
                  refine g_putI hX (dk DX12_goWeek_2 6 rfl) KX12 fX12_114 (by decide) rfl (MLt hM (by decide)) (MC hM) (Or.inl rfl) (rfl) (rfl) ?_
                  refine g_gen (fun J2 hJ2 => ?_)
                  have hT : TS J2 idl (had, withI kn1 (nI i) (@bI (learnsF E i) (dcL E i)), co1 + dearF E i (nI wn), st1 + 1, ca1, (if fw1 < 0 then nI wn else fw1), (if fw1 < 0 then nI i else fd1)) := by rw [hJ2]; exact hT.kn
                  have hfr : Fr [34, 36, 37, 38, 39, 40] [18, 20] I J2 := by rw [hJ2]; exact hfr.pf (by decide)
                  have hstep : wkStep E idl wn may i (had, kn1, co1, st1, ca1, fw1, fd1) = (had, withI kn1 (nI i) (@bI (learnsF E i) (dcL E i)), co1 + dearF E i (nI wn), st1 + 1, ca1, (if fw1 < 0 then nI wn else fw1), (if fw1 < 0 then nI i else fd1)) := by simp only [wkStep]; rw [if_neg (fun z => z hcm), if_neg hid, if_neg hkn, if_neg hm]
                  refine g_iinc_4 hX (dk DX12_goWeek_2 7 rfl) (nI_1 i) (by decide) rfl ?_
                  refine g_goto (tgt := 5) hX (dk DX12_goWeek_2 8 rfl) (by decide) ?_
                  exact ih k (by omega) (i + 1) _ _ _ _ _ _ _ _ (by omega) (by rw [← hv, wkRun_s, hstep]) hT hfr
                · have hm : had < may := Int32.not_le.mp hc7
                  refine g_iinc_3 (v := had + 1) hX (dk DX12_goWeek_1 18 rfl) (rfl) (by decide) rfl ?_
                  refine g_aload_0 hX (dk DX12_goWeek_1 19 rfl) ?_
                  refine g_dup hX (dk DX12_goWeek_1 20 rfl) rfl ?_
                  refine g_getIv hX (dk DX12_goWeek_1 21 rfl) KX12 fX12_126 (by decide) rfl (MLt hM (by decide)) (MC hM) (hT.2.2.2.2.1) ?_
                  refine g_iconst (v := 1) hX (dk DX12_goWeek_1 22 rfl) (by decide) ?_
                  refine g_iadd hX (dk DX12_goWeek_1 23 rfl) ?_
                  refine g_putI hX (dk DX12_goWeek_1 24 rfl) KX12 fX12_126 (by decide) rfl (MLt hM (by decide)) (MC hM) (Or.inl rfl) (rfl) (rfl) ?_
                  refine g_gen (fun J2 hJ2 => ?_)
                  have hT : TS J2 idl (had, kn1, co1, st1 + 1, ca1 + 1, (if fw1 < 0 then nI wn else fw1), (if fw1 < 0 then nI i else fd1)) := by rw [hJ2]; exact hT.ca
                  have hfr : Fr [34, 36, 37, 38, 39, 40] [18, 20] I J2 := by rw [hJ2]; exact hfr.pf (by decide)
                  have hA := Ag.keep hA0 hfr (by decide) (by decide)
                  refine g_aload_0 hX (dk DX12_goWeek_1 25 rfl) ?_
                  refine g_dup hX (dk DX12_goWeek_1 26 rfl) rfl ?_
                  refine g_getIv hX (dk DX12_goWeek_1 27 rfl) KX12 fX12_120 (by decide) rfl (MLt hM (by decide)) (MC hM) (hT.2.2.1) ?_
                  refine g_iconst (v := 1) hX (dk DX12_goWeek_1 28 rfl) (by decide) ?_
                  refine g_iadd hX (dk DX12_goWeek_1 29 rfl) ?_
                  refine g_putI hX (dk DX12_goWeek_1 30 rfl) KX12 fX12_120 (by decide) rfl (MLt hM (by decide)) (MC hM) (Or.inl rfl) (rfl) (rfl) ?_
                  refine g_gen (fun J2 hJ2 => ?_)
                  have hT : TS J2 idl (had, kn1, co1 + 1, st1 + 1, ca1 + 1, (if fw1 < 0 then nI wn else fw1), (if fw1 < 0 then nI i else fd1)) := by rw [hJ2]; exact hT.co
                  have hfr : Fr [34, 36, 37, 38, 39, 40] [18, 20] I J2 := by rw [hJ2]; exact hfr.pf (by decide)
                  have hA := Ag.keep hA0 hfr (by decide) (by decide)
                  refine g_aload_0 hX (dk DX12_goWeek_1 31 rfl) ?_
                  refine g_aload_0 hX (dk DX12_goWeek_1 32 rfl) ?_
                  refine g_aload_0 hX (dk DX12_goWeek_1 33 rfl) ?_
                  refine g_getIv hX (dk DX12_goWeek_1 34 rfl) KX12 fX12_114 (by decide) rfl (MLt hM (by decide)) (MC hM) (hT.1) ?_
                  refine g_iload_4 hX (dk DX12_goWeek_1 35 rfl) ?_
                  refine g_aload_0 hX (dk DX12_goWeek_1 36 rfl) ?_
                  refine g_getRs (r := 1) hX (dk DX12_goWeek_1 37 rfl) KX12 fX12_31 (by decide) rfl (MLt hM (by decide)) (MC hM) (MR hM 7 (by decide) rfl) ?_
                  refine g_iload_4 hX (dk DX12_goWeek_1 38 rfl) ?_
                  refine v_iaload hX (dk DX12_goWeek_1 39 rfl) (MLt hM (q := 1) (by decide)) (MS hM 1 (by decide) rfl) (⟨rfl, by omega, by decide⟩) (congrFun (hA.2.1 1 (by decide)) i) ?_
                  refine g_bipush (v := 6) hX (dk DX12_goWeek_1 40 rfl) (by decide) ?_
                  refine g_icmp_eq (tgt := 195) hX (dk DX12_goWeek_1 41 rfl) (by decide) (fun hc8 => ?_) (fun hc8 => ?_)
                  · have hV2 : bI (E 1 i ≠ 6) = 0 := bI_f (fun z => z hc8)
                    refine g_iconst (v := 0) hX (dk DX12_goWeek_1 44 rfl) (by decide) ?_
                    refine g_c4I hX sX12_goWeek_196 (by decide) (Nat.le_of_ble_eq_true rfl) (rc0 rfl (MLt hM (by decide)) (MC hM)) (by decide) (by decide) (c_X12_with hG) ?_
                    refine g_putI hX (dk DX12_goWeek_1 46 rfl) KX12 fX12_114 (by decide) rfl (MLt hM (by decide)) (MC hM) (Or.inl rfl) (rfl) (rfl) ?_
                    refine g_gen (fun J2 hJ2 => ?_)
                    have hT : TS J2 idl (had + 1, withI kn1 (nI i) (bI (E 1 i ≠ 6)), co1 + 1, st1 + 1, ca1 + 1, (if fw1 < 0 then nI wn else fw1), (if fw1 < 0 then nI i else fd1)) := by rw [hJ2, hV2]; exact hT.kn
                    have hfr : Fr [34, 36, 37, 38, 39, 40] [18, 20] I J2 := by rw [hJ2]; exact hfr.pf (by decide)
                    have hstep : wkStep E idl wn may i (had, kn1, co1, st1, ca1, fw1, fd1) = (had + 1, withI kn1 (nI i) (bI (E 1 i ≠ 6)), co1 + 1, st1 + 1, ca1 + 1, (if fw1 < 0 then nI wn else fw1), (if fw1 < 0 then nI i else fd1)) := by simp only [wkStep]; rw [if_neg (fun z => z hcm), if_neg hid, if_neg hkn, if_pos hm]
                    refine g_goto (tgt := 241) hX (dk DX12_goWeek_1 47 rfl) (by decide) ?_
                    refine g_iinc_4 hX (dk DX12_goWeek_2 7 rfl) (nI_1 i) (by decide) rfl ?_
                    refine g_goto (tgt := 5) hX (dk DX12_goWeek_2 8 rfl) (by decide) ?_
                    exact ih k (by omega) (i + 1) _ _ _ _ _ _ _ _ (by omega) (by rw [← hv, wkRun_s, hstep]) hT hfr
                  · have hV2 : bI (E 1 i ≠ 6) = 1 := bI_t hc8
                    refine g_iconst (v := 1) hX (dk DX12_goWeek_1 42 rfl) (by decide) ?_
                    refine g_goto (tgt := 196) hX (dk DX12_goWeek_1 43 rfl) (by decide) ?_
                    refine g_c4I hX sX12_goWeek_196 (by decide) (Nat.le_of_ble_eq_true rfl) (rc0 rfl (MLt hM (by decide)) (MC hM)) (by decide) (by decide) (c_X12_with hG) ?_
                    refine g_putI hX (dk DX12_goWeek_1 46 rfl) KX12 fX12_114 (by decide) rfl (MLt hM (by decide)) (MC hM) (Or.inl rfl) (rfl) (rfl) ?_
                    refine g_gen (fun J2 hJ2 => ?_)
                    have hT : TS J2 idl (had + 1, withI kn1 (nI i) (bI (E 1 i ≠ 6)), co1 + 1, st1 + 1, ca1 + 1, (if fw1 < 0 then nI wn else fw1), (if fw1 < 0 then nI i else fd1)) := by rw [hJ2, hV2]; exact hT.kn
                    have hfr : Fr [34, 36, 37, 38, 39, 40] [18, 20] I J2 := by rw [hJ2]; exact hfr.pf (by decide)
                    have hstep : wkStep E idl wn may i (had, kn1, co1, st1, ca1, fw1, fd1) = (had + 1, withI kn1 (nI i) (bI (E 1 i ≠ 6)), co1 + 1, st1 + 1, ca1 + 1, (if fw1 < 0 then nI wn else fw1), (if fw1 < 0 then nI i else fd1)) := by simp only [wkStep]; rw [if_neg (fun z => z hcm), if_neg hid, if_neg hkn, if_pos hm]
                    refine g_goto (tgt := 241) hX (dk DX12_goWeek_1 47 rfl) (by decide) ?_
                    refine g_iinc_4 hX (dk DX12_goWeek_2 7 rfl) (nI_1 i) (by decide) rfl ?_
                    refine g_goto (tgt := 5) hX (dk DX12_goWeek_2 8 rfl) (by decide) ?_
                    exact ih k (by omega) (i + 1) _ _ _ _ _ _ _ _ (by omega) (by rw [← hv, wkRun_s, hstep]) hT hfr
              · have hst9 := hc6
                refine g_aload_0 hX (dk DX12_goWeek_1 3 rfl) ?_
                refine g_getRs (r := 20) hX (dk DX12_goWeek_1 4 rfl) KX12 fX12_135 (by decide) rfl (MLt hM (by decide)) (MC hM) (MR hM 41 (by decide) rfl) ?_
                refine g_bipush (v := 10) hX (dk DX12_goWeek_1 5 rfl) (by decide) ?_
                refine g_iload_1 hX (dk DX12_goWeek_1 6 rfl) ?_
                refine g_aload_0 hX (dk DX12_goWeek_1 7 rfl) ?_
                refine g_getIv hX (dk DX12_goWeek_1 8 rfl) KX12 fX12_13 (by decide) rfl (MLt hM (by decide)) (MC hM) (hA.1.2.1.trans (inv_wk hE).1) ?_
                refine g_isub hX (dk DX12_goWeek_1 9 rfl) ?_
                refine g_imul hX (dk DX12_goWeek_1 10 rfl) ?_
                refine g_iload_4 hX (dk DX12_goWeek_1 11 rfl) ?_
                refine g_iadd hX (dk DX12_goWeek_1 12 rfl) ?_
                refine g_iconst (v := 1) hX (dk DX12_goWeek_1 13 rfl) (by decide) ?_
                refine i_zastore hX (dk DX12_goWeek_1 14 rfl) (MLt hM (q := 20) (by decide)) (MS hM 20 (by decide) rfl) (stix hw1 hw2 (by omega) hst9) ?_
                refine g_gen (fun J2 hJ2 => ?_)
                have hT : TS J2 idl (had, kn1, co1, st1 + 1, ca1, (if fw1 < 0 then nI wn else fw1), (if fw1 < 0 then nI i else fd1)) := by rw [hJ2]; exact hT.off (by decide)
                have hfr : Fr [34, 36, 37, 38, 39, 40] [18, 20] I J2 := by rw [hJ2]; exact hfr.pc (by decide) (by decide)
                have hA := Ag.keep hA0 hfr (by decide) (by decide)
                refine g_iload_3 hX (dk DX12_goWeek_1 15 rfl) ?_
                refine g_iload_2 hX (dk DX12_goWeek_1 16 rfl) ?_
                refine g_icmp_ge (tgt := 205) hX (dk DX12_goWeek_1 17 rfl) (by decide) (fun hc9 => ?_) (fun hc9 => ?_)
                · have hm : ¬ had < may := Int32.not_lt.mpr hc9
                  refine g_aload_0 hX (dk DX12_goWeek_1 48 rfl) ?_
                  refine g_dup hX (dk DX12_goWeek_1 49 rfl) rfl ?_
                  refine g_getIv hX (dk DX12_goWeek_1 50 rfl) KX12 fX12_120 (by decide) rfl (MLt hM (by decide)) (MC hM) (hT.2.2.1) ?_
                  refine g_aload_0 hX (dk DX12_goWeek_1 51 rfl) ?_
                  refine g_iload_4 hX (dk DX12_goWeek_1 52 rfl) ?_
                  refine g_iload_1 hX (dk DX12_goWeek_1 53 rfl) ?_
                  refine g_c3q hX sX12_goWeek_214 (by decide) (Nat.le_of_ble_eq_true rfl) (rc0 rfl (MLt hM (by decide)) (MC hM)) (by decide) (by decide) (c_X12_dear hG hM hE hA hi10) ?_
                  rintro _ J4 _ ⟨rfl, hfr4, rfl⟩
                  have hT := hT.fr hfr4 (by decide)
                  have hfr := hfr.trans (hfr4.mono (F' := [34, 36, 37, 38, 39, 40]) (C' := [18, 20]) (by decide) (by decide))
                  have hA := Ag.keep hA0 hfr (by decide) (by decide)
                  refine g_iadd hX (dk DX12_goWeek_1 55 rfl) ?_
                  refine g_putI hX (dk DX12_goWeek_1 56 rfl) KX12 fX12_120 (by decide) rfl (MLt hM (by decide)) (MC hM) (Or.inl rfl) (rfl) (rfl) ?_
                  refine g_gen (fun J2 hJ2 => ?_)
                  have hT : TS J2 idl (had, kn1, co1 + dearF E i (nI wn), st1 + 1, ca1, (if fw1 < 0 then nI wn else fw1), (if fw1 < 0 then nI i else fd1)) := by rw [hJ2]; exact hT.co
                  have hfr : Fr [34, 36, 37, 38, 39, 40] [18, 20] I J2 := by rw [hJ2]; exact hfr.pf (by decide)
                  have hA := Ag.keep hA0 hfr (by decide) (by decide)
                  refine g_aload_0 hX (dk DX12_goWeek_1 57 rfl) ?_
                  refine g_aload_0 hX (dk DX12_goWeek_1 58 rfl) ?_
                  refine g_aload_0 hX (dk DX12_goWeek_1 59 rfl) ?_
                  refine g_getIv hX (dk DX12_goWeek_2 0 rfl) KX12 fX12_114 (by decide) rfl (MLt hM (by decide)) (MC hM) (hT.1) ?_
                  refine g_iload_4 hX (dk DX12_goWeek_2 1 rfl) ?_
                  refine g_aload_0 hX (dk DX12_goWeek_2 2 rfl) ?_
                  refine g_iload_4 hX (dk DX12_goWeek_2 3 rfl) ?_
                  refine g_c2I hX sX12_goWeek_232 (by decide) (Nat.le_of_ble_eq_true rfl) (rc0 rfl (MLt hM (by decide)) (MC hM)) (by decide) (by decide) (c_X12_learnsBy hG hM hA hi10) ?_
                  refine g_c4I hX sX12_goWeek_235 (by decide) (Nat.le_of_ble_eq_true rfl) (rc0 rfl (MLt hM (by decide)) (MC hM)) (by decide) (by decide) (c_X12_with hG) ?_
                  refine g_putI hX (dk DX12_goWeek_2 6 rfl) KX12 fX12_114 (by decide) rfl (MLt hM (by decide)) (MC hM) (Or.inl rfl) (rfl) (rfl) ?_
                  refine g_gen (fun J2 hJ2 => ?_)
                  have hT : TS J2 idl (had, withI kn1 (nI i) (@bI (learnsF E i) (dcL E i)), co1 + dearF E i (nI wn), st1 + 1, ca1, (if fw1 < 0 then nI wn else fw1), (if fw1 < 0 then nI i else fd1)) := by rw [hJ2]; exact hT.kn
                  have hfr : Fr [34, 36, 37, 38, 39, 40] [18, 20] I J2 := by rw [hJ2]; exact hfr.pf (by decide)
                  have hstep : wkStep E idl wn may i (had, kn1, co1, st1, ca1, fw1, fd1) = (had, withI kn1 (nI i) (@bI (learnsF E i) (dcL E i)), co1 + dearF E i (nI wn), st1 + 1, ca1, (if fw1 < 0 then nI wn else fw1), (if fw1 < 0 then nI i else fd1)) := by simp only [wkStep]; rw [if_neg (fun z => z hcm), if_neg hid, if_neg hkn, if_neg hm]
                  refine g_iinc_4 hX (dk DX12_goWeek_2 7 rfl) (nI_1 i) (by decide) rfl ?_
                  refine g_goto (tgt := 5) hX (dk DX12_goWeek_2 8 rfl) (by decide) ?_
                  exact ih k (by omega) (i + 1) _ _ _ _ _ _ _ _ (by omega) (by rw [← hv, wkRun_s, hstep]) hT hfr
                · have hm : had < may := Int32.not_le.mp hc9
                  refine g_iinc_3 (v := had + 1) hX (dk DX12_goWeek_1 18 rfl) (rfl) (by decide) rfl ?_
                  refine g_aload_0 hX (dk DX12_goWeek_1 19 rfl) ?_
                  refine g_dup hX (dk DX12_goWeek_1 20 rfl) rfl ?_
                  refine g_getIv hX (dk DX12_goWeek_1 21 rfl) KX12 fX12_126 (by decide) rfl (MLt hM (by decide)) (MC hM) (hT.2.2.2.2.1) ?_
                  refine g_iconst (v := 1) hX (dk DX12_goWeek_1 22 rfl) (by decide) ?_
                  refine g_iadd hX (dk DX12_goWeek_1 23 rfl) ?_
                  refine g_putI hX (dk DX12_goWeek_1 24 rfl) KX12 fX12_126 (by decide) rfl (MLt hM (by decide)) (MC hM) (Or.inl rfl) (rfl) (rfl) ?_
                  refine g_gen (fun J2 hJ2 => ?_)
                  have hT : TS J2 idl (had, kn1, co1, st1 + 1, ca1 + 1, (if fw1 < 0 then nI wn else fw1), (if fw1 < 0 then nI i else fd1)) := by rw [hJ2]; exact hT.ca
                  have hfr : Fr [34, 36, 37, 38, 39, 40] [18, 20] I J2 := by rw [hJ2]; exact hfr.pf (by decide)
                  have hA := Ag.keep hA0 hfr (by decide) (by decide)
                  refine g_aload_0 hX (dk DX12_goWeek_1 25 rfl) ?_
                  refine g_dup hX (dk DX12_goWeek_1 26 rfl) rfl ?_
                  refine g_getIv hX (dk DX12_goWeek_1 27 rfl) KX12 fX12_120 (by decide) rfl (MLt hM (by decide)) (MC hM) (hT.2.2.1) ?_
                  refine g_iconst (v := 1) hX (dk DX12_goWeek_1 28 rfl) (by decide) ?_
                  refine g_iadd hX (dk DX12_goWeek_1 29 rfl) ?_
                  refine g_putI hX (dk DX12_goWeek_1 30 rfl) KX12 fX12_120 (by decide) rfl (MLt hM (by decide)) (MC hM) (Or.inl rfl) (rfl) (rfl) ?_
                  refine g_gen (fun J2 hJ2 => ?_)
                  have hT : TS J2 idl (had, kn1, co1 + 1, st1 + 1, ca1 + 1, (if fw1 < 0 then nI wn else fw1), (if fw1 < 0 then nI i else fd1)) := by rw [hJ2]; exact hT.co
                  have hfr : Fr [34, 36, 37, 38, 39, 40] [18, 20] I J2 := by rw [hJ2]; exact hfr.pf (by decide)
                  have hA := Ag.keep hA0 hfr (by decide) (by decide)
                  refine g_aload_0 hX (dk DX12_goWeek_1 31 rfl) ?_
                  refine g_aload_0 hX (dk DX12_goWeek_1 32 rfl) ?_
                  refine g_aload_0 hX (dk DX12_goWeek_1 33 rfl) ?_
                  refine g_getIv hX (dk DX12_goWeek_1 34 rfl) KX12 fX12_114 (by decide) rfl (MLt hM (by decide)) (MC hM) (hT.1) ?_
                  refine g_iload_4 hX (dk DX12_goWeek_1 35 rfl) ?_
                  refine g_aload_0 hX (dk DX12_goWeek_1 36 rfl) ?_
                  refine g_getRs (r := 1) hX (dk DX12_goWeek_1 37 rfl) KX12 fX12_31 (by decide) rfl (MLt hM (by decide)) (MC hM) (MR hM 7 (by decide) rfl) ?_
                  refine g_iload_4 hX (dk DX12_goWeek_1 38 rfl) ?_
                  refine v_iaload hX (dk DX12_goWeek_1 39 rfl) (MLt hM (q := 1) (by decide)) (MS hM 1 (by decide) rfl) (⟨rfl, by omega, by decide⟩) (congrFun (hA.2.1 1 (by decide)) i) ?_
                  refine g_bipush (v := 6) hX (dk DX12_goWeek_1 40 rfl) (by decide) ?_
                  refine g_icmp_eq (tgt := 195) hX (dk DX12_goWeek_1 41 rfl) (by decide) (fun hc10 => ?_) (fun hc10 => ?_)
                  · have hV2 : bI (E 1 i ≠ 6) = 0 := bI_f (fun z => z hc10)
                    refine g_iconst (v := 0) hX (dk DX12_goWeek_1 44 rfl) (by decide) ?_
                    refine g_c4I hX sX12_goWeek_196 (by decide) (Nat.le_of_ble_eq_true rfl) (rc0 rfl (MLt hM (by decide)) (MC hM)) (by decide) (by decide) (c_X12_with hG) ?_
                    refine g_putI hX (dk DX12_goWeek_1 46 rfl) KX12 fX12_114 (by decide) rfl (MLt hM (by decide)) (MC hM) (Or.inl rfl) (rfl) (rfl) ?_
                    refine g_gen (fun J2 hJ2 => ?_)
                    have hT : TS J2 idl (had + 1, withI kn1 (nI i) (bI (E 1 i ≠ 6)), co1 + 1, st1 + 1, ca1 + 1, (if fw1 < 0 then nI wn else fw1), (if fw1 < 0 then nI i else fd1)) := by rw [hJ2, hV2]; exact hT.kn
                    have hfr : Fr [34, 36, 37, 38, 39, 40] [18, 20] I J2 := by rw [hJ2]; exact hfr.pf (by decide)
                    have hstep : wkStep E idl wn may i (had, kn1, co1, st1, ca1, fw1, fd1) = (had + 1, withI kn1 (nI i) (bI (E 1 i ≠ 6)), co1 + 1, st1 + 1, ca1 + 1, (if fw1 < 0 then nI wn else fw1), (if fw1 < 0 then nI i else fd1)) := by simp only [wkStep]; rw [if_neg (fun z => z hcm), if_neg hid, if_neg hkn, if_pos hm]
                    refine g_goto (tgt := 241) hX (dk DX12_goWeek_1 47 rfl) (by decide) ?_
                    refine g_iinc_4 hX (dk DX12_goWeek_2 7 rfl) (nI_1 i) (by decide) rfl ?_
                    refine g_goto (tgt := 5) hX (dk DX12_goWeek_2 8 rfl) (by decide) ?_
                    exact ih k (by omega) (i + 1) _ _ _ _ _ _ _ _ (by omega) (by rw [← hv, wkRun_s, hstep]) hT hfr
                  · have hV2 : bI (E 1 i ≠ 6) = 1 := bI_t hc10
                    refine g_iconst (v := 1) hX (dk DX12_goWeek_1 42 rfl) (by decide) ?_
                    refine g_goto (tgt := 196) hX (dk DX12_goWeek_1 43 rfl) (by decide) ?_
                    refine g_c4I hX sX12_goWeek_196 (by decide) (Nat.le_of_ble_eq_true rfl) (rc0 rfl (MLt hM (by decide)) (MC hM)) (by decide) (by decide) (c_X12_with hG) ?_
                    refine g_putI hX (dk DX12_goWeek_1 46 rfl) KX12 fX12_114 (by decide) rfl (MLt hM (by decide)) (MC hM) (Or.inl rfl) (rfl) (rfl) ?_
                    refine g_gen (fun J2 hJ2 => ?_)
                    have hT : TS J2 idl (had + 1, withI kn1 (nI i) (bI (E 1 i ≠ 6)), co1 + 1, st1 + 1, ca1 + 1, (if fw1 < 0 then nI wn else fw1), (if fw1 < 0 then nI i else fd1)) := by rw [hJ2, hV2]; exact hT.kn
                    have hfr : Fr [34, 36, 37, 38, 39, 40] [18, 20] I J2 := by rw [hJ2]; exact hfr.pf (by decide)
                    have hstep : wkStep E idl wn may i (had, kn1, co1, st1, ca1, fw1, fd1) = (had + 1, withI kn1 (nI i) (bI (E 1 i ≠ 6)), co1 + 1, st1 + 1, ca1 + 1, (if fw1 < 0 then nI wn else fw1), (if fw1 < 0 then nI i else fd1)) := by simp only [wkStep]; rw [if_neg (fun z => z hcm), if_neg hid, if_neg hkn, if_pos hm]
                    refine g_goto (tgt := 241) hX (dk DX12_goWeek_1 47 rfl) (by decide) ?_
                    refine g_iinc_4 hX (dk DX12_goWeek_2 7 rfl) (nI_1 i) (by decide) rfl ?_
                    refine g_goto (tgt := 5) hX (dk DX12_goWeek_2 8 rfl) (by decide) ?_
                    exact ih k (by omega) (i + 1) _ _ _ _ _ _ _ _ (by omega) (by rw [← hv, wkRun_s, hstep]) hT hfr
            · have hf1 : fw1 < 0 := Int32.not_le.mp hc5
              refine g_aload_0 hX (dk DX12_goWeek_0 51 rfl) ?_
              refine g_iload_1 hX (dk DX12_goWeek_0 52 rfl) ?_
              refine g_putI hX (dk DX12_goWeek_0 53 rfl) KX12 fX12_129 (by decide) rfl (MLt hM (by decide)) (MC hM) (Or.inl rfl) (rfl) (rfl) ?_
              refine g_gen (fun J2 hJ2 => ?_)
              have hT : TS J2 idl (had, kn1, co1, st1 + 1, ca1, nI wn, fd1) := by rw [hJ2]; exact hT.fw
              have hfr : Fr [34, 36, 37, 38, 39, 40] [18, 20] I J2 := by rw [hJ2]; exact hfr.pf (by decide)
              have hA := Ag.keep hA0 hfr (by decide) (by decide)
              refine g_aload_0 hX (dk DX12_goWeek_0 54 rfl) ?_
              refine g_iload_4 hX (dk DX12_goWeek_0 55 rfl) ?_
              refine g_putI hX (dk DX12_goWeek_0 56 rfl) KX12 fX12_132 (by decide) rfl (MLt hM (by decide)) (MC hM) (Or.inl rfl) (rfl) (rfl) ?_
              refine g_gen (fun J2 hJ2 => ?_)
              have hT : TS J2 idl (had, kn1, co1, st1 + 1, ca1, nI wn, nI i) := by rw [hJ2]; exact hT.fd
              have hfr : Fr [34, 36, 37, 38, 39, 40] [18, 20] I J2 := by rw [hJ2]; exact hfr.pf (by decide)
              have hA := Ag.keep hA0 hfr (by decide) (by decide)
              first
              | have hfe : (if fw1 < 0 then nI wn else fw1) = nI wn ∧ (if fw1 < 0 then nI i else fd1) = nI i := ⟨if_pos hf1, if_pos hf1⟩
              | have hfe : (if fw1 < 0 then nI wn else fw1) = fw1 ∧ (if fw1 < 0 then nI i else fd1) = fd1 := ⟨if_neg (Int32.not_lt.mpr hc5), if_neg (Int32.not_lt.mpr hc5)⟩
              have hT : TS J2 idl (had, kn1, co1, st1 + 1, ca1, (if fw1 < 0 then nI wn else fw1), (if fw1 < 0 then nI i else fd1)) := by rw [hfe.1, hfe.2]; exact hT
              refine g_iload_1 hX (dk DX12_goWeek_0 57 rfl) ?_
              refine g_aload_0 hX (dk DX12_goWeek_0 58 rfl) ?_
              refine g_getIv hX (dk DX12_goWeek_0 59 rfl) KX12 fX12_13 (by decide) rfl (MLt hM (by decide)) (MC hM) (hA.1.2.1.trans (inv_wk hE).1) ?_
              refine g_isub hX (dk DX12_goWeek_1 0 rfl) ?_
              refine g_bipush (v := 100) hX (dk DX12_goWeek_1 1 rfl) (by decide) ?_
              refine g_icmp_ge (tgt := 143) hX (dk DX12_goWeek_1 2 rfl) (by decide) (fun hc11 => ?_) (fun hc11 => ?_)
              · refine g_iload_3 hX (dk DX12_goWeek_1 15 rfl) ?_
                refine g_iload_2 hX (dk DX12_goWeek_1 16 rfl) ?_
                refine g_icmp_ge (tgt := 205) hX (dk DX12_goWeek_1 17 rfl) (by decide) (fun hc12 => ?_) (fun hc12 => ?_)
                · have hm : ¬ had < may := Int32.not_lt.mpr hc12
                  refine g_aload_0 hX (dk DX12_goWeek_1 48 rfl) ?_
                  refine g_dup hX (dk DX12_goWeek_1 49 rfl) rfl ?_
                  refine g_getIv hX (dk DX12_goWeek_1 50 rfl) KX12 fX12_120 (by decide) rfl (MLt hM (by decide)) (MC hM) (hT.2.2.1) ?_
                  refine g_aload_0 hX (dk DX12_goWeek_1 51 rfl) ?_
                  refine g_iload_4 hX (dk DX12_goWeek_1 52 rfl) ?_
                  refine g_iload_1 hX (dk DX12_goWeek_1 53 rfl) ?_
                  refine g_c3q hX sX12_goWeek_214 (by decide) (Nat.le_of_ble_eq_true rfl) (rc0 rfl (MLt hM (by decide)) (MC hM)) (by decide) (by decide) (c_X12_dear hG hM hE hA hi10) ?_
                  rintro _ J4 _ ⟨rfl, hfr4, rfl⟩
                  have hT := hT.fr hfr4 (by decide)
                  have hfr := hfr.trans (hfr4.mono (F' := [34, 36, 37, 38, 39, 40]) (C' := [18, 20]) (by decide) (by decide))
                  have hA := Ag.keep hA0 hfr (by decide) (by decide)
                  refine g_iadd hX (dk DX12_goWeek_1 55 rfl) ?_
                  refine g_putI hX (dk DX12_goWeek_1 56 rfl) KX12 fX12_120 (by decide) rfl (MLt hM (by decide)) (MC hM) (Or.inl rfl) (rfl) (rfl) ?_
                  refine g_gen (fun J2 hJ2 => ?_)
                  have hT : TS J2 idl (had, kn1, co1 + dearF E i (nI wn), st1 + 1, ca1, (if fw1 < 0 then nI wn else fw1), (if fw1 < 0 then nI i else fd1)) := by rw [hJ2]; exact hT.co
                  have hfr : Fr [34, 36, 37, 38, 39, 40] [18, 20] I J2 := by rw [hJ2]; exact hfr.pf (by decide)
                  have hA := Ag.keep hA0 hfr (by decide) (by decide)
                  refine g_aload_0 hX (dk DX12_goWeek_1 57 rfl) ?_
                  refine g_aload_0 hX (dk DX12_goWeek_1 58 rfl) ?_
                  refine g_aload_0 hX (dk DX12_goWeek_1 59 rfl) ?_
                  refine g_getIv hX (dk DX12_goWeek_2 0 rfl) KX12 fX12_114 (by decide) rfl (MLt hM (by decide)) (MC hM) (hT.1) ?_
                  refine g_iload_4 hX (dk DX12_goWeek_2 1 rfl) ?_
                  refine g_aload_0 hX (dk DX12_goWeek_2 2 rfl) ?_
                  refine g_iload_4 hX (dk DX12_goWeek_2 3 rfl) ?_
                  refine g_c2I hX sX12_goWeek_232 (by decide) (Nat.le_of_ble_eq_true rfl) (rc0 rfl (MLt hM (by decide)) (MC hM)) (by decide) (by decide) (c_X12_learnsBy hG hM hA hi10) ?_
                  refine g_c4I hX sX12_goWeek_235 (by decide) (Nat.le_of_ble_eq_true rfl) (rc0 rfl (MLt hM (by decide)) (MC hM)) (by decide) (by decide) (c_X12_with hG) ?_
                  refine g_putI hX (dk DX12_goWeek_2 6 rfl) KX12 fX12_114 (by decide) rfl (MLt hM (by decide)) (MC hM) (Or.inl rfl) (rfl) (rfl) ?_
                  refine g_gen (fun J2 hJ2 => ?_)
                  have hT : TS J2 idl (had, withI kn1 (nI i) (@bI (learnsF E i) (dcL E i)), co1 + dearF E i (nI wn), st1 + 1, ca1, (if fw1 < 0 then nI wn else fw1), (if fw1 < 0 then nI i else fd1)) := by rw [hJ2]; exact hT.kn
                  have hfr : Fr [34, 36, 37, 38, 39, 40] [18, 20] I J2 := by rw [hJ2]; exact hfr.pf (by decide)
                  have hstep : wkStep E idl wn may i (had, kn1, co1, st1, ca1, fw1, fd1) = (had, withI kn1 (nI i) (@bI (learnsF E i) (dcL E i)), co1 + dearF E i (nI wn), st1 + 1, ca1, (if fw1 < 0 then nI wn else fw1), (if fw1 < 0 then nI i else fd1)) := by simp only [wkStep]; rw [if_neg (fun z => z hcm), if_neg hid, if_neg hkn, if_neg hm]
                  refine g_iinc_4 hX (dk DX12_goWeek_2 7 rfl) (nI_1 i) (by decide) rfl ?_
                  refine g_goto (tgt := 5) hX (dk DX12_goWeek_2 8 rfl) (by decide) ?_
                  exact ih k (by omega) (i + 1) _ _ _ _ _ _ _ _ (by omega) (by rw [← hv, wkRun_s, hstep]) hT hfr
                · have hm : had < may := Int32.not_le.mp hc12
                  refine g_iinc_3 (v := had + 1) hX (dk DX12_goWeek_1 18 rfl) (rfl) (by decide) rfl ?_
                  refine g_aload_0 hX (dk DX12_goWeek_1 19 rfl) ?_
                  refine g_dup hX (dk DX12_goWeek_1 20 rfl) rfl ?_
                  refine g_getIv hX (dk DX12_goWeek_1 21 rfl) KX12 fX12_126 (by decide) rfl (MLt hM (by decide)) (MC hM) (hT.2.2.2.2.1) ?_
                  refine g_iconst (v := 1) hX (dk DX12_goWeek_1 22 rfl) (by decide) ?_
                  refine g_iadd hX (dk DX12_goWeek_1 23 rfl) ?_
                  refine g_putI hX (dk DX12_goWeek_1 24 rfl) KX12 fX12_126 (by decide) rfl (MLt hM (by decide)) (MC hM) (Or.inl rfl) (rfl) (rfl) ?_
                  refine g_gen (fun J2 hJ2 => ?_)
                  have hT : TS J2 idl (had, kn1, co1, st1 + 1, ca1 + 1, (if fw1 < 0 then nI wn else fw1), (if fw1 < 0 then nI i else fd1)) := by rw [hJ2]; exact hT.ca
                  have hfr : Fr [34, 36, 37, 38, 39, 40] [18, 20] I J2 := by rw [hJ2]; exact hfr.pf (by decide)
                  have hA := Ag.keep hA0 hfr (by decide) (by decide)
                  refine g_aload_0 hX (dk DX12_goWeek_1 25 rfl) ?_
                  refine g_dup hX (dk DX12_goWeek_1 26 rfl) rfl ?_
                  refine g_getIv hX (dk DX12_goWeek_1 27 rfl) KX12 fX12_120 (by decide) rfl (MLt hM (by decide)) (MC hM) (hT.2.2.1) ?_
                  refine g_iconst (v := 1) hX (dk DX12_goWeek_1 28 rfl) (by decide) ?_
                  refine g_iadd hX (dk DX12_goWeek_1 29 rfl) ?_
                  refine g_putI hX (dk DX12_goWeek_1 30 rfl) KX12 fX12_120 (by decide) rfl (MLt hM (by decide)) (MC hM) (Or.inl rfl) (rfl) (rfl) ?_
                  refine g_gen (fun J2 hJ2 => ?_)
                  have hT : TS J2 idl (had, kn1, co1 + 1, st1 + 1, ca1 + 1, (if fw1 < 0 then nI wn else fw1), (if fw1 < 0 then nI i else fd1)) := by rw [hJ2]; exact hT.co
                  have hfr : Fr [34, 36, 37, 38, 39, 40] [18, 20] I J2 := by rw [hJ2]; exact hfr.pf (by decide)
                  have hA := Ag.keep hA0 hfr (by decide) (by decide)
                  refine g_aload_0 hX (dk DX12_goWeek_1 31 rfl) ?_
                  refine g_aload_0 hX (dk DX12_goWeek_1 32 rfl) ?_
                  refine g_aload_0 hX (dk DX12_goWeek_1 33 rfl) ?_
                  refine g_getIv hX (dk DX12_goWeek_1 34 rfl) KX12 fX12_114 (by decide) rfl (MLt hM (by decide)) (MC hM) (hT.1) ?_
                  refine g_iload_4 hX (dk DX12_goWeek_1 35 rfl) ?_
                  refine g_aload_0 hX (dk DX12_goWeek_1 36 rfl) ?_
                  refine g_getRs (r := 1) hX (dk DX12_goWeek_1 37 rfl) KX12 fX12_31 (by decide) rfl (MLt hM (by decide)) (MC hM) (MR hM 7 (by decide) rfl) ?_
                  refine g_iload_4 hX (dk DX12_goWeek_1 38 rfl) ?_
                  refine v_iaload hX (dk DX12_goWeek_1 39 rfl) (MLt hM (q := 1) (by decide)) (MS hM 1 (by decide) rfl) (⟨rfl, by omega, by decide⟩) (congrFun (hA.2.1 1 (by decide)) i) ?_
                  refine g_bipush (v := 6) hX (dk DX12_goWeek_1 40 rfl) (by decide) ?_
                  refine g_icmp_eq (tgt := 195) hX (dk DX12_goWeek_1 41 rfl) (by decide) (fun hc13 => ?_) (fun hc13 => ?_)
                  · have hV2 : bI (E 1 i ≠ 6) = 0 := bI_f (fun z => z hc13)
                    refine g_iconst (v := 0) hX (dk DX12_goWeek_1 44 rfl) (by decide) ?_
                    refine g_c4I hX sX12_goWeek_196 (by decide) (Nat.le_of_ble_eq_true rfl) (rc0 rfl (MLt hM (by decide)) (MC hM)) (by decide) (by decide) (c_X12_with hG) ?_
                    refine g_putI hX (dk DX12_goWeek_1 46 rfl) KX12 fX12_114 (by decide) rfl (MLt hM (by decide)) (MC hM) (Or.inl rfl) (rfl) (rfl) ?_
                    refine g_gen (fun J2 hJ2 => ?_)
                    have hT : TS J2 idl (had + 1, withI kn1 (nI i) (bI (E 1 i ≠ 6)), co1 + 1, st1 + 1, ca1 + 1, (if fw1 < 0 then nI wn else fw1), (if fw1 < 0 then nI i else fd1)) := by rw [hJ2, hV2]; exact hT.kn
                    have hfr : Fr [34, 36, 37, 38, 39, 40] [18, 20] I J2 := by rw [hJ2]; exact hfr.pf (by decide)
                    have hstep : wkStep E idl wn may i (had, kn1, co1, st1, ca1, fw1, fd1) = (had + 1, withI kn1 (nI i) (bI (E 1 i ≠ 6)), co1 + 1, st1 + 1, ca1 + 1, (if fw1 < 0 then nI wn else fw1), (if fw1 < 0 then nI i else fd1)) := by simp only [wkStep]; rw [if_neg (fun z => z hcm), if_neg hid, if_neg hkn, if_pos hm]
                    refine g_goto (tgt := 241) hX (dk DX12_goWeek_1 47 rfl) (by decide) ?_
                    refine g_iinc_4 hX (dk DX12_goWeek_2 7 rfl) (nI_1 i) (by decide) rfl ?_
                    refine g_goto (tgt := 5) hX (dk DX12_goWeek_2 8 rfl) (by decide) ?_
                    exact ih k (by omega) (i + 1) _ _ _ _ _ _ _ _ (by omega) (by rw [← hv, wkRun_s, hstep]) hT hfr
                  · have hV2 : bI (E 1 i ≠ 6) = 1 := bI_t hc13
                    refine g_iconst (v := 1) hX (dk DX12_goWeek_1 42 rfl) (by decide) ?_
                    refine g_goto (tgt := 196) hX (dk DX12_goWeek_1 43 rfl) (by decide) ?_
                    refine g_c4I hX sX12_goWeek_196 (by decide) (Nat.le_of_ble_eq_true rfl) (rc0 rfl (MLt hM (by decide)) (MC hM)) (by decide) (by decide) (c_X12_with hG) ?_
                    refine g_putI hX (dk DX12_goWeek_1 46 rfl) KX12 fX12_114 (by decide) rfl (MLt hM (by decide)) (MC hM) (Or.inl rfl) (rfl) (rfl) ?_
                    refine g_gen (fun J2 hJ2 => ?_)
                    have hT : TS J2 idl (had + 1, withI kn1 (nI i) (bI (E 1 i ≠ 6)), co1 + 1, st1 + 1, ca1 + 1, (if fw1 < 0 then nI wn else fw1), (if fw1 < 0 then nI i else fd1)) := by rw [hJ2, hV2]; exact hT.kn
                    have hfr : Fr [34, 36, 37, 38, 39, 40] [18, 20] I J2 := by rw [hJ2]; exact hfr.pf (by decide)
                    have hstep : wkStep E idl wn may i (had, kn1, co1, st1, ca1, fw1, fd1) = (had + 1, withI kn1 (nI i) (bI (E 1 i ≠ 6)), co1 + 1, st1 + 1, ca1 + 1, (if fw1 < 0 then nI wn else fw1), (if fw1 < 0 then nI i else fd1)) := by simp only [wkStep]; rw [if_neg (fun z => z hcm), if_neg hid, if_neg hkn, if_pos hm]
                    refine g_goto (tgt := 241) hX (dk DX12_goWeek_1 47 rfl) (by decide) ?_
                    refine g_iinc_4 hX (dk DX12_goWeek_2 7 rfl) (nI_1 i) (by decide) rfl ?_
                    refine g_goto (tgt := 5) hX (dk DX12_goWeek_2 8 rfl) (by decide) ?_
                    exact ih k (by omega) (i + 1) _ _ _ _ _ _ _ _ (by omega) (by rw [← hv, wkRun_s, hstep]) hT hfr
              · have hst9 := hc11
                refine g_aload_0 hX (dk DX12_goWeek_1 3 rfl) ?_
                refine g_getRs (r := 20) hX (dk DX12_goWeek_1 4 rfl) KX12 fX12_135 (by decide) rfl (MLt hM (by decide)) (MC hM) (MR hM 41 (by decide) rfl) ?_
                refine g_bipush (v := 10) hX (dk DX12_goWeek_1 5 rfl) (by decide) ?_
                refine g_iload_1 hX (dk DX12_goWeek_1 6 rfl) ?_
                refine g_aload_0 hX (dk DX12_goWeek_1 7 rfl) ?_
                refine g_getIv hX (dk DX12_goWeek_1 8 rfl) KX12 fX12_13 (by decide) rfl (MLt hM (by decide)) (MC hM) (hA.1.2.1.trans (inv_wk hE).1) ?_
                refine g_isub hX (dk DX12_goWeek_1 9 rfl) ?_
                refine g_imul hX (dk DX12_goWeek_1 10 rfl) ?_
                refine g_iload_4 hX (dk DX12_goWeek_1 11 rfl) ?_
                refine g_iadd hX (dk DX12_goWeek_1 12 rfl) ?_
                refine g_iconst (v := 1) hX (dk DX12_goWeek_1 13 rfl) (by decide) ?_
                refine i_zastore hX (dk DX12_goWeek_1 14 rfl) (MLt hM (q := 20) (by decide)) (MS hM 20 (by decide) rfl) (stix hw1 hw2 (by omega) hst9) ?_
                refine g_gen (fun J2 hJ2 => ?_)
                have hT : TS J2 idl (had, kn1, co1, st1 + 1, ca1, (if fw1 < 0 then nI wn else fw1), (if fw1 < 0 then nI i else fd1)) := by rw [hJ2]; exact hT.off (by decide)
                have hfr : Fr [34, 36, 37, 38, 39, 40] [18, 20] I J2 := by rw [hJ2]; exact hfr.pc (by decide) (by decide)
                have hA := Ag.keep hA0 hfr (by decide) (by decide)
                refine g_iload_3 hX (dk DX12_goWeek_1 15 rfl) ?_
                refine g_iload_2 hX (dk DX12_goWeek_1 16 rfl) ?_
                refine g_icmp_ge (tgt := 205) hX (dk DX12_goWeek_1 17 rfl) (by decide) (fun hc14 => ?_) (fun hc14 => ?_)
                · have hm : ¬ had < may := Int32.not_lt.mpr hc14
                  refine g_aload_0 hX (dk DX12_goWeek_1 48 rfl) ?_
                  refine g_dup hX (dk DX12_goWeek_1 49 rfl) rfl ?_
                  refine g_getIv hX (dk DX12_goWeek_1 50 rfl) KX12 fX12_120 (by decide) rfl (MLt hM (by decide)) (MC hM) (hT.2.2.1) ?_
                  refine g_aload_0 hX (dk DX12_goWeek_1 51 rfl) ?_
                  refine g_iload_4 hX (dk DX12_goWeek_1 52 rfl) ?_
                  refine g_iload_1 hX (dk DX12_goWeek_1 53 rfl) ?_
                  refine g_c3q hX sX12_goWeek_214 (by decide) (Nat.le_of_ble_eq_true rfl) (rc0 rfl (MLt hM (by decide)) (MC hM)) (by decide) (by decide) (c_X12_dear hG hM hE hA hi10) ?_
                  rintro _ J4 _ ⟨rfl, hfr4, rfl⟩
                  have hT := hT.fr hfr4 (by decide)
                  have hfr := hfr.trans (hfr4.mono (F' := [34, 36, 37, 38, 39, 40]) (C' := [18, 20]) (by decide) (by decide))
                  have hA := Ag.keep hA0 hfr (by decide) (by decide)
                  refine g_iadd hX (dk DX12_goWeek_1 55 rfl) ?_
                  refine g_putI hX (dk DX12_goWeek_1 56 rfl) KX12 fX12_120 (by decide) rfl (MLt hM (by decide)) (MC hM) (Or.inl rfl) (rfl) (rfl) ?_
                  refine g_gen (fun J2 hJ2 => ?_)
                  have hT : TS J2 idl (had, kn1, co1 + dearF E i (nI wn), st1 + 1, ca1, (if fw1 < 0 then nI wn else fw1), (if fw1 < 0 then nI i else fd1)) := by rw [hJ2]; exact hT.co
                  have hfr : Fr [34, 36, 37, 38, 39, 40] [18, 20] I J2 := by rw [hJ2]; exact hfr.pf (by decide)
                  have hA := Ag.keep hA0 hfr (by decide) (by decide)
                  refine g_aload_0 hX (dk DX12_goWeek_1 57 rfl) ?_
                  refine g_aload_0 hX (dk DX12_goWeek_1 58 rfl) ?_
                  refine g_aload_0 hX (dk DX12_goWeek_1 59 rfl) ?_
                  refine g_getIv hX (dk DX12_goWeek_2 0 rfl) KX12 fX12_114 (by decide) rfl (MLt hM (by decide)) (MC hM) (hT.1) ?_
                  refine g_iload_4 hX (dk DX12_goWeek_2 1 rfl) ?_
                  refine g_aload_0 hX (dk DX12_goWeek_2 2 rfl) ?_
                  refine g_iload_4 hX (dk DX12_goWeek_2 3 rfl) ?_
                  refine g_c2I hX sX12_goWeek_232 (by decide) (Nat.le_of_ble_eq_true rfl) (rc0 rfl (MLt hM (by decide)) (MC hM)) (by decide) (by decide) (c_X12_learnsBy hG hM hA hi10) ?_
                  refine g_c4I hX sX12_goWeek_235 (by decide) (Nat.le_of_ble_eq_true rfl) (rc0 rfl (MLt hM (by decide)) (MC hM)) (by decide) (by decide) (c_X12_with hG) ?_
                  refine g_putI hX (dk DX12_goWeek_2 6 rfl) KX12 fX12_114 (by decide) rfl (MLt hM (by decide)) (MC hM) (Or.inl rfl) (rfl) (rfl) ?_
                  refine g_gen (fun J2 hJ2 => ?_)
                  have hT : TS J2 idl (had, withI kn1 (nI i) (@bI (learnsF E i) (dcL E i)), co1 + dearF E i (nI wn), st1 + 1, ca1, (if fw1 < 0 then nI wn else fw1), (if fw1 < 0 then nI i else fd1)) := by rw [hJ2]; exact hT.kn
                  have hfr : Fr [34, 36, 37, 38, 39, 40] [18, 20] I J2 := by rw [hJ2]; exact hfr.pf (by decide)
                  have hstep : wkStep E idl wn may i (had, kn1, co1, st1, ca1, fw1, fd1) = (had, withI kn1 (nI i) (@bI (learnsF E i) (dcL E i)), co1 + dearF E i (nI wn), st1 + 1, ca1, (if fw1 < 0 then nI wn else fw1), (if fw1 < 0 then nI i else fd1)) := by simp only [wkStep]; rw [if_neg (fun z => z hcm), if_neg hid, if_neg hkn, if_neg hm]
                  refine g_iinc_4 hX (dk DX12_goWeek_2 7 rfl) (nI_1 i) (by decide) rfl ?_
                  refine g_goto (tgt := 5) hX (dk DX12_goWeek_2 8 rfl) (by decide) ?_
                  exact ih k (by omega) (i + 1) _ _ _ _ _ _ _ _ (by omega) (by rw [← hv, wkRun_s, hstep]) hT hfr
                · have hm : had < may := Int32.not_le.mp hc14
                  refine g_iinc_3 (v := had + 1) hX (dk DX12_goWeek_1 18 rfl) (rfl) (by decide) rfl ?_
                  refine g_aload_0 hX (dk DX12_goWeek_1 19 rfl) ?_
                  refine g_dup hX (dk DX12_goWeek_1 20 rfl) rfl ?_
                  refine g_getIv hX (dk DX12_goWeek_1 21 rfl) KX12 fX12_126 (by decide) rfl (MLt hM (by decide)) (MC hM) (hT.2.2.2.2.1) ?_
                  refine g_iconst (v := 1) hX (dk DX12_goWeek_1 22 rfl) (by decide) ?_
                  refine g_iadd hX (dk DX12_goWeek_1 23 rfl) ?_
                  refine g_putI hX (dk DX12_goWeek_1 24 rfl) KX12 fX12_126 (by decide) rfl (MLt hM (by decide)) (MC hM) (Or.inl rfl) (rfl) (rfl) ?_
                  refine g_gen (fun J2 hJ2 => ?_)
                  have hT : TS J2 idl (had, kn1, co1, st1 + 1, ca1 + 1, (if fw1 < 0 then nI wn else fw1), (if fw1 < 0 then nI i else fd1)) := by rw [hJ2]; exact hT.ca
                  have hfr : Fr [34, 36, 37, 38, 39, 40] [18, 20] I J2 := by rw [hJ2]; exact hfr.pf (by decide)
                  have hA := Ag.keep hA0 hfr (by decide) (by decide)
                  refine g_aload_0 hX (dk DX12_goWeek_1 25 rfl) ?_
                  refine g_dup hX (dk DX12_goWeek_1 26 rfl) rfl ?_
                  refine g_getIv hX (dk DX12_goWeek_1 27 rfl) KX12 fX12_120 (by decide) rfl (MLt hM (by decide)) (MC hM) (hT.2.2.1) ?_
                  refine g_iconst (v := 1) hX (dk DX12_goWeek_1 28 rfl) (by decide) ?_
                  refine g_iadd hX (dk DX12_goWeek_1 29 rfl) ?_
                  refine g_putI hX (dk DX12_goWeek_1 30 rfl) KX12 fX12_120 (by decide) rfl (MLt hM (by decide)) (MC hM) (Or.inl rfl) (rfl) (rfl) ?_
                  refine g_gen (fun J2 hJ2 => ?_)
                  have hT : TS J2 idl (had, kn1, co1 + 1, st1 + 1, ca1 + 1, (if fw1 < 0 then nI wn else fw1), (if fw1 < 0 then nI i else fd1)) := by rw [hJ2]; exact hT.co
                  have hfr : Fr [34, 36, 37, 38, 39, 40] [18, 20] I J2 := by rw [hJ2]; exact hfr.pf (by decide)
                  have hA := Ag.keep hA0 hfr (by decide) (by decide)
                  refine g_aload_0 hX (dk DX12_goWeek_1 31 rfl) ?_
                  refine g_aload_0 hX (dk DX12_goWeek_1 32 rfl) ?_
                  refine g_aload_0 hX (dk DX12_goWeek_1 33 rfl) ?_
                  refine g_getIv hX (dk DX12_goWeek_1 34 rfl) KX12 fX12_114 (by decide) rfl (MLt hM (by decide)) (MC hM) (hT.1) ?_
                  refine g_iload_4 hX (dk DX12_goWeek_1 35 rfl) ?_
                  refine g_aload_0 hX (dk DX12_goWeek_1 36 rfl) ?_
                  refine g_getRs (r := 1) hX (dk DX12_goWeek_1 37 rfl) KX12 fX12_31 (by decide) rfl (MLt hM (by decide)) (MC hM) (MR hM 7 (by decide) rfl) ?_
                  refine g_iload_4 hX (dk DX12_goWeek_1 38 rfl) ?_
                  refine v_iaload hX (dk DX12_goWeek_1 39 rfl) (MLt hM (q := 1) (by decide)) (MS hM 1 (by decide) rfl) (⟨rfl, by omega, by decide⟩) (congrFun (hA.2.1 1 (by decide)) i) ?_
                  refine g_bipush (v := 6) hX (dk DX12_goWeek_1 40 rfl) (by decide) ?_
                  refine g_icmp_eq (tgt := 195) hX (dk DX12_goWeek_1 41 rfl) (by decide) (fun hc15 => ?_) (fun hc15 => ?_)
                  · have hV2 : bI (E 1 i ≠ 6) = 0 := bI_f (fun z => z hc15)
                    refine g_iconst (v := 0) hX (dk DX12_goWeek_1 44 rfl) (by decide) ?_
                    refine g_c4I hX sX12_goWeek_196 (by decide) (Nat.le_of_ble_eq_true rfl) (rc0 rfl (MLt hM (by decide)) (MC hM)) (by decide) (by decide) (c_X12_with hG) ?_
                    refine g_putI hX (dk DX12_goWeek_1 46 rfl) KX12 fX12_114 (by decide) rfl (MLt hM (by decide)) (MC hM) (Or.inl rfl) (rfl) (rfl) ?_
                    refine g_gen (fun J2 hJ2 => ?_)
                    have hT : TS J2 idl (had + 1, withI kn1 (nI i) (bI (E 1 i ≠ 6)), co1 + 1, st1 + 1, ca1 + 1, (if fw1 < 0 then nI wn else fw1), (if fw1 < 0 then nI i else fd1)) := by rw [hJ2, hV2]; exact hT.kn
                    have hfr : Fr [34, 36, 37, 38, 39, 40] [18, 20] I J2 := by rw [hJ2]; exact hfr.pf (by decide)
                    have hstep : wkStep E idl wn may i (had, kn1, co1, st1, ca1, fw1, fd1) = (had + 1, withI kn1 (nI i) (bI (E 1 i ≠ 6)), co1 + 1, st1 + 1, ca1 + 1, (if fw1 < 0 then nI wn else fw1), (if fw1 < 0 then nI i else fd1)) := by simp only [wkStep]; rw [if_neg (fun z => z hcm), if_neg hid, if_neg hkn, if_pos hm]
                    refine g_goto (tgt := 241) hX (dk DX12_goWeek_1 47 rfl) (by decide) ?_
                    refine g_iinc_4 hX (dk DX12_goWeek_2 7 rfl) (nI_1 i) (by decide) rfl ?_
                    refine g_goto (tgt := 5) hX (dk DX12_goWeek_2 8 rfl) (by decide) ?_
                    exact ih k (by omega) (i + 1) _ _ _ _ _ _ _ _ (by omega) (by rw [← hv, wkRun_s, hstep]) hT hfr
                  · have hV2 : bI (E 1 i ≠ 6) = 1 := bI_t hc15
                    refine g_iconst (v := 1) hX (dk DX12_goWeek_1 42 rfl) (by decide) ?_
                    refine g_goto (tgt := 196) hX (dk DX12_goWeek_1 43 rfl) (by decide) ?_
                    refine g_c4I hX sX12_goWeek_196 (by decide) (Nat.le_of_ble_eq_true rfl) (rc0 rfl (MLt hM (by decide)) (MC hM)) (by decide) (by decide) (c_X12_with hG) ?_
                    refine g_putI hX (dk DX12_goWeek_1 46 rfl) KX12 fX12_114 (by decide) rfl (MLt hM (by decide)) (MC hM) (Or.inl rfl) (rfl) (rfl) ?_
                    refine g_gen (fun J2 hJ2 => ?_)
                    have hT : TS J2 idl (had + 1, withI kn1 (nI i) (bI (E 1 i ≠ 6)), co1 + 1, st1 + 1, ca1 + 1, (if fw1 < 0 then nI wn else fw1), (if fw1 < 0 then nI i else fd1)) := by rw [hJ2, hV2]; exact hT.kn
                    have hfr : Fr [34, 36, 37, 38, 39, 40] [18, 20] I J2 := by rw [hJ2]; exact hfr.pf (by decide)
                    have hstep : wkStep E idl wn may i (had, kn1, co1, st1, ca1, fw1, fd1) = (had + 1, withI kn1 (nI i) (bI (E 1 i ≠ 6)), co1 + 1, st1 + 1, ca1 + 1, (if fw1 < 0 then nI wn else fw1), (if fw1 < 0 then nI i else fd1)) := by simp only [wkStep]; rw [if_neg (fun z => z hcm), if_neg hid, if_neg hkn, if_pos hm]
                    refine g_goto (tgt := 241) hX (dk DX12_goWeek_1 47 rfl) (by decide) ?_
                    refine g_iinc_4 hX (dk DX12_goWeek_2 7 rfl) (nI_1 i) (by decide) rfl ?_
                    refine g_goto (tgt := 5) hX (dk DX12_goWeek_2 8 rfl) (by decide) ?_
                    exact ih k (by omega) (i + 1) _ _ _ _ _ _ _ _ (by omega) (by rw [← hv, wkRun_s, hstep]) hT hfr
          · have hstep : wkStep E idl wn may i (had, kn1, co1, st1, ca1, fw1, fd1) = (had, kn1, co1, st1, ca1, fw1, fd1) := by simp only [wkStep]; rw [if_neg (fun z => z hcm), if_neg hid, if_pos hc4]
            refine g_goto (tgt := 241) hX (dk DX12_goWeek_0 41 rfl) (by decide) ?_
            refine g_iinc_4 hX (dk DX12_goWeek_2 7 rfl) (nI_1 i) (by decide) rfl ?_
            refine g_goto (tgt := 5) hX (dk DX12_goWeek_2 8 rfl) (by decide) ?_
            exact ih k (by omega) (i + 1) _ _ _ _ _ _ _ _ (by omega) (by rw [← hv, wkRun_s, hstep]) hT hfr
        · have hid := hc3
          refine g_aload_0 hX (dk DX12_goWeek_0 20 rfl) ?_
          refine g_dup hX (dk DX12_goWeek_0 21 rfl) rfl ?_
          refine g_getIv hX (dk DX12_goWeek_0 22 rfl) KX12 fX12_120 (by decide) rfl (MLt hM (by decide)) (MC hM) (hT.2.2.1) ?_
          refine g_aload_0 hX (dk DX12_goWeek_0 23 rfl) ?_
          refine g_aload_0 hX (dk DX12_goWeek_0 24 rfl) ?_
          refine g_getIv hX (dk DX12_goWeek_0 25 rfl) KX12 fX12_114 (by decide) rfl (MLt hM (by decide)) (MC hM) (hT.1) ?_
          refine g_iload_4 hX (dk DX12_goWeek_0 26 rfl) ?_
          refine g_c3I hX sX12_goWeek_52 (by decide) (Nat.le_of_ble_eq_true rfl) (rc0 rfl (MLt hM (by decide)) (MC hM)) (by decide) (by decide) (c_X12_has hG) ?_
          refine g_ifb_eq (tgt := 62) hX (dk DX12_goWeek_0 28 rfl) (by decide) (fun hc16 => ?_) (fun hc16 => ?_)
          · have hV : (if hasI kn1 (nI i) = 1 then (1 : Int32) else 0) = 0 := if_neg hc16
            refine g_iconst (v := 0) hX (dk DX12_goWeek_0 31 rfl) (by decide) ?_
            refine g_iadd hX (dk DX12_goWeek_0 32 rfl) ?_
            refine g_putI hX (dk DX12_goWeek_0 33 rfl) KX12 fX12_120 (by decide) rfl (MLt hM (by decide)) (MC hM) (Or.inl rfl) (rfl) (rfl) ?_
            refine g_gen (fun J2 hJ2 => ?_)
            have hT : TS J2 idl (had, kn1, co1 + (if hasI kn1 (nI i) = 1 then 1 else 0), st1, ca1, fw1, fd1) := by rw [hJ2, hV]; exact hT.co
            have hfr : Fr [34, 36, 37, 38, 39, 40] [18, 20] I J2 := by rw [hJ2]; exact hfr.pf (by decide)
            have hstep : wkStep E idl wn may i (had, kn1, co1, st1, ca1, fw1, fd1) = (had, kn1, co1 + (if hasI kn1 (nI i) = 1 then 1 else 0), st1, ca1, fw1, fd1) := by simp only [wkStep]; rw [if_neg (fun z => z hcm), if_pos hid]
            refine g_goto (tgt := 241) hX (dk DX12_goWeek_0 34 rfl) (by decide) ?_
            refine g_iinc_4 hX (dk DX12_goWeek_2 7 rfl) (nI_1 i) (by decide) rfl ?_
            refine g_goto (tgt := 5) hX (dk DX12_goWeek_2 8 rfl) (by decide) ?_
            exact ih k (by omega) (i + 1) _ _ _ _ _ _ _ _ (by omega) (by rw [← hv, wkRun_s, hstep]) hT hfr
          · have hV : (if hasI kn1 (nI i) = 1 then (1 : Int32) else 0) = 1 := if_pos hc16
            refine g_iconst (v := 1) hX (dk DX12_goWeek_0 29 rfl) (by decide) ?_
            refine g_goto (tgt := 63) hX (dk DX12_goWeek_0 30 rfl) (by decide) ?_
            refine g_iadd hX (dk DX12_goWeek_0 32 rfl) ?_
            refine g_putI hX (dk DX12_goWeek_0 33 rfl) KX12 fX12_120 (by decide) rfl (MLt hM (by decide)) (MC hM) (Or.inl rfl) (rfl) (rfl) ?_
            refine g_gen (fun J2 hJ2 => ?_)
            have hT : TS J2 idl (had, kn1, co1 + (if hasI kn1 (nI i) = 1 then 1 else 0), st1, ca1, fw1, fd1) := by rw [hJ2, hV]; exact hT.co
            have hfr : Fr [34, 36, 37, 38, 39, 40] [18, 20] I J2 := by rw [hJ2]; exact hfr.pf (by decide)
            have hstep : wkStep E idl wn may i (had, kn1, co1, st1, ca1, fw1, fd1) = (had, kn1, co1 + (if hasI kn1 (nI i) = 1 then 1 else 0), st1, ca1, fw1, fd1) := by simp only [wkStep]; rw [if_neg (fun z => z hcm), if_pos hid]
            refine g_goto (tgt := 241) hX (dk DX12_goWeek_0 34 rfl) (by decide) ?_
            refine g_iinc_4 hX (dk DX12_goWeek_2 7 rfl) (nI_1 i) (by decide) rfl ?_
            refine g_goto (tgt := 5) hX (dk DX12_goWeek_2 8 rfl) (by decide) ?_
            exact ih k (by omega) (i + 1) _ _ _ _ _ _ _ _ (by omega) (by rw [← hv, wkRun_s, hstep]) hT hfr
      · have hstep : wkStep E idl wn may i (had, kn1, co1, st1, ca1, fw1, fd1) = (had, kn1, co1, st1, ca1, fw1, fd1) := by simp only [wkStep]; rw [if_pos hc2]
        refine g_goto (tgt := 241) hX (dk DX12_goWeek_0 13 rfl) (by decide) ?_
        refine g_iinc_4 hX (dk DX12_goWeek_2 7 rfl) (nI_1 i) (by decide) rfl ?_
        refine g_goto (tgt := 5) hX (dk DX12_goWeek_2 8 rfl) (by decide) ?_
        exact ih k (by omega) (i + 1) _ _ _ _ _ _ _ _ (by omega) (by rw [← hv, wkRun_s, hstep]) hT hfr
  refine g_iconst (v := 0) hX (dk DX12_goWeek_0 0 rfl) (by decide) ?_
  refine g_istore_3 hX (dk DX12_goWeek_0 1 rfl) (by decide) rfl ?_
  refine g_iconst (v := 0) hX (dk DX12_goWeek_0 2 rfl) (by decide) ?_
  refine g_istore_4 hX (dk DX12_goWeek_0 3 rfl) (by decide) rfl ?_
  exact loop5 (cnt E) 0 0 kn co st ca fw fd I (Nat.zero_add _) rfl hT Fr.rf
end
section
set_option maxRecDepth 8000 in
set_option maxHeartbeats 4000000 in
theorem c_X12_goWeeks {G : Gt} (hG : Gok G) {I : It} {h : Ht} (hM : HM h) {E : It} (hE : Inv E) (hA : Ag E I) {idl : Int32} {m : Nat} {a0 : WS} (hm : m ≤ 200) (hT : TS I idl a0) : Con G (6) 0 0 mX12_goWeeks [.ref 0, .int (nI m)] I h (qV (fun I' h' => TS I' idl (wksF E idl m (wk E) a0) ∧ Fr [34, 36, 37, 38, 39, 40] [18, 20] I I' ∧ h' = h)) := by
  refine con_intro (own := RX12) (lo0 := [some (.ref 0), some (.int (nI m)), none, none, none]) hG rfl pl_X12 (Nat.le_of_ble_eq_true rfl) rfl (fun X hX => ?_)
  have hA0 := hA
  have hw := inv_wk hE
  have loop21 : ∀ (k w : Nat) (a : WS) (J : It), w + k = wk E + m → wk E ≤ w → wksF E idl k w a = wksF E idl m (wk E) a0 → TS J idl a → Fr [34, 36, 37, 38, 39, 40] [18, 20] I J → GG G (6) 0 0 X (qV (fun I' h' => TS I' idl (wksF E idl m (wk E) a0) ∧ Fr [34, 36, 37, 38, 39, 40] [18, 20] I I' ∧ h' = h)) 21 [some (.ref 0), some (.int (nI m)), some (.int (callF E)), some (.int (fadeF E)), some (.int (nI w))] [] (J) (h) 0 0 := by
    intro k
    induction k using Nat.strongRecOn with | _ k ih => ?_
    intro w a J hk hw1 hv hT hfr
    have hA := Ag.keep hA0 hfr (by decide) (by decide)
    obtain ⟨had, kn1, co1, st1, ca1, fw1, fd1⟩ := a
    refine g_iload_4 hX (dk DX12_goWeeks 13 rfl) ?_
    refine g_aload_0 hX (dk DX12_goWeeks 14 rfl) ?_
    refine g_getIv hX (dk DX12_goWeeks 15 rfl) KX12 fX12_13 (by decide) rfl (MLt hM (by decide)) (MC hM) (hA.1.2.1.trans hw.1) ?_
    refine g_iload_1 hX (dk DX12_goWeeks 16 rfl) ?_
    refine g_iadd hX (dk DX12_goWeeks 17 rfl) ?_
    refine g_icmp_ge (tgt := 50) hX (dk DX12_goWeeks 18 rfl) (by decide) (fun hc1 => ?_) (fun hc1 => ?_)
    · refine g_return hX (dk DX12_goWeeks 29 rfl) rfl (by decide) (by decide) ?_
      rw [nI_add] at hc1
      have hk0 := ct_end hk (by omega) hc1
      subst hk0
      exact qV_of ⟨by rw [← hv]; exact hT, hfr, rfl⟩
    · rw [nI_add] at hc1
      obtain ⟨k, rfl⟩ := ct_go hk (by omega) hc1
      refine g_aload_0 hX (dk DX12_goWeeks 19 rfl) ?_
      refine g_iload_4 hX (dk DX12_goWeeks 20 rfl) ?_
      refine g_iload_2 hX (dk DX12_goWeeks 21 rfl) ?_
      refine g_iload_3 hX (dk DX12_goWeeks 22 rfl) ?_
      refine g_iload_4 hX (dk DX12_goWeeks 23 rfl) ?_
      refine g_imul hX (dk DX12_goWeeks 24 rfl) ?_
      refine g_isub hX (dk DX12_goWeeks 25 rfl) ?_
      refine g_c3v hX sX12_goWeeks_41 (by decide) (Nat.le_of_ble_eq_true rfl) (rc0 rfl (MLt hM (by decide)) (MC hM)) (by decide) (by decide) (c_X12_goWeek hG hM hE hA hw1 (by omega) (show TS J idl (0, kn1, co1, st1, ca1, fw1, fd1) from hT)) ?_
      rintro J2 _ ⟨hT2, hfr2, rfl⟩
      have hfr := hfr.trans hfr2
      refine g_iinc_4 hX (dk DX12_goWeeks 27 rfl) (nI_1 w) (by decide) rfl ?_
      refine g_goto (tgt := 21) hX (dk DX12_goWeeks 28 rfl) (by decide) ?_
      exact ih k (by omega) (w + 1) (wkF E idl w (had, kn1, co1, st1, ca1, fw1, fd1)) J2 (by omega) (by omega) (by rw [← hv, wksF_s]) hT2 hfr
  refine g_aload_0 hX (dk DX12_goWeeks 0 rfl) ?_
  refine g_iconst (v := 2) hX (dk DX12_goWeeks 1 rfl) (by decide) ?_
  refine g_bipush (v := 7) hX (dk DX12_goWeeks 2 rfl) (by decide) ?_
  refine g_c3I hX sX12_goWeeks_4 (by decide) (Nat.le_of_ble_eq_true rfl) (rc0 rfl (MLt hM (by decide)) (MC hM)) (by decide) (by decide) (c_X12_lastOf hG hM hE hA) ?_
  refine g_istore_2 hX (dk DX12_goWeeks 4 rfl) (by decide) rfl ?_
  refine g_aload_0 hX (dk DX12_goWeeks 5 rfl) ?_
  refine g_iconst (v := 3) hX (dk DX12_goWeeks 6 rfl) (by decide) ?_
  refine g_iconst (v := 1) hX (dk DX12_goWeeks 7 rfl) (by decide) ?_
  refine g_c3I hX sX12_goWeeks_11 (by decide) (Nat.le_of_ble_eq_true rfl) (rc0 rfl (MLt hM (by decide)) (MC hM)) (by decide) (by decide) (c_X12_lastOf hG hM hE hA) ?_
  refine g_istore_3 hX (dk DX12_goWeeks 9 rfl) (by decide) rfl ?_
  refine g_aload_0 hX (dk DX12_goWeeks 10 rfl) ?_
  refine g_getIv hX (dk DX12_goWeeks 11 rfl) KX12 fX12_13 (by decide) rfl (MLt hM (by decide)) (MC hM) (hA.1.2.1.trans hw.1) ?_
  refine g_istore_4 hX (dk DX12_goWeeks 12 rfl) (by decide) rfl ?_
  exact g_fgt (loop21 m (wk E) a0 I rfl (Nat.le_refl _) rfl hT Fr.rf) ⟨rfl, rfl, rfl, rfl, rfl, trivial⟩

set_option maxRecDepth 8000 in
set_option maxHeartbeats 4000000 in
theorem c_X12_costBy {G : Gt} (hG : Gok G) {I : It} {h : Ht} (hM : HM h) {E : It} (hE : Inv E) (hA : Ag E I) {a b : Int32} {m : Nat} (hm : m ≤ 200) : Con G (7) 0 0 mX12_costBy [.ref 0, .int a, .int b, .int (nI m)] I h (qF (costF E a b m) [34, 35, 36, 37, 38, 39, 40] [18, 20] I h) := by
  refine con_intro (own := RX12) (lo0 := [some (.ref 0), some (.int a), some (.int b), some (.int (nI m))]) hG rfl pl_X12 (Nat.le_of_ble_eq_true rfl) rfl (fun X hX => ?_)
  refine g_aload_0 hX (dk DX12_costBy 0 rfl) ?_
  refine g_iload_1 hX (dk DX12_costBy 1 rfl) ?_
  refine g_iload_2 hX (dk DX12_costBy 2 rfl) ?_
  refine g_c3v hX sX12_costBy_3 (by decide) (Nat.le_of_ble_eq_true rfl) (rc0 rfl (MLt hM (by decide)) (MC hM)) (by decide) (by decide) (c_X12_begins hG hM) ?_
  rintro J _ ⟨hT, hfr, rfl⟩
  have hA := Ag.keep hA hfr (by decide) (by decide)
  refine g_aload_0 hX (dk DX12_costBy 4 rfl) ?_
  refine g_iload_3 hX (dk DX12_costBy 5 rfl) ?_
  refine g_c2v hX sX12_costBy_8 (by decide) (Nat.le_of_ble_eq_true rfl) (rc0 rfl (MLt hM (by decide)) (MC hM)) (by decide) (by decide) (c_X12_goWeeks hG hM hE hA hm hT) ?_
  rintro J2 _ ⟨hT2, hfr2, rfl⟩
  have hfr := (hfr.mono (F' := [34, 35, 36, 37, 38, 39, 40]) (C' := [18, 20]) (by decide) (by decide)).trans (hfr2.mono (by decide) (by decide))
  obtain ⟨⟨had, kn1, co1, st1, ca1, fw1, fd1⟩, ha2⟩ : ∃ a2, a2 = runF E a b m := ⟨_, rfl⟩
  have hT2 : TS J2 b (had, kn1, co1, st1, ca1, fw1, fd1) := by rw [ha2]; exact hT2
  refine g_aload_0 hX (dk DX12_costBy 7 rfl) ?_
  refine g_getIv hX (dk DX12_costBy 8 rfl) KX12 fX12_120 (by decide) rfl (MLt hM (by decide)) (MC hM) (hT2.2.2.1) ?_
  refine g_ireturn hX (dk DX12_costBy 9 rfl) rfl (rfl) (by decide) (by decide) ?_
  exact qF_of (by unfold costF; rw [← ha2]) hfr

set_option maxRecDepth 8000 in
set_option maxHeartbeats 4000000 in
theorem c_X12_laySaid {G : Gt} (hG : Gok G) {I : It} {h : Ht} (hM : HM h) {E : It} (hE : Inv E) (hA : Ag E I)  : Con G (4) 0 0 mX12_laySaid [.ref 0] I h (qV (fun I' h' => SY E I' ∧ Fr [] [18, 19] I I' ∧ h' = h)) := by
  refine con_intro (own := RX12) (lo0 := [some (.ref 0), none, none]) hG rfl pl_X12 (Nat.le_of_ble_eq_true rfl) rfl (fun X hX => ?_)
  have hA0 := hA
  have hc10 := inv_cnt hE
  have loop2 : ∀ (k i : Nat) (J : It), i + k = cnt E → (∀ a, a < i → ∀ y, y < 4 → J 19 (4 * a + y) = sayF E a (nI y)) → Fr [] [18, 19] I J → GG G (4) 0 0 X (qV (fun I' h' => SY E I' ∧ Fr [] [18, 19] I I' ∧ h' = h)) 2 [some (.ref 0), some (.int (nI i)), none] [] (J) (h) 0 0 := by
    intro k
    induction k using Nat.strongRecOn with | _ k ih => ?_
    intro i J hk hS hfr
    have hA := Ag.keep hA0 hfr (by decide) (by decide)
    refine g_iload_1 hX (dk DX12_laySaid 2 rfl) ?_
    refine g_aload_0 hX (dk DX12_laySaid 3 rfl) ?_
    refine g_getIv hX (dk DX12_laySaid 4 rfl) KX12 fX12_7 (by decide) rfl (MLt hM (by decide)) (MC hM) (hA.1.1.trans hc10.1) ?_
    refine g_icmp_ge (tgt := 47) hX (dk DX12_laySaid 5 rfl) (by decide) (fun hc1 => ?_) (fun hc1 => ?_)
    · refine g_return hX (dk DX12_laySaid 29 rfl) rfl (by decide) (by decide) ?_
      have hk0 := cl_end hk (by omega) hc1
      subst hk0
      exact qV_of ⟨fun a ha => hS a (by omega), hfr, rfl⟩
    · obtain ⟨k, rfl⟩ := cl_go hk (by omega) hc1
      have hi10 : i < 10 := by omega
      refine g_iconst (v := 0) hX (dk DX12_laySaid 6 rfl) (by decide) ?_
      refine g_istore_2 hX (dk DX12_laySaid 7 rfl) (by decide) rfl ?_
      have inner : ∀ (q y : Nat) (K : It), y + q = 4 → (∀ a, a < i → ∀ y, y < 4 → K 19 (4 * a + y) = sayF E a (nI y)) → (∀ z, z < y → K 19 (4 * i + z) = sayF E i (nI z)) → Fr [] [18, 19] I K → GG G 4 0 0 X (qV (fun I' h' => SY E I' ∧ Fr [] [18, 19] I I' ∧ h' = h)) 12 [some (.ref 0), some (.int (nI i)), some (.int (nI y))] [] K h 0 0 := by
        intro q
        induction q using Nat.strongRecOn with | _ q ihq => ?_
        intro y K hq hS1 hS2 hfr
        have hA := Ag.keep hA0 hfr (by decide) (by decide)
        refine g_iload_2 hX (dk DX12_laySaid 8 rfl) ?_
        refine g_iconst (v := 4) hX (dk DX12_laySaid 9 rfl) (by decide) ?_
        refine g_icmp_ge (tgt := 41) hX (dk DX12_laySaid 10 rfl) (by decide) (fun hc101 => ?_) (fun hc101 => ?_)
        · refine g_iinc_1 hX (dk DX12_laySaid 27 rfl) (nI_1 i) (by decide) rfl ?_
          refine g_goto (tgt := 2) hX (dk DX12_laySaid 28 rfl) (by decide) ?_
          have hq0 : q = 0 := cl_end (e := 4) hq (by decide) hc101
          exact g_fgt (ih k (by omega) (i + 1) K (by omega) (fun a ha z hz => by
            by_cases e : a = i
            · subst e; exact hS2 z (by omega)
            · exact hS1 a (by omega) z hz) hfr) ⟨rfl, rfl, trivial⟩
        · obtain ⟨q, rfl⟩ : ∃ z, q = z + 1 := cl_go (e := 4) hq (by decide) hc101
          have hy4 : y < 4 := by omega
          refine g_aload_0 hX (dk DX12_laySaid 11 rfl) ?_
          refine g_getRs (r := 19) hX (dk DX12_laySaid 12 rfl) KX12 fX12_111 (by decide) rfl (MLt hM (by decide)) (MC hM) (MR hM 33 (by decide) rfl) ?_
          refine g_iconst (v := 4) hX (dk DX12_laySaid 13 rfl) (by decide) ?_
          refine g_iload_1 hX (dk DX12_laySaid 14 rfl) ?_
          refine g_imul hX (dk DX12_laySaid 15 rfl) ?_
          refine g_iload_2 hX (dk DX12_laySaid 16 rfl) ?_
          refine g_iadd hX (dk DX12_laySaid 17 rfl) ?_
          refine g_aload_0 hX (dk DX12_laySaid 18 rfl) ?_
          refine g_iconst (v := 0) hX (dk DX12_laySaid 19 rfl) (by decide) ?_
          refine g_iload_1 hX (dk DX12_laySaid 20 rfl) ?_
          refine g_iload_2 hX (dk DX12_laySaid 21 rfl) ?_
          refine g_iconst (v := 0) hX (dk DX12_laySaid 22 rfl) (by decide) ?_
          refine g_c5q hX sX12_laySaid_31 (by decide) (Nat.le_of_ble_eq_true rfl) (rc0 rfl (MLt hM (by decide)) (MC hM)) (by decide) (by decide) (c_X12_sumOf hG hM hE hA hi10 (Or.inl rfl)) ?_
          rintro _ J2 _ ⟨rfl, hfr2, rfl⟩
          refine i_iastore hX (dk DX12_laySaid 24 rfl) (MLt hM (q := 19) (by decide)) (MS hM 19 (by decide) rfl) (⟨by rw [show (4 : Int32) = nI 4 from rfl, pk_mul, nI_add], by omega, by decide⟩) ?_
          refine g_gen (fun J3 hJ3 => ?_)
          have e19 : ∀ z, J2 19 z = K 19 z := fun z => congrFun (hfr2.2 19 (by decide) (by decide)) z
          have hfr := (hfr.trans (hfr2.mono (F' := []) (C' := [18, 19]) (by decide) (by decide))).trans (show Fr [] [18, 19] J2 J3 by rw [hJ3]; exact Fr.rf.pc (by decide) (by decide))
          refine g_iinc_2 hX (dk DX12_laySaid 25 rfl) (nI_1 y) (by decide) rfl ?_
          refine g_goto (tgt := 12) hX (dk DX12_laySaid 26 rfl) (by decide) ?_
          exact ihq q (by omega) (y + 1) J3 (by omega) (fun a ha z hz => by rw [hJ3, upn (by omega), e19]; exact hS1 a ha z hz) (fun z hz => by
            rw [hJ3]
            by_cases e : z = y
            · subst e; rw [up0]; rfl
            · rw [upn (by omega), e19]; exact hS2 z (by omega)) hfr
      exact inner 4 0 J rfl hS (fun z hz => absurd hz (Nat.not_lt_zero z)) hfr
  refine g_iconst (v := 0) hX (dk DX12_laySaid 0 rfl) (by decide) ?_
  refine g_istore_1 hX (dk DX12_laySaid 1 rfl) (by decide) rfl ?_
  exact g_fgt (loop2 (cnt E) 0 I (Nat.zero_add _) (fun i hi => absurd hi (Nat.not_lt_zero i)) Fr.rf) ⟨rfl, rfl, trivial⟩
end
section
set_option maxRecDepth 8000 in
set_option maxHeartbeats 4000000 in
theorem c_X12_saidAll {G : Gt} (hG : Gok G) {I : It} {h : Ht} (hM : HM h) {E : It} (hE : Inv E) {d f : Nat} (hf : f ≤ 4) (hd : d < cnt E) (hS : SY E I) : Con G (1) 0 0 mX12_saidAll [.ref 0, .int (nI d), .int (nI f)] I h (rI (allF E (I 8) d f) I h) := by
  refine con_intro (own := RX12) (lo0 := [some (.ref 0), some (.int (nI d)), some (.int (nI f)), none, none]) hG rfl pl_X12 (Nat.le_of_ble_eq_true rfl) rfl (fun X hX => ?_)
  have hc10 := (inv_cnt hE).2
  have loop5 : ∀ (k y : Nat) (z : Int32), y + k = 4 → allR E (I 8) d k y z = allF E (I 8) d f → GG G (1) 0 0 X (rI (allF E (I 8) d f) I h) 5 [some (.ref 0), some (.int (nI d)), some (.int (nI f)), some (.int z), some (.int (nI y))] [] (I) (h) 0 0 := by
    intro k
    induction k using Nat.strongRecOn with | _ k ih => ?_
    intro y z hk hv
    refine g_iload_4 hX (dk DX12_saidAll 4 rfl) ?_
    refine g_iconst (v := 4) hX (dk DX12_saidAll 5 rfl) (by decide) ?_
    refine g_icmp_ge (tgt := 39) hX (dk DX12_saidAll 6 rfl) (by decide) (fun hc1 => ?_) (fun hc1 => ?_)
    · refine g_iload_3 hX (dk DX12_saidAll 25 rfl) ?_
      refine g_ireturn hX (dk DX12_saidAll 26 rfl) rfl (rfl) (by decide) (by decide) ?_
      have hk0 := cl_end (e := 4) hk (by decide) hc1
      subst hk0
      exact rI_of hv rfl rfl
    · obtain ⟨k, rfl⟩ := cl_go (e := 4) hk (by decide) hc1
      have hy : y < 4 := by omega
      refine g_iload_3 hX (dk DX12_saidAll 7 rfl) ?_
      refine g_aload_0 hX (dk DX12_saidAll 8 rfl) ?_
      refine g_getRs (r := 8) hX (dk DX12_saidAll 9 rfl) KX12 fX12_53 (by decide) rfl (MLt hM (by decide)) (MC hM) (MR hM 14 (by decide) rfl) ?_
      refine g_iload_4 hX (dk DX12_saidAll 10 rfl) ?_
      refine i_iaload hX (dk DX12_saidAll 11 rfl) (MLt hM (q := 8) (by decide)) (MS hM 8 (by decide) rfl) (⟨rfl, hy, by decide⟩) ?_
      refine g_aload_0 hX (dk DX12_saidAll 12 rfl) ?_
      refine g_getRs (r := 19) hX (dk DX12_saidAll 13 rfl) KX12 fX12_111 (by decide) rfl (MLt hM (by decide)) (MC hM) (MR hM 33 (by decide) rfl) ?_
      refine g_iconst (v := 4) hX (dk DX12_saidAll 14 rfl) (by decide) ?_
      refine g_iload_1 hX (dk DX12_saidAll 15 rfl) ?_
      refine g_imul hX (dk DX12_saidAll 16 rfl) ?_
      refine g_iload_4 hX (dk DX12_saidAll 17 rfl) ?_
      refine g_iadd hX (dk DX12_saidAll 18 rfl) ?_
      refine v_iaload hX (dk DX12_saidAll 19 rfl) (MLt hM (q := 19) (by decide)) (MS hM 19 (by decide) rfl) (⟨by rw [show (4 : Int32) = nI 4 from rfl, pk_mul, nI_add], by omega, by decide⟩) (hS d hd y hy) ?_
      refine g_imul hX (dk DX12_saidAll 20 rfl) ?_
      refine g_iadd hX (dk DX12_saidAll 21 rfl) ?_
      refine g_istore_3 hX (dk DX12_saidAll 22 rfl) (by decide) rfl ?_
      refine g_iinc_4 hX (dk DX12_saidAll 23 rfl) (nI_1 y) (by decide) rfl ?_
      refine g_goto (tgt := 5) hX (dk DX12_saidAll 24 rfl) (by decide) ?_
      exact ih k (by omega) (y + 1) _ (by omega) (by rw [← hv, allR_s])
  refine g_iconst (v := 0) hX (dk DX12_saidAll 0 rfl) (by decide) ?_
  refine g_istore_3 hX (dk DX12_saidAll 1 rfl) (by decide) rfl ?_
  refine g_iload_2 hX (dk DX12_saidAll 2 rfl) ?_
  refine g_istore_4 hX (dk DX12_saidAll 3 rfl) (by decide) rfl ?_
  exact loop5 (4 - f) f 0 (by omega) rfl

set_option maxRecDepth 8000 in
set_option maxHeartbeats 4000000 in
theorem c_X12_saidOf {G : Gt} (hG : Gok G) {I : It} {h : Ht} (hM : HM h) {E : It} (hE : Inv E) (hA : Ag E I) {d : Nat} (hd : d < cnt E) (hS : SY E I) : Con G (2) 0 0 mX12_saidOf [.ref 0, .int (nI d)] I h (rI (saidF E (I 8) d) I h) := by
  refine con_intro (own := RX12) (lo0 := [some (.ref 0), some (.int (nI d)), none]) hG rfl pl_X12 (Nat.le_of_ble_eq_true rfl) rfl (fun X hX => ?_)
  have hc10 := (inv_cnt hE).2
  refine g_aload_0 hX (dk DX12_saidOf_0 0 rfl) ?_
  refine g_getRs (r := 2) hX (dk DX12_saidOf_0 1 rfl) KX12 fX12_35 (by decide) rfl (MLt hM (by decide)) (MC hM) (MR hM 8 (by decide) rfl) ?_
  refine g_iload_1 hX (dk DX12_saidOf_0 2 rfl) ?_
  refine v_iaload hX (dk DX12_saidOf_0 3 rfl) (MLt hM (q := 2) (by decide)) (MS hM 2 (by decide) rfl) (⟨rfl, by omega, by decide⟩) (congrFun (hA.2.1 2 (by decide)) d) ?_
  refine g_istore_2 hX (dk DX12_saidOf_0 4 rfl) (by decide) rfl ?_
  refine g_aload_0 hX (dk DX12_saidOf_0 5 rfl) ?_
  refine g_getRs (r := 1) hX (dk DX12_saidOf_0 6 rfl) KX12 fX12_31 (by decide) rfl (MLt hM (by decide)) (MC hM) (MR hM 7 (by decide) rfl) ?_
  refine g_iload_1 hX (dk DX12_saidOf_0 7 rfl) ?_
  refine v_iaload hX (dk DX12_saidOf_0 8 rfl) (MLt hM (q := 1) (by decide)) (MS hM 1 (by decide) rfl) (⟨rfl, by omega, by decide⟩) (congrFun (hA.2.1 1 (by decide)) d) ?_
  refine g_tswitch (dt := 166) hX [(1, 52), (2, 99), (3, 124), (4, 68), (5, 106), (6, 144)] (dk DX12_saidOf_0 9 rfl) (by decide +kernel) ?_
  refine ⟨fun hc1 => ?_, fun hc1n => ?_⟩
  · show GG _ _ _ _ _ _ _ _ _ _ _ _ _
    have hk := hc1
    refine g_aload_0 hX (dk DX12_saidOf_0 10 rfl) ?_
    refine g_iload_1 hX (dk DX12_saidOf_0 11 rfl) ?_
    refine g_iconst (v := 0) hX (dk DX12_saidOf_0 12 rfl) (by decide) ?_
    refine g_c3I hX sX12_saidOf_55 (by decide) (Nat.le_of_ble_eq_true rfl) (rc0 rfl (MLt hM (by decide)) (MC hM)) (by decide) (by decide) (c_X12_saidAll hG hM hE (f := 0) (by decide) hd hS) ?_
    refine g_iload_2 hX (dk DX12_saidOf_0 14 rfl) ?_
    refine g_aload_0 hX (dk DX12_saidOf_0 15 rfl) ?_
    refine g_getRs (r := 8) hX (dk DX12_saidOf_0 16 rfl) KX12 fX12_53 (by decide) rfl (MLt hM (by decide)) (MC hM) (MR hM 14 (by decide) rfl) ?_
    refine g_iconst (v := 0) hX (dk DX12_saidOf_0 17 rfl) (by decide) ?_
    refine i_iaload (j := 0) hX (dk DX12_saidOf_0 18 rfl) (MLt hM (q := 8) (by decide)) (MS hM 8 (by decide) rfl) (⟨rfl, by decide, by decide⟩) ?_
    refine g_imul hX (dk DX12_saidOf_0 19 rfl) ?_
    refine g_iadd hX (dk DX12_saidOf_0 20 rfl) ?_
    refine g_ireturn hX (dk DX12_saidOf_0 21 rfl) rfl (rfl) (by decide) (by decide) ?_
    exact rI_of (by unfold saidF; rw [hk]; rfl) rfl rfl
  refine ⟨fun hc2 => ?_, fun hc2n => ?_⟩
  · show GG _ _ _ _ _ _ _ _ _ _ _ _ _
    have hk := hc2
    refine g_aload_0 hX (dk DX12_saidOf_0 43 rfl) ?_
    refine g_iload_1 hX (dk DX12_saidOf_0 44 rfl) ?_
    refine g_iconst (v := 2) hX (dk DX12_saidOf_0 45 rfl) (by decide) ?_
    refine g_c3I hX sX12_saidOf_102 (by decide) (Nat.le_of_ble_eq_true rfl) (rc0 rfl (MLt hM (by decide)) (MC hM)) (by decide) (by decide) (c_X12_saidAll hG hM hE (f := 2) (by decide) hd hS) ?_
    refine g_ireturn hX (dk DX12_saidOf_0 47 rfl) rfl (rfl) (by decide) (by decide) ?_
    exact rI_of (by unfold saidF; rw [hk]; rfl) rfl rfl
  refine ⟨fun hc3 => ?_, fun hc3n => ?_⟩
  · show GG _ _ _ _ _ _ _ _ _ _ _ _ _
    have hk := hc3
    refine g_aload_0 hX (dk DX12_saidOf_1 2 rfl) ?_
    refine g_getRs (r := 8) hX (dk DX12_saidOf_1 3 rfl) KX12 fX12_53 (by decide) rfl (MLt hM (by decide)) (MC hM) (MR hM 14 (by decide) rfl) ?_
    refine g_iconst (v := 3) hX (dk DX12_saidOf_1 4 rfl) (by decide) ?_
    refine i_iaload (j := 3) hX (dk DX12_saidOf_1 5 rfl) (MLt hM (q := 8) (by decide)) (MS hM 8 (by decide) rfl) (⟨rfl, by decide, by decide⟩) ?_
    refine g_if_ne (tgt := 137) hX (dk DX12_saidOf_1 6 rfl) (by decide) (fun hc4 => ?_) (fun hc4 => ?_)
    · have hV : (if I 8 3 = 0 then 0 else allF E (I 8) d 0) = allF E (I 8) d 0 := if_neg hc4
      refine g_aload_0 hX (dk DX12_saidOf_1 9 rfl) ?_
      refine g_iload_1 hX (dk DX12_saidOf_1 10 rfl) ?_
      refine g_iconst (v := 0) hX (dk DX12_saidOf_1 11 rfl) (by decide) ?_
      refine g_c3I hX sX12_saidOf_140 (by decide) (Nat.le_of_ble_eq_true rfl) (rc0 rfl (MLt hM (by decide)) (MC hM)) (by decide) (by decide) (c_X12_saidAll hG hM hE (f := 0) (by decide) hd hS) ?_
      refine g_ireturn hX (dk DX12_saidOf_1 13 rfl) rfl (rfl) (by decide) (by decide) ?_
      exact rI_of (by unfold saidF; rw [hk, hV]; rfl) rfl rfl
    · have hV : (if I 8 3 = 0 then 0 else allF E (I 8) d 0) = 0 := if_pos hc4
      refine g_iconst (v := 0) hX (dk DX12_saidOf_1 7 rfl) (by decide) ?_
      refine g_goto (tgt := 143) hX (dk DX12_saidOf_1 8 rfl) (by decide) ?_
      refine g_ireturn hX (dk DX12_saidOf_1 13 rfl) rfl (rfl) (by decide) (by decide) ?_
      exact rI_of (by unfold saidF; rw [hk, hV]; rfl) rfl rfl
  refine ⟨fun hc5 => ?_, fun hc5n => ?_⟩
  · show GG _ _ _ _ _ _ _ _ _ _ _ _ _
    have hk := hc5
    refine g_aload_0 hX (dk DX12_saidOf_0 22 rfl) ?_
    refine g_iload_1 hX (dk DX12_saidOf_0 23 rfl) ?_
    refine g_iconst (v := 0) hX (dk DX12_saidOf_0 24 rfl) (by decide) ?_
    refine g_c3I hX sX12_saidOf_71 (by decide) (Nat.le_of_ble_eq_true rfl) (rc0 rfl (MLt hM (by decide)) (MC hM)) (by decide) (by decide) (c_X12_saidAll hG hM hE (f := 0) (by decide) hd hS) ?_
    refine g_iload_2 hX (dk DX12_saidOf_0 26 rfl) ?_
    refine g_aload_0 hX (dk DX12_saidOf_0 27 rfl) ?_
    refine g_getRs (r := 8) hX (dk DX12_saidOf_0 28 rfl) KX12 fX12_53 (by decide) rfl (MLt hM (by decide)) (MC hM) (MR hM 14 (by decide) rfl) ?_
    refine g_iconst (v := 0) hX (dk DX12_saidOf_0 29 rfl) (by decide) ?_
    refine i_iaload (j := 0) hX (dk DX12_saidOf_0 30 rfl) (MLt hM (q := 8) (by decide)) (MS hM 8 (by decide) rfl) (⟨rfl, by decide, by decide⟩) ?_
    refine g_imul hX (dk DX12_saidOf_0 31 rfl) ?_
    refine g_iadd hX (dk DX12_saidOf_0 32 rfl) ?_
    refine g_aload_0 hX (dk DX12_saidOf_0 33 rfl) ?_
    refine g_getRs (r := 8) hX (dk DX12_saidOf_0 34 rfl) KX12 fX12_53 (by decide) rfl (MLt hM (by decide)) (MC hM) (MR hM 14 (by decide) rfl) ?_
    refine g_iconst (v := 2) hX (dk DX12_saidOf_0 35 rfl) (by decide) ?_
    refine i_iaload (j := 2) hX (dk DX12_saidOf_0 36 rfl) (MLt hM (q := 8) (by decide)) (MS hM 8 (by decide) rfl) (⟨rfl, by decide, by decide⟩) ?_
    refine g_if_le (tgt := 96) hX (dk DX12_saidOf_0 37 rfl) (by decide) (fun hc6 => ?_) (fun hc6 => ?_)
    · have hV : (if 0 < I 8 2 then E 2 d else 0) = 0 := if_neg (Int32.not_lt.mpr hc6)
      refine g_iconst (v := 0) hX (dk DX12_saidOf_0 40 rfl) (by decide) ?_
      refine g_iadd hX (dk DX12_saidOf_0 41 rfl) ?_
      refine g_ireturn hX (dk DX12_saidOf_0 42 rfl) rfl (rfl) (by decide) (by decide) ?_
      exact rI_of (by unfold saidF; rw [hk, hV]; rfl) rfl rfl
    · have hV : (if 0 < I 8 2 then E 2 d else 0) = E 2 d := if_pos (Int32.not_le.mp hc6)
      refine g_iload_2 hX (dk DX12_saidOf_0 38 rfl) ?_
      refine g_goto (tgt := 97) hX (dk DX12_saidOf_0 39 rfl) (by decide) ?_
      refine g_iadd hX (dk DX12_saidOf_0 41 rfl) ?_
      refine g_ireturn hX (dk DX12_saidOf_0 42 rfl) rfl (rfl) (by decide) (by decide) ?_
      exact rI_of (by unfold saidF; rw [hk, hV]; rfl) rfl rfl
  refine ⟨fun hc7 => ?_, fun hc7n => ?_⟩
  · show GG _ _ _ _ _ _ _ _ _ _ _ _ _
    have hk := hc7
    refine g_aload_0 hX (dk DX12_saidOf_0 48 rfl) ?_
    refine g_iload_1 hX (dk DX12_saidOf_0 49 rfl) ?_
    refine g_iconst (v := 2) hX (dk DX12_saidOf_0 50 rfl) (by decide) ?_
    refine g_c3I hX sX12_saidOf_109 (by decide) (Nat.le_of_ble_eq_true rfl) (rc0 rfl (MLt hM (by decide)) (MC hM)) (by decide) (by decide) (c_X12_saidAll hG hM hE (f := 2) (by decide) hd hS) ?_
    refine g_iconst (v := 2) hX (dk DX12_saidOf_0 52 rfl) (by decide) ?_
    refine g_iload_2 hX (dk DX12_saidOf_0 53 rfl) ?_
    refine g_imul hX (dk DX12_saidOf_0 54 rfl) ?_
    refine g_aload_0 hX (dk DX12_saidOf_0 55 rfl) ?_
    refine g_getRs (r := 8) hX (dk DX12_saidOf_0 56 rfl) KX12 fX12_53 (by decide) rfl (MLt hM (by decide)) (MC hM) (MR hM 14 (by decide) rfl) ?_
    refine g_iconst (v := 1) hX (dk DX12_saidOf_0 57 rfl) (by decide) ?_
    refine i_iaload (j := 1) hX (dk DX12_saidOf_0 58 rfl) (MLt hM (q := 8) (by decide)) (MS hM 8 (by decide) rfl) (⟨rfl, by decide, by decide⟩) ?_
    refine g_imul hX (dk DX12_saidOf_0 59 rfl) ?_
    refine g_iadd hX (dk DX12_saidOf_1 0 rfl) ?_
    refine g_ireturn hX (dk DX12_saidOf_1 1 rfl) rfl (rfl) (by decide) (by decide) ?_
    exact rI_of (by unfold saidF; rw [hk]; rfl) rfl rfl
  refine ⟨fun hc8 => ?_, fun hc8n => ?_⟩
  · show GG _ _ _ _ _ _ _ _ _ _ _ _ _
    have hk := hc8
    refine g_aload_0 hX (dk DX12_saidOf_1 14 rfl) ?_
    refine g_getRs (r := 8) hX (dk DX12_saidOf_1 15 rfl) KX12 fX12_53 (by decide) rfl (MLt hM (by decide)) (MC hM) (MR hM 14 (by decide) rfl) ?_
    refine g_iconst (v := 3) hX (dk DX12_saidOf_1 16 rfl) (by decide) ?_
    refine i_iaload (j := 3) hX (dk DX12_saidOf_1 17 rfl) (MLt hM (q := 8) (by decide)) (MS hM 8 (by decide) rfl) (⟨rfl, by decide, by decide⟩) ?_
    refine g_if_ne (tgt := 157) hX (dk DX12_saidOf_1 18 rfl) (by decide) (fun hc9 => ?_) (fun hc9 => ?_)
    · have hV : (if I 8 3 = 0 then 0 else allF E (I 8) d 0) = allF E (I 8) d 0 := if_neg hc9
      refine g_aload_0 hX (dk DX12_saidOf_1 21 rfl) ?_
      refine g_iload_1 hX (dk DX12_saidOf_1 22 rfl) ?_
      refine g_iconst (v := 0) hX (dk DX12_saidOf_1 23 rfl) (by decide) ?_
      refine g_c3I hX sX12_saidOf_160 (by decide) (Nat.le_of_ble_eq_true rfl) (rc0 rfl (MLt hM (by decide)) (MC hM)) (by decide) (by decide) (c_X12_saidAll hG hM hE (f := 0) (by decide) hd hS) ?_
      refine g_iload_2 hX (dk DX12_saidOf_1 25 rfl) ?_
      refine g_isub hX (dk DX12_saidOf_1 26 rfl) ?_
      refine g_ireturn hX (dk DX12_saidOf_1 27 rfl) rfl (rfl) (by decide) (by decide) ?_
      exact rI_of (by unfold saidF; rw [hk, hV]; rfl) rfl rfl
    · have hV : (if I 8 3 = 0 then 0 else allF E (I 8) d 0) = 0 := if_pos hc9
      refine g_iconst (v := 0) hX (dk DX12_saidOf_1 19 rfl) (by decide) ?_
      refine g_goto (tgt := 163) hX (dk DX12_saidOf_1 20 rfl) (by decide) ?_
      refine g_iload_2 hX (dk DX12_saidOf_1 25 rfl) ?_
      refine g_isub hX (dk DX12_saidOf_1 26 rfl) ?_
      refine g_ireturn hX (dk DX12_saidOf_1 27 rfl) rfl (rfl) (by decide) (by decide) ?_
      exact rI_of (by unfold saidF; rw [hk, hV]; rfl) rfl rfl
  show GG _ _ _ _ _ _ _ _ _ _ _ _ _
  refine g_aload_0 hX (dk DX12_saidOf_1 28 rfl) ?_
  refine g_iload_1 hX (dk DX12_saidOf_1 29 rfl) ?_
  refine g_iconst (v := 0) hX (dk DX12_saidOf_1 30 rfl) (by decide) ?_
  refine g_c3I hX sX12_saidOf_169 (by decide) (Nat.le_of_ble_eq_true rfl) (rc0 rfl (MLt hM (by decide)) (MC hM)) (by decide) (by decide) (c_X12_saidAll hG hM hE (f := 0) (by decide) hd hS) ?_
  refine g_ireturn hX (dk DX12_saidOf_1 32 rfl) rfl (rfl) (by decide) (by decide) ?_
  exact rI_of (by unfold saidF; simp_all) rfl rfl

set_option maxRecDepth 8000 in
set_option maxHeartbeats 4000000 in
theorem c_X12_over {G : Gt} (hG : Gok G) {I : It} {h : Ht} (hM : HM h) {E : It} (hE : Inv E) (hA : Ag E I) (hS : SY E I) : Con G (3) 0 0 mX12_over [.ref 0] I h (rI (overF E (I 8)) I h) := by
  refine con_intro (own := RX12) (lo0 := [some (.ref 0), none, none]) hG rfl pl_X12 (Nat.le_of_ble_eq_true rfl) rfl (fun X hX => ?_)
  have hc10 := inv_cnt hE
  have loop4 : ∀ (k i : Nat) (z : Int32), i + k = cnt E → overR E (I 8) k i z = overF E (I 8) → GG G (3) 0 0 X (rI (overF E (I 8)) I h) 4 [some (.ref 0), some (.int z), some (.int (nI i))] [] (I) (h) 0 0 := by
    intro k
    induction k using Nat.strongRecOn with | _ k ih => ?_
    intro i z hk hv
    refine g_iload_2 hX (dk DX12_over 4 rfl) ?_
    refine g_aload_0 hX (dk DX12_over 5 rfl) ?_
    refine g_getIv hX (dk DX12_over 6 rfl) KX12 fX12_7 (by decide) rfl (MLt hM (by decide)) (MC hM) (hA.1.1.trans hc10.1) ?_
    refine g_icmp_ge (tgt := 42) hX (dk DX12_over 7 rfl) (by decide) (fun hc1 => ?_) (fun hc1 => ?_)
    · refine g_iload_1 hX (dk DX12_over 26 rfl) ?_
      refine g_ireturn hX (dk DX12_over 27 rfl) rfl (rfl) (by decide) (by decide) ?_
      have hk0 := cl_end hk (by omega) hc1
      subst hk0
      exact rI_of hv rfl rfl
    · obtain ⟨k, rfl⟩ := cl_go hk (by omega) hc1
      have hi : i < cnt E := by omega
      refine g_iload_1 hX (dk DX12_over 8 rfl) ?_
      refine g_aload_0 hX (dk DX12_over 9 rfl) ?_
      refine g_iload_2 hX (dk DX12_over 10 rfl) ?_
      refine g_c2I hX sX12_over_15 (by decide) (Nat.le_of_ble_eq_true rfl) (rc0 rfl (MLt hM (by decide)) (MC hM)) (by decide) (by decide) (c_X12_saidOf hG hM hE hA hi hS) ?_
      refine g_aload_0 hX (dk DX12_over 12 rfl) ?_
      refine g_getRs (r := 6) hX (dk DX12_over 13 rfl) KX12 fX12_47 (by decide) rfl (MLt hM (by decide)) (MC hM) (MR hM 12 (by decide) rfl) ?_
      refine g_iload_2 hX (dk DX12_over 14 rfl) ?_
      refine v_iaload hX (dk DX12_over 15 rfl) (MLt hM (q := 6) (by decide)) (MS hM 6 (by decide) rfl) (⟨rfl, by omega, by decide⟩) (congrFun (hA.2.1 6 (by decide)) i) ?_
      refine g_icmp_lt (tgt := 33) hX (dk DX12_over 16 rfl) (by decide) (fun hc2 => ?_) (fun hc2 => ?_)
      · have hV : (if E 6 i ≤ saidF E (I 8) i then bitI (nI i) else 0) = 0 := if_neg (Int32.not_le.mpr hc2)
        refine g_iconst (v := 0) hX (dk DX12_over 21 rfl) (by decide) ?_
        refine g_ior hX (dk DX12_over 22 rfl) ?_
        refine g_istore_1 hX (dk DX12_over 23 rfl) (by decide) rfl ?_
        refine g_iinc_2 hX (dk DX12_over 24 rfl) (nI_1 i) (by decide) rfl ?_
        refine g_goto (tgt := 4) hX (dk DX12_over 25 rfl) (by decide) ?_
        exact ih k (by omega) (i + 1) _ (by omega) (by rw [← hv, overR_s, hV]; first | done | rfl)
      · have hV : (if E 6 i ≤ saidF E (I 8) i then bitI (nI i) else 0) = bitI (nI i) := if_pos (Int32.not_lt.mp hc2)
        refine g_iconst (v := 1) hX (dk DX12_over 17 rfl) (by decide) ?_
        refine g_iload_2 hX (dk DX12_over 18 rfl) ?_
        refine g_ishl hX (dk DX12_over 19 rfl) ?_
        refine g_goto (tgt := 34) hX (dk DX12_over 20 rfl) (by decide) ?_
        refine g_ior hX (dk DX12_over 22 rfl) ?_
        refine g_istore_1 hX (dk DX12_over 23 rfl) (by decide) rfl ?_
        refine g_iinc_2 hX (dk DX12_over 24 rfl) (nI_1 i) (by decide) rfl ?_
        refine g_goto (tgt := 4) hX (dk DX12_over 25 rfl) (by decide) ?_
        exact ih k (by omega) (i + 1) _ (by omega) (by rw [← hv, overR_s, hV]; first | done | rfl)
  refine g_iconst (v := 0) hX (dk DX12_over 0 rfl) (by decide) ?_
  refine g_istore_1 hX (dk DX12_over 1 rfl) (by decide) rfl ?_
  refine g_iconst (v := 0) hX (dk DX12_over 2 rfl) (by decide) ?_
  refine g_istore_2 hX (dk DX12_over 3 rfl) (by decide) rfl ?_
  exact loop4 (cnt E) 0 0 (Nat.zero_add _) rfl

set_option maxRecDepth 8000 in
set_option maxHeartbeats 4000000 in
theorem c_X12_costHanded {G : Gt} (hG : Gok G) {I : It} {h : Ht} (hM : HM h) {E : It} (hE : Inv E) (hA : Ag E I) {m : Nat} (hm : m ≤ 200) (hS : SY E I) : Con G (8) 0 0 mX12_costHanded [.ref 0, .int (nI m)] I h (qF (costF E (I 0 5 ||| overF E (I 8)) (I 0 6) m) [34, 35, 36, 37, 38, 39, 40] [18, 20] I h) := by
  refine con_intro (own := RX12) (lo0 := [some (.ref 0), some (.int (nI m))]) hG rfl pl_X12 (Nat.le_of_ble_eq_true rfl) rfl (fun X hX => ?_)
  refine g_aload_0 hX (dk DX12_costHanded 0 rfl) ?_
  refine g_aload_0 hX (dk DX12_costHanded 1 rfl) ?_
  refine g_getI hX (dk DX12_costHanded 2 rfl) KX12 fX12_25 (by decide) rfl (MLt hM (by decide)) (MC hM) ?_
  refine g_aload_0 hX (dk DX12_costHanded 3 rfl) ?_
  refine g_c1I hX sX12_costHanded_6 (by decide) (Nat.le_of_ble_eq_true rfl) (rc0 rfl (MLt hM (by decide)) (MC hM)) (by decide) (by decide) (c_X12_over hG hM hE hA hS) ?_
  refine g_ior hX (dk DX12_costHanded 5 rfl) ?_
  refine g_aload_0 hX (dk DX12_costHanded 6 rfl) ?_
  refine g_getI hX (dk DX12_costHanded 7 rfl) KX12 fX12_28 (by decide) rfl (MLt hM (by decide)) (MC hM) ?_
  refine g_iload_1 hX (dk DX12_costHanded 8 rfl) ?_
  refine g_c4q hX sX12_costHanded_15 (by decide) (Nat.le_of_ble_eq_true rfl) (rc0 rfl (MLt hM (by decide)) (MC hM)) (by decide) (by decide) (c_X12_costBy hG hM hE hA hm) ?_
  rintro _ J2 _ ⟨rfl, hfr2, rfl⟩
  refine g_ireturn hX (dk DX12_costHanded 10 rfl) rfl (rfl) (by decide) (by decide) ?_
  exact qF_of rfl hfr2

set_option maxRecDepth 8000 in
set_option maxHeartbeats 4000000 in
theorem c_X12_ones {G : Gt} (hG : Gok G) {I : It} {h : Ht}  {m : Nat} (hm : m < 1024) : Con G (1) 0 0 mX12_ones [.ref 0, .int (nI m)] I h (rI (nI (onesN m)) I h) := by
  refine con_intro (own := RX12) (lo0 := [some (.ref 0), some (.int (nI m)), none, none]) hG rfl pl_X12 (Nat.le_of_ble_eq_true rfl) rfl (fun X hX => ?_)
  have loop4 : ∀ (l c : Nat), l < 1024 → c + onesN l = onesN m → GG G (1) 0 0 X (rI (nI (onesN m)) I h) 4 [some (.ref 0), some (.int (nI m)), some (.int (nI c)), some (.int (nI l))] [] (I) (h) 0 0 := by
    intro l
    induction l using Nat.strongRecOn with | _ l ih => ?_
    intro c hl hv
    refine g_iload_3 hX (dk DX12_ones 4 rfl) ?_
    refine g_if_eq (tgt := 20) hX (dk DX12_ones 5 rfl) (by decide) (fun hc1 => ?_) (fun hc1 => ?_)
    · refine g_iload_2 hX (dk DX12_ones 14 rfl) ?_
      refine g_ireturn hX (dk DX12_ones 15 rfl) rfl (rfl) (by decide) (by decide) ?_
      have hl0 : l = 0 := (nI_eq (b := 0) (by omega) (by decide)).mp hc1
      subst hl0
      exact rI_of (by rw [← hv]; rfl) rfl rfl
    · have hl0 : l ≠ 0 := fun e => hc1 (by rw [e]; rfl)
      have hs := on_step l hl hl0
      refine g_iinc_2 hX (dk DX12_ones 6 rfl) (nI_1 c) (by decide) rfl ?_
      refine g_iload_3 hX (dk DX12_ones 7 rfl) ?_
      refine g_iload_3 hX (dk DX12_ones 8 rfl) ?_
      refine g_iconst (v := 1) hX (dk DX12_ones 9 rfl) (by decide) ?_
      refine g_isub hX (dk DX12_ones 10 rfl) ?_
      refine g_iand hX (dk DX12_ones 11 rfl) ?_
      refine g_nmI (nI (l &&& (l - 1))) hs.1 ?_
      refine g_istore_3 hX (dk DX12_ones 12 rfl) (by decide) rfl ?_
      refine g_goto (tgt := 4) hX (dk DX12_ones 13 rfl) (by decide) ?_
      exact ih (l &&& (l - 1)) hs.2.1 (c + 1) (by omega) (by omega)
  refine g_iconst (v := 0) hX (dk DX12_ones 0 rfl) (by decide) ?_
  refine g_istore_2 hX (dk DX12_ones 1 rfl) (by decide) rfl ?_
  refine g_iload_1 hX (dk DX12_ones 2 rfl) ?_
  refine g_istore_3 hX (dk DX12_ones 3 rfl) (by decide) rfl ?_
  exact loop4 m 0 hm (Nat.zero_add _)

set_option maxRecDepth 8000 in
set_option maxHeartbeats 4000000 in
theorem c_X12_keepHours {G : Gt} (hG : Gok G) {I : It} {h : Ht} (hM : HM h)  : Con G (1) 0 0 mX12_keepHours [.ref 0] I h (qV (fun I' h' => (∀ y, y < 4 → I' 21 y = I 8 y) ∧ (∀ y, 4 ≤ y → I' 21 y = I 21 y) ∧ Fr [] [21] I I' ∧ h' = h)) := by
  refine con_intro (own := RX12) (lo0 := [some (.ref 0), none]) hG rfl pl_X12 (Nat.le_of_ble_eq_true rfl) rfl (fun X hX => ?_)
  have loop2 : ∀ (k y : Nat) (J : It), y + k = 4 → (∀ a, a < y → J 21 a = I 8 a) → (∀ a, y ≤ a → J 21 a = I 21 a) → Fr [] [21] I J → GG G (1) 0 0 X (qV (fun I' h' => (∀ y, y < 4 → I' 21 y = I 8 y) ∧ (∀ y, 4 ≤ y → I' 21 y = I 21 y) ∧ Fr [] [21] I I' ∧ h' = h)) 2 [some (.ref 0), some (.int (nI y))] [] (J) (h) 0 0 := by
    intro k
    induction k using Nat.strongRecOn with | _ k ih => ?_
    intro y J hk h1 h2 hfr
    refine g_iload_1 hX (dk DX12_keepHours 2 rfl) ?_
    refine g_iconst (v := 4) hX (dk DX12_keepHours 3 rfl) (by decide) ?_
    refine g_icmp_ge (tgt := 25) hX (dk DX12_keepHours 4 rfl) (by decide) (fun hc1 => ?_) (fun hc1 => ?_)
    · refine g_return hX (dk DX12_keepHours 15 rfl) rfl (by decide) (by decide) ?_
      have hk0 := cl_end (e := 4) hk (by decide) hc1
      subst hk0
      exact qV_of ⟨fun a ha => h1 a (by omega), fun a ha => h2 a (by omega), hfr, rfl⟩
    · obtain ⟨k, rfl⟩ := cl_go (e := 4) hk (by decide) hc1
      refine g_aload_0 hX (dk DX12_keepHours 5 rfl) ?_
      refine g_getRs (r := 21) hX (dk DX12_keepHours 6 rfl) KX12 fX12_138 (by decide) rfl (MLt hM (by decide)) (MC hM) (MR hM 42 (by decide) rfl) ?_
      refine g_iload_1 hX (dk DX12_keepHours 7 rfl) ?_
      refine g_aload_0 hX (dk DX12_keepHours 8 rfl) ?_
      refine g_getRs (r := 8) hX (dk DX12_keepHours 9 rfl) KX12 fX12_53 (by decide) rfl (MLt hM (by decide)) (MC hM) (MR hM 14 (by decide) rfl) ?_
      refine g_iload_1 hX (dk DX12_keepHours 10 rfl) ?_
      refine i_iaload hX (dk DX12_keepHours 11 rfl) (MLt hM (q := 8) (by decide)) (MS hM 8 (by decide) rfl) (⟨rfl, by omega, by decide⟩) ?_
      refine i_iastore hX (dk DX12_keepHours 12 rfl) (MLt hM (q := 21) (by decide)) (MS hM 21 (by decide) rfl) (⟨rfl, by omega, by decide⟩) ?_
      refine g_gen (fun J2 hJ2 => ?_)
      have e8 : J 8 y = I 8 y := congrFun (hfr.2 8 (by decide) (by decide)) y
      refine g_iinc_1 hX (dk DX12_keepHours 13 rfl) (nI_1 y) (by decide) rfl ?_
      refine g_goto (tgt := 2) hX (dk DX12_keepHours 14 rfl) (by decide) ?_
      exact ih k (by omega) (y + 1) J2 (by omega) (fun a ha => by
        rw [hJ2]
        by_cases e : a = y
        · subst e; rw [up0]; exact e8
        · rw [upn (by omega)]; exact h1 a (by omega)) (fun a ha => by rw [hJ2, upn (by omega)]; exact h2 a (by omega)) (by rw [hJ2]; exact hfr.pc (by decide) (by decide))
  refine g_iconst (v := 0) hX (dk DX12_keepHours 0 rfl) (by decide) ?_
  refine g_istore_1 hX (dk DX12_keepHours 1 rfl) (by decide) rfl ?_
  exact loop2 4 0 I rfl (fun y hy => absurd hy (Nat.not_lt_zero y)) (fun y _ => rfl) Fr.rf

set_option maxRecDepth 8000 in
set_option maxHeartbeats 4000000 in
theorem c_X12_putHours {G : Gt} (hG : Gok G) {I : It} {h : Ht} (hM : HM h)  : Con G (1) 0 0 mX12_putHours [.ref 0] I h (qV (fun I' h' => (∀ y, y < 4 → I' 8 y = I 21 y) ∧ (∀ y, 4 ≤ y → I' 8 y = I 8 y) ∧ Fr [] [8] I I' ∧ h' = h)) := by
  refine con_intro (own := RX12) (lo0 := [some (.ref 0), none]) hG rfl pl_X12 (Nat.le_of_ble_eq_true rfl) rfl (fun X hX => ?_)
  have loop2 : ∀ (k y : Nat) (J : It), y + k = 4 → (∀ a, a < y → J 8 a = I 21 a) → (∀ a, y ≤ a → J 8 a = I 8 a) → Fr [] [8] I J → GG G (1) 0 0 X (qV (fun I' h' => (∀ y, y < 4 → I' 8 y = I 21 y) ∧ (∀ y, 4 ≤ y → I' 8 y = I 8 y) ∧ Fr [] [8] I I' ∧ h' = h)) 2 [some (.ref 0), some (.int (nI y))] [] (J) (h) 0 0 := by
    intro k
    induction k using Nat.strongRecOn with | _ k ih => ?_
    intro y J hk h1 h2 hfr
    refine g_iload_1 hX (dk DX12_putHours 2 rfl) ?_
    refine g_iconst (v := 4) hX (dk DX12_putHours 3 rfl) (by decide) ?_
    refine g_icmp_ge (tgt := 25) hX (dk DX12_putHours 4 rfl) (by decide) (fun hc1 => ?_) (fun hc1 => ?_)
    · refine g_return hX (dk DX12_putHours 15 rfl) rfl (by decide) (by decide) ?_
      have hk0 := cl_end (e := 4) hk (by decide) hc1
      subst hk0
      exact qV_of ⟨fun a ha => h1 a (by omega), fun a ha => h2 a (by omega), hfr, rfl⟩
    · obtain ⟨k, rfl⟩ := cl_go (e := 4) hk (by decide) hc1
      refine g_aload_0 hX (dk DX12_putHours 5 rfl) ?_
      refine g_getRs (r := 8) hX (dk DX12_putHours 6 rfl) KX12 fX12_53 (by decide) rfl (MLt hM (by decide)) (MC hM) (MR hM 14 (by decide) rfl) ?_
      refine g_iload_1 hX (dk DX12_putHours 7 rfl) ?_
      refine g_aload_0 hX (dk DX12_putHours 8 rfl) ?_
      refine g_getRs (r := 21) hX (dk DX12_putHours 9 rfl) KX12 fX12_138 (by decide) rfl (MLt hM (by decide)) (MC hM) (MR hM 42 (by decide) rfl) ?_
      refine g_iload_1 hX (dk DX12_putHours 10 rfl) ?_
      refine i_iaload hX (dk DX12_putHours 11 rfl) (MLt hM (q := 21) (by decide)) (MS hM 21 (by decide) rfl) (⟨rfl, by omega, by decide⟩) ?_
      refine i_iastore hX (dk DX12_putHours 12 rfl) (MLt hM (q := 8) (by decide)) (MS hM 8 (by decide) rfl) (⟨rfl, by omega, by decide⟩) ?_
      refine g_gen (fun J2 hJ2 => ?_)
      have e8 : J 21 y = I 21 y := congrFun (hfr.2 21 (by decide) (by decide)) y
      refine g_iinc_1 hX (dk DX12_putHours 13 rfl) (nI_1 y) (by decide) rfl ?_
      refine g_goto (tgt := 2) hX (dk DX12_putHours 14 rfl) (by decide) ?_
      exact ih k (by omega) (y + 1) J2 (by omega) (fun a ha => by
        rw [hJ2]
        by_cases e : a = y
        · subst e; rw [up0]; exact e8
        · rw [upn (by omega)]; exact h1 a (by omega)) (fun a ha => by rw [hJ2, upn (by omega)]; exact h2 a (by omega)) (by rw [hJ2]; exact hfr.pc (by decide) (by decide))
  refine g_iconst (v := 0) hX (dk DX12_putHours 0 rfl) (by decide) ?_
  refine g_istore_1 hX (dk DX12_putHours 1 rfl) (by decide) rfl ?_
  exact loop2 4 0 I rfl (fun y hy => absurd hy (Nat.not_lt_zero y)) (fun y _ => rfl) Fr.rf
end
section
set_option maxRecDepth 8000 in
set_option maxHeartbeats 4000000 in
theorem c_X12_manyIn {G : Gt} (hG : Gok G) {I : It} {h : Ht} (hM : HM h) {E : It} (hE : Inv E) (hA : Ag E I) {w : Nat} : Con G (2) 0 0 mX12_manyIn [.ref 0, .int (nI w)] I h (rI (manyF E w) I h) := by
  refine con_intro (own := RX12) (lo0 := [some (.ref 0), some (.int (nI w)), none, none]) hG rfl pl_X12 (Nat.le_of_ble_eq_true rfl) rfl (fun X hX => ?_)
  have hc10 := inv_cnt hE
  have loop4 : ∀ (k i : Nat) (z : Int32), i + k = cnt E → manyR E w k i z = manyF E w → GG G (2) 0 0 X (rI (manyF E w) I h) 4 [some (.ref 0), some (.int (nI w)), some (.int z), some (.int (nI i))] [] (I) (h) 0 0 := by
    intro k
    induction k using Nat.strongRecOn with | _ k ih => ?_
    intro i z hk hv
    refine g_iload_3 hX (dk DX12_manyIn 4 rfl) ?_
    refine g_aload_0 hX (dk DX12_manyIn 5 rfl) ?_
    refine g_getIv hX (dk DX12_manyIn 6 rfl) KX12 fX12_7 (by decide) rfl (MLt hM (by decide)) (MC hM) (hA.1.1.trans hc10.1) ?_
    refine g_icmp_ge (tgt := 35) hX (dk DX12_manyIn 7 rfl) (by decide) (fun hc1 => ?_) (fun hc1 => ?_)
    · refine g_iload_2 hX (dk DX12_manyIn 21 rfl) ?_
      refine g_ireturn hX (dk DX12_manyIn 22 rfl) rfl (rfl) (by decide) (by decide) ?_
      have hk0 := cl_end hk (by omega) hc1
      subst hk0
      exact rI_of hv rfl rfl
    · obtain ⟨k, rfl⟩ := cl_go hk (by omega) hc1
      have hi : i < cnt E := by omega
      refine g_iload_2 hX (dk DX12_manyIn 8 rfl) ?_
      refine g_aload_0 hX (dk DX12_manyIn 9 rfl) ?_
      refine g_iload_3 hX (dk DX12_manyIn 10 rfl) ?_
      refine g_iload_1 hX (dk DX12_manyIn 11 rfl) ?_
      refine g_c3I hX sX12_manyIn_16 (by decide) (Nat.le_of_ble_eq_true rfl) (rc0 rfl (MLt hM (by decide)) (MC hM)) (by decide) (by decide) (c_X12_comes hG hM hE hA hi) ?_
      refine g_ifb_eq (tgt := 26) hX (dk DX12_manyIn 13 rfl) (by decide) (fun hc2 => ?_) (fun hc2 => ?_)
      · have hV := bI_f hc2
        refine g_iconst (v := 0) hX (dk DX12_manyIn 16 rfl) (by decide) ?_
        refine g_iadd hX (dk DX12_manyIn 17 rfl) ?_
        refine g_istore_2 hX (dk DX12_manyIn 18 rfl) (by decide) rfl ?_
        refine g_iinc_3 hX (dk DX12_manyIn 19 rfl) (nI_1 i) (by decide) rfl ?_
        refine g_goto (tgt := 4) hX (dk DX12_manyIn 20 rfl) (by decide) ?_
        exact ih k (by omega) (i + 1) _ (by omega) (by rw [← hv, manyR_s, hV])
      · have hV := bI_t hc2
        refine g_iconst (v := 1) hX (dk DX12_manyIn 14 rfl) (by decide) ?_
        refine g_goto (tgt := 27) hX (dk DX12_manyIn 15 rfl) (by decide) ?_
        refine g_iadd hX (dk DX12_manyIn 17 rfl) ?_
        refine g_istore_2 hX (dk DX12_manyIn 18 rfl) (by decide) rfl ?_
        refine g_iinc_3 hX (dk DX12_manyIn 19 rfl) (nI_1 i) (by decide) rfl ?_
        refine g_goto (tgt := 4) hX (dk DX12_manyIn 20 rfl) (by decide) ?_
        exact ih k (by omega) (i + 1) _ (by omega) (by rw [← hv, manyR_s, hV])
  refine g_iconst (v := 0) hX (dk DX12_manyIn 0 rfl) (by decide) ?_
  refine g_istore_2 hX (dk DX12_manyIn 1 rfl) (by decide) rfl ?_
  refine g_iconst (v := 0) hX (dk DX12_manyIn 2 rfl) (by decide) ?_
  refine g_istore_3 hX (dk DX12_manyIn 3 rfl) (by decide) rfl ?_
  exact loop4 (cnt E) 0 0 (Nat.zero_add _) rfl

set_option maxRecDepth 8000 in
set_option maxHeartbeats 4000000 in
theorem c_X12_allCome {G : Gt} (hG : Gok G) {I : It} {h : Ht} (hM : HM h) {E : It} (hE : Inv E) (hA : Ag E I) {w : Nat} {set : Int32} : Con G (2) 0 0 mX12_allCome [.ref 0, .int set, .int (nI w)] I h (rI (bI (allCR E set w (cnt E) 0 = true)) I h) := by
  refine con_intro (own := RX12) (lo0 := [some (.ref 0), some (.int set), some (.int (nI w)), none]) hG rfl pl_X12 (Nat.le_of_ble_eq_true rfl) rfl (fun X hX => ?_)
  have hc10 := inv_cnt hE
  have loop2 : ∀ (k i : Nat), i + k = cnt E → allCR E set w k i = allCR E set w (cnt E) 0 → GG G (2) 0 0 X (rI (bI (allCR E set w (cnt E) 0 = true)) I h) 2 [some (.ref 0), some (.int set), some (.int (nI w)), some (.int (nI i))] [] (I) (h) 0 0 := by
    intro k
    induction k using Nat.strongRecOn with | _ k ih => ?_
    intro i hk hv
    refine g_iload_3 hX (dk DX12_allCome 2 rfl) ?_
    refine g_aload_0 hX (dk DX12_allCome 3 rfl) ?_
    refine g_getIv hX (dk DX12_allCome 4 rfl) KX12 fX12_7 (by decide) rfl (MLt hM (by decide)) (MC hM) (hA.1.1.trans hc10.1) ?_
    refine g_icmp_ge (tgt := 36) hX (dk DX12_allCome 5 rfl) (by decide) (fun hc1 => ?_) (fun hc1 => ?_)
    · refine g_iconst (v := 1) hX (dk DX12_allCome 20 rfl) (by decide) ?_
      refine g_ireturn hX (dk DX12_allCome 21 rfl) rfl (by decide) (by decide) (by decide) ?_
      have hk0 := cl_end hk (by omega) hc1
      subst hk0
      exact rI_of (by rw [← hv]; rfl) rfl rfl
    · obtain ⟨k, rfl⟩ := cl_go hk (by omega) hc1
      have hi : i < cnt E := by omega
      refine g_aload_0 hX (dk DX12_allCome 6 rfl) ?_
      refine g_iload_1 hX (dk DX12_allCome 7 rfl) ?_
      refine g_iload_3 hX (dk DX12_allCome 8 rfl) ?_
      refine g_c3I hX sX12_allCome_13 (by decide) (Nat.le_of_ble_eq_true rfl) (rc0 rfl (MLt hM (by decide)) (MC hM)) (by decide) (by decide) (c_X12_has hG) ?_
      refine g_ifb_eq (tgt := 30) hX (dk DX12_allCome 10 rfl) (by decide) (fun hc2 => ?_) (fun hc2 => ?_)
      · have hst : allCR E set w (k + 1) i = allCR E set w k (i + 1) := by
          rw [allCR_s, if_neg]
          rintro ⟨e1, e2⟩
          first | exact e2 hc2 | exact hc2 e1
        refine g_iinc_3 hX (dk DX12_allCome 18 rfl) (nI_1 i) (by decide) rfl ?_
        refine g_goto (tgt := 2) hX (dk DX12_allCome 19 rfl) (by decide) ?_
        exact ih k (by omega) (i + 1) (by omega) (by rw [← hv, hst])
      · have hh := hc2
        refine g_aload_0 hX (dk DX12_allCome 11 rfl) ?_
        refine g_iload_3 hX (dk DX12_allCome 12 rfl) ?_
        refine g_iload_2 hX (dk DX12_allCome 13 rfl) ?_
        refine g_c3I hX sX12_allCome_22 (by decide) (Nat.le_of_ble_eq_true rfl) (rc0 rfl (MLt hM (by decide)) (MC hM)) (by decide) (by decide) (c_X12_comes hG hM hE hA hi) ?_
        refine g_ifb_ne (tgt := 30) hX (dk DX12_allCome 15 rfl) (by decide) (fun hc3 => ?_) (fun hc3 => ?_)
        · have hst : allCR E set w (k + 1) i = allCR E set w k (i + 1) := by
            rw [allCR_s, if_neg]
            rintro ⟨e1, e2⟩
            first | exact e2 hc3 | exact hc3 e1
          refine g_iinc_3 hX (dk DX12_allCome 18 rfl) (nI_1 i) (by decide) rfl ?_
          refine g_goto (tgt := 2) hX (dk DX12_allCome 19 rfl) (by decide) ?_
          exact ih k (by omega) (i + 1) (by omega) (by rw [← hv, hst])
        · have hst : allCR E set w (k + 1) i = false := by rw [allCR_s, if_pos ⟨hh, hc3⟩]
          refine g_iconst (v := 0) hX (dk DX12_allCome 16 rfl) (by decide) ?_
          refine g_ireturn hX (dk DX12_allCome 17 rfl) rfl (by decide) (by decide) (by decide) ?_
          exact rI_of (by rw [← hv, hst]; rfl) rfl rfl
  refine g_iconst (v := 0) hX (dk DX12_allCome 0 rfl) (by decide) ?_
  refine g_istore_3 hX (dk DX12_allCome 1 rfl) (by decide) rfl ?_
  exact loop2 (cnt E) 0 (Nat.zero_add _) rfl

set_option maxRecDepth 8000 in
set_option maxHeartbeats 4000000 in
theorem c_X12_comesIn {G : Gt} (hG : Gok G) {I : It} {h : Ht} (hM : HM h) {E : It} (hE : Inv E) (hA : Ag E I) {d m : Nat} (hd : d < cnt E) (hm : m ≤ 200) : Con G (2) 0 0 mX12_comesIn [.ref 0, .int (nI d), .int (nI m)] I h (rI (bI (comInR E d m (wk E) = true)) I h) := by
  refine con_intro (own := RX12) (lo0 := [some (.ref 0), some (.int (nI d)), some (.int (nI m)), none]) hG rfl pl_X12 (Nat.le_of_ble_eq_true rfl) rfl (fun X hX => ?_)
  have hw := inv_wk hE
  have loop5 : ∀ (k w : Nat), w + k = wk E + m → wk E ≤ w → comInR E d k w = comInR E d m (wk E) → GG G (2) 0 0 X (rI (bI (comInR E d m (wk E) = true)) I h) 5 [some (.ref 0), some (.int (nI d)), some (.int (nI m)), some (.int (nI w))] [] (I) (h) 0 0 := by
    intro k
    induction k using Nat.strongRecOn with | _ k ih => ?_
    intro w hk hw1 hv
    refine g_iload_3 hX (dk DX12_comesIn 3 rfl) ?_
    refine g_aload_0 hX (dk DX12_comesIn 4 rfl) ?_
    refine g_getIv hX (dk DX12_comesIn 5 rfl) KX12 fX12_13 (by decide) rfl (MLt hM (by decide)) (MC hM) (hA.1.2.1.trans hw.1) ?_
    refine g_iload_2 hX (dk DX12_comesIn 6 rfl) ?_
    refine g_iadd hX (dk DX12_comesIn 7 rfl) ?_
    refine g_icmp_ge (tgt := 32) hX (dk DX12_comesIn 8 rfl) (by decide) (fun hc1 => ?_) (fun hc1 => ?_)
    · refine g_iconst (v := 0) hX (dk DX12_comesIn 18 rfl) (by decide) ?_
      refine g_ireturn hX (dk DX12_comesIn 19 rfl) rfl (by decide) (by decide) (by decide) ?_
      rw [nI_add] at hc1
      have hk0 := ct_end hk (by omega) hc1
      subst hk0
      exact rI_of (by rw [← hv]; rfl) rfl rfl
    · rw [nI_add] at hc1
      obtain ⟨k, rfl⟩ := ct_go hk (by omega) hc1
      refine g_aload_0 hX (dk DX12_comesIn 9 rfl) ?_
      refine g_iload_1 hX (dk DX12_comesIn 10 rfl) ?_
      refine g_iload_3 hX (dk DX12_comesIn 11 rfl) ?_
      refine g_c3I hX sX12_comesIn_18 (by decide) (Nat.le_of_ble_eq_true rfl) (rc0 rfl (MLt hM (by decide)) (MC hM)) (by decide) (by decide) (c_X12_comes hG hM hE hA hd) ?_
      refine g_ifb_eq (tgt := 26) hX (dk DX12_comesIn 13 rfl) (by decide) (fun hc2 => ?_) (fun hc2 => ?_)
      · have hst : comInR E d (k + 1) w = comInR E d k (w + 1) := by rw [comInR_s, if_neg hc2]
        refine g_iinc_3 hX (dk DX12_comesIn 16 rfl) (nI_1 w) (by decide) rfl ?_
        refine g_goto (tgt := 5) hX (dk DX12_comesIn 17 rfl) (by decide) ?_
        exact ih k (by omega) (w + 1) (by omega) (by omega) (by rw [← hv, hst])
      · have hst : comInR E d (k + 1) w = true := by rw [comInR_s, if_pos hc2]
        refine g_iconst (v := 1) hX (dk DX12_comesIn 14 rfl) (by decide) ?_
        refine g_ireturn hX (dk DX12_comesIn 15 rfl) rfl (by decide) (by decide) (by decide) ?_
        exact rI_of (by rw [← hv, hst]; rfl) rfl rfl
  refine g_aload_0 hX (dk DX12_comesIn 0 rfl) ?_
  refine g_getIv hX (dk DX12_comesIn 1 rfl) KX12 fX12_13 (by decide) rfl (MLt hM (by decide)) (MC hM) (hA.1.2.1.trans hw.1) ?_
  refine g_istore_3 hX (dk DX12_comesIn 2 rfl) (by decide) rfl ?_
  exact loop5 m (wk E) rfl (Nat.le_refl _) rfl

set_option maxRecDepth 8000 in
set_option maxHeartbeats 4000000 in
theorem c_X12_divisor {G : Gt} (hG : Gok G) {I : It} {h : Ht}  {a b : Nat} (ha : a < 2 ^ 63) (hb : b < 2 ^ 63) : Con G (1) 0 0 mX12_divisor [.ref 0, .long (lN a), .long (lN b)] I h (rL (lN (Nat.gcd a b)) I h) := by
  refine con_intro (own := RX12) (lo0 := [some (.ref 0), some (.long (lN a)), none, some (.long (lN b)), none, none, none, none, none, none, none]) hG rfl pl_X12 (Nat.le_of_ble_eq_true rfl) rfl (fun X hX => ?_)
  have loop6 : ∀ (q p : Nat), p < 2 ^ 63 → q < 2 ^ 63 → Nat.gcd p q = Nat.gcd a b → GG G (1) 0 0 X (rL (lN (Nat.gcd a b)) I h) 6 [some (.ref 0), some (.long (lN a)), none, some (.long (lN b)), none, some (.long (lN p)), none, some (.long (lN q)), none, none, none] [] (I) (h) 0 0 := by
    intro q
    induction q using Nat.strongRecOn with | _ q ih => ?_
    intro p hp hq hv
    refine g_lload_7 hX (dk DX12_divisor 4 rfl) ?_
    refine g_lconst (v := 0) hX (dk DX12_divisor 5 rfl) (by decide) ?_
    refine g_lcmp hX (dk DX12_divisor 6 rfl) ?_
    refine g_if_eq (tgt := 31) hX (dk DX12_divisor 7 rfl) (by decide) (fun hc1 => ?_) (fun hc1 => ?_)
    · refine g_lload_5 hX (dk DX12_divisor 17 rfl) ?_
      refine g_lreturn hX (dk DX12_divisor 18 rfl) rfl (by decide) (by decide) ?_
      have hq0 : q = 0 := (pk_lEQ (b := 0) hq (by decide)).mp ((lg0 _).mp hc1)
      subst hq0
      exact rL_of (by rw [← hv, Nat.gcd_zero_right]) rfl rfl
    · have hq1 : ¬ lN q = 0 := fun e => hc1 ((lg0 _).mpr e)
      have hq0 : q ≠ 0 := fun e => hq1 (by rw [e]; rfl)
      refine g_lload_5 hX (dk DX12_divisor 8 rfl) ?_
      refine g_lload_7 hX (dk DX12_divisor 9 rfl) ?_
      refine g_lrem hX (dk DX12_divisor 10 rfl) (hq1) ?_
      refine g_nmL (lN (p % q)) (pk_lRem hp (by omega) hq) ?_
      refine g_lstore_9 hX (dk DX12_divisor 11 rfl) (by decide) rfl ?_
      refine g_lload_7 hX (dk DX12_divisor 12 rfl) ?_
      refine g_lstore_5 hX (dk DX12_divisor 13 rfl) (by decide) rfl ?_
      refine g_lload_9 hX (dk DX12_divisor 14 rfl) ?_
      refine g_lstore_7 hX (dk DX12_divisor 15 rfl) (by decide) rfl ?_
      refine g_goto (tgt := 6) hX (dk DX12_divisor 16 rfl) (by decide) ?_
      exact g_fgt (ih (p % q) (Nat.mod_lt _ (by omega)) q hq (Nat.lt_trans (Nat.mod_lt _ (by omega)) hq) (by rw [← hv, Nat.gcd_comm p q, Nat.gcd_rec q p, Nat.gcd_comm])) ⟨rfl, rfl, rfl, rfl, rfl, trivial⟩
  refine g_lload_1 hX (dk DX12_divisor 0 rfl) ?_
  refine g_lstore_5 hX (dk DX12_divisor 1 rfl) (by decide) rfl ?_
  refine g_lload_3 hX (dk DX12_divisor 2 rfl) ?_
  refine g_lstore_7 hX (dk DX12_divisor 3 rfl) (by decide) rfl ?_
  exact g_fgt (loop6 b a ha hb rfl) ⟨rfl, rfl, rfl, rfl, rfl, trivial⟩
end
section
set_option maxRecDepth 8000 in
set_option maxHeartbeats 4000000 in
theorem c_X12_body {G : Gt} (hG : Gok G) {I : It} {h : Ht} (hM : HM h) {b : Int32} {r : Nat} (hr : I 0 67 = nI r) (hr2 : r ≤ 80) : Con G (1) 0 0 mX12_body [.ref 0, .int b] I h (rV (body1 I b) h) := by
  refine con_intro (own := RX12) (lo0 := [some (.ref 0), some (.int b)]) hG rfl pl_X12 (Nat.le_of_ble_eq_true rfl) rfl (fun X hX => ?_)
  refine g_aload_0 hX (dk DX12_body 0 rfl) ?_
  refine g_getIv hX (dk DX12_body 1 rfl) KX12 fX12_214 (by decide) rfl (MLt hM (by decide)) (MC hM) (hr) ?_
  refine g_bipush (v := 20) hX (dk DX12_body 2 rfl) (by decide) ?_
  refine g_icmp_ge (tgt := 19) hX (dk DX12_body 3 rfl) (by decide) (fun hc1 => ?_) (fun hc1 => ?_)
  · skip
    refine g_aload_0 hX (dk DX12_body 10 rfl) ?_
    refine g_dup hX (dk DX12_body 11 rfl) rfl ?_
    refine g_getI hX (dk DX12_body 12 rfl) KX12 fX12_214 (by decide) rfl (MLt hM (by decide)) (MC hM) ?_
    refine g_iconst (v := 1) hX (dk DX12_body 13 rfl) (by decide) ?_
    refine g_iadd hX (dk DX12_body 14 rfl) ?_
    refine g_putI hX (dk DX12_body 15 rfl) KX12 fX12_214 (by decide) rfl (MLt hM (by decide)) (MC hM) (Or.inl rfl) (rfl) (rfl) ?_
    refine g_return hX (dk DX12_body 16 rfl) rfl (by decide) (by decide) ?_
    first
    | exact rV_of (by unfold body1; rw [if_pos hlt, show (upI I 35 r b) 0 67 = I 0 67 from rfl, hr, tN_nI (by omega)]) rfl
    | exact rV_of (by unfold body1; rw [if_neg (by rw [hr]; exact Int32.not_lt.mpr hc1), hr]) rfl
    | exact rV_of (by unfold body1; rw [if_neg (by rw [hr]; exact Int32.not_lt.mpr (Decidable.not_not.mp hc1)), hr]) rfl
  · have hb20 : r < 20 := by
      rcases Nat.lt_or_ge r 20 with z | z
      · exact z
      · exact absurd (nI_le z (by omega)) hc1
    have hlt : I 0 67 < 20 := by rw [hr]; exact Int32.not_le.mp hc1
    refine g_aload_0 hX (dk DX12_body 4 rfl) ?_
    refine g_getRs (r := 35) hX (dk DX12_body 5 rfl) KX12 fX12_217 (by decide) rfl (MLt hM (by decide)) (MC hM) (MR hM 68 (by decide) rfl) ?_
    refine g_aload_0 hX (dk DX12_body 6 rfl) ?_
    refine g_getIv hX (dk DX12_body 7 rfl) KX12 fX12_214 (by decide) rfl (MLt hM (by decide)) (MC hM) (hr) ?_
    refine g_iload_1 hX (dk DX12_body 8 rfl) ?_
    refine i_iastore hX (dk DX12_body 9 rfl) (MLt hM (q := 35) (by decide)) (MS hM 35 (by decide) rfl) (⟨rfl, hb20, by decide⟩) ?_
    skip
    refine g_aload_0 hX (dk DX12_body 10 rfl) ?_
    refine g_dup hX (dk DX12_body 11 rfl) rfl ?_
    refine g_getI hX (dk DX12_body 12 rfl) KX12 fX12_214 (by decide) rfl (MLt hM (by decide)) (MC hM) ?_
    refine g_iconst (v := 1) hX (dk DX12_body 13 rfl) (by decide) ?_
    refine g_iadd hX (dk DX12_body 14 rfl) ?_
    refine g_putI hX (dk DX12_body 15 rfl) KX12 fX12_214 (by decide) rfl (MLt hM (by decide)) (MC hM) (Or.inl rfl) (rfl) (rfl) ?_
    refine g_return hX (dk DX12_body 16 rfl) rfl (by decide) (by decide) ?_
    first
    | exact rV_of (by unfold body1; rw [if_pos hlt, show (upI I 35 r b) 0 67 = I 0 67 from rfl, hr, tN_nI (by omega)]) rfl
    | exact rV_of (by unfold body1; rw [if_neg (by rw [hr]; exact Int32.not_lt.mpr hc1), hr]) rfl
    | exact rV_of (by unfold body1; rw [if_neg (by rw [hr]; exact Int32.not_lt.mpr (Decidable.not_not.mp hc1)), hr]) rfl

set_option maxRecDepth 8000 in
set_option maxHeartbeats 4000000 in
theorem c_X12_knowingSays {G : Gt} (hG : Gok G) {I : It} {h : Ht} (hM : HM h) {x : Int32} {d r : Nat} (hr : I 0 67 = nI r) (hr2 : r ≤ 80) : Con G (2) 0 0 mX12_knowingSays [.ref 0, .int (nI d), .int x] I h (rI (x + nI d) (putB I [10]) h) := by
  refine con_intro (own := RX12) (lo0 := [some (.ref 0), some (.int (nI d)), some (.int x)]) hG rfl pl_X12 (Nat.le_of_ble_eq_true rfl) rfl (fun X hX => ?_)
  refine g_aload_0 hX (dk DX12_knowingSays 0 rfl) ?_
  refine g_bipush (v := 10) hX (dk DX12_knowingSays 1 rfl) (by decide) ?_
  refine g_c2V hX sX12_knowingSays_3 (by decide) (Nat.le_of_ble_eq_true rfl) (rc0 rfl (MLt hM (by decide)) (MC hM)) (by decide) (by decide) (c_X12_body hG hM hr (by omega)) ?_
  refine g_iload_2 hX (dk DX12_knowingSays 3 rfl) ?_
  refine g_iload_1 hX (dk DX12_knowingSays 4 rfl) ?_
  refine g_iadd hX (dk DX12_knowingSays 5 rfl) ?_
  refine g_ireturn hX (dk DX12_knowingSays 6 rfl) rfl (rfl) (by decide) (by decide) ?_
  exact rI_of rfl rfl rfl

set_option maxRecDepth 8000 in
set_option maxHeartbeats 4000000 in
theorem c_X12_saysAct {G : Gt} (hG : Gok G) {I : It} {h : Ht} (hM : HM h) {E : It} (hA : Ag E I) {d : Nat} (hd : d < 10) {x : Int32} {r : Nat} (hr : I 0 67 = nI r) (hr2 : r ≤ 77) : Con G (3) 0 0 mX12_saysAct [.ref 0, .int (nI d), .int x] I h (rI (saysV E d x) (putB I (saysB E d)) h) := by
  refine con_intro (own := RX12) (lo0 := [some (.ref 0), some (.int (nI d)), some (.int x)]) hG rfl pl_X12 (Nat.le_of_ble_eq_true rfl) rfl (fun X hX => ?_)
  refine g_aload_0 hX (dk DX12_saysAct 0 rfl) ?_
  refine g_getRs (r := 1) hX (dk DX12_saysAct 1 rfl) KX12 fX12_31 (by decide) rfl (MLt hM (by decide)) (MC hM) (MR hM 7 (by decide) rfl) ?_
  refine g_iload_1 hX (dk DX12_saysAct 2 rfl) ?_
  refine v_iaload hX (dk DX12_saysAct 3 rfl) (MLt hM (q := 1) (by decide)) (MS hM 1 (by decide) rfl) (⟨rfl, by omega, by decide⟩) (congrFun (hA.2.1 1 (by decide)) d) ?_
  refine g_tswitch (dt := 89) hX [(2, 40), (3, 89), (4, 55), (5, 40), (6, 69)] (dk DX12_saysAct 4 rfl) (by decide +kernel) ?_
  refine ⟨fun hc1 => ?_, fun hc1n => ?_⟩
  · show GG _ _ _ _ _ _ _ _ _ _ _ _ _
    have hk := hc1
    refine g_aload_0 hX (dk DX12_saysAct 5 rfl) ?_
    refine g_bipush (v := 30) hX (dk DX12_saysAct 6 rfl) (by decide) ?_
    refine g_c2V hX sX12_saysAct_43 (by decide) (Nat.le_of_ble_eq_true rfl) (rc0 rfl (MLt hM (by decide)) (MC hM)) (by decide) (by decide) (c_X12_body hG hM hr (by omega)) ?_
    have hA := Ag.keep hA (body1_fr _ 30) (by decide) (by decide)
    have hr := body1_ran _ 30 hr
    refine g_aload_0 hX (dk DX12_saysAct 8 rfl) ?_
    refine g_iload_1 hX (dk DX12_saysAct 9 rfl) ?_
    refine g_iload_2 hX (dk DX12_saysAct 10 rfl) ?_
    refine g_iconst (v := 3) hX (dk DX12_saysAct 11 rfl) (by decide) ?_
    refine g_imul hX (dk DX12_saysAct 12 rfl) ?_
    refine g_c3I hX sX12_saysAct_51 (by decide) (Nat.le_of_ble_eq_true rfl) (rc0 rfl (MLt hM (by decide)) (MC hM)) (by decide) (by decide) (c_X12_knowingSays hG hM hr (by omega)) ?_
    refine g_ireturn hX (dk DX12_saysAct 14 rfl) rfl (rfl) (by decide) (by decide) ?_
    exact rI_of (by unfold saysV; rw [hk]; rfl) (by unfold saysB; rw [hk]; rfl) rfl
  refine ⟨fun hc2 => ?_, fun hc2n => ?_⟩
  · show GG _ _ _ _ _ _ _ _ _ _ _ _ _
    refine g_aload_0 hX (dk DX12_saysAct 37 rfl) ?_
    refine g_iload_1 hX (dk DX12_saysAct 38 rfl) ?_
    refine g_iload_2 hX (dk DX12_saysAct 39 rfl) ?_
    refine g_c3I hX sX12_saysAct_92 (by decide) (Nat.le_of_ble_eq_true rfl) (rc0 rfl (MLt hM (by decide)) (MC hM)) (by decide) (by decide) (c_X12_knowingSays hG hM hr (by omega)) ?_
    refine g_ireturn hX (dk DX12_saysAct 41 rfl) rfl (rfl) (by decide) (by decide) ?_
    exact rI_of (by unfold saysV; simp_all) (by unfold saysB; simp_all) rfl
  refine ⟨fun hc3 => ?_, fun hc3n => ?_⟩
  · show GG _ _ _ _ _ _ _ _ _ _ _ _ _
    have hk := hc3
    refine g_aload_0 hX (dk DX12_saysAct 15 rfl) ?_
    refine g_bipush (v := 50) hX (dk DX12_saysAct 16 rfl) (by decide) ?_
    refine g_c2V hX sX12_saysAct_58 (by decide) (Nat.le_of_ble_eq_true rfl) (rc0 rfl (MLt hM (by decide)) (MC hM)) (by decide) (by decide) (c_X12_body hG hM hr (by omega)) ?_
    have hA := Ag.keep hA (body1_fr _ 50) (by decide) (by decide)
    have hr := body1_ran _ 50 hr
    refine g_aload_0 hX (dk DX12_saysAct 18 rfl) ?_
    refine g_iload_1 hX (dk DX12_saysAct 19 rfl) ?_
    refine g_iload_2 hX (dk DX12_saysAct 20 rfl) ?_
    refine g_c3I hX sX12_saysAct_64 (by decide) (Nat.le_of_ble_eq_true rfl) (rc0 rfl (MLt hM (by decide)) (MC hM)) (by decide) (by decide) (c_X12_knowingSays hG hM hr (by omega)) ?_
    refine g_ineg hX (dk DX12_saysAct 22 rfl) ?_
    refine g_ireturn hX (dk DX12_saysAct 23 rfl) rfl (rfl) (by decide) (by decide) ?_
    exact rI_of (by unfold saysV; rw [hk]; rfl) (by unfold saysB; rw [hk]; rfl) rfl
  refine ⟨fun hc4 => ?_, fun hc4n => ?_⟩
  · show GG _ _ _ _ _ _ _ _ _ _ _ _ _
    have hk := hc4
    refine g_aload_0 hX (dk DX12_saysAct 5 rfl) ?_
    refine g_bipush (v := 30) hX (dk DX12_saysAct 6 rfl) (by decide) ?_
    refine g_c2V hX sX12_saysAct_43 (by decide) (Nat.le_of_ble_eq_true rfl) (rc0 rfl (MLt hM (by decide)) (MC hM)) (by decide) (by decide) (c_X12_body hG hM hr (by omega)) ?_
    have hA := Ag.keep hA (body1_fr _ 30) (by decide) (by decide)
    have hr := body1_ran _ 30 hr
    refine g_aload_0 hX (dk DX12_saysAct 8 rfl) ?_
    refine g_iload_1 hX (dk DX12_saysAct 9 rfl) ?_
    refine g_iload_2 hX (dk DX12_saysAct 10 rfl) ?_
    refine g_iconst (v := 3) hX (dk DX12_saysAct 11 rfl) (by decide) ?_
    refine g_imul hX (dk DX12_saysAct 12 rfl) ?_
    refine g_c3I hX sX12_saysAct_51 (by decide) (Nat.le_of_ble_eq_true rfl) (rc0 rfl (MLt hM (by decide)) (MC hM)) (by decide) (by decide) (c_X12_knowingSays hG hM hr (by omega)) ?_
    refine g_ireturn hX (dk DX12_saysAct 14 rfl) rfl (rfl) (by decide) (by decide) ?_
    exact rI_of (by unfold saysV; rw [hk]; rfl) (by unfold saysB; rw [hk]; rfl) rfl
  refine ⟨fun hc5 => ?_, fun hc5n => ?_⟩
  · show GG _ _ _ _ _ _ _ _ _ _ _ _ _
    have hk := hc5
    refine g_aload_0 hX (dk DX12_saysAct 24 rfl) ?_
    refine g_bipush (v := 71) hX (dk DX12_saysAct 25 rfl) (by decide) ?_
    refine g_c2V hX sX12_saysAct_72 (by decide) (Nat.le_of_ble_eq_true rfl) (rc0 rfl (MLt hM (by decide)) (MC hM)) (by decide) (by decide) (c_X12_body hG hM hr (by omega)) ?_
    have hA := Ag.keep hA (body1_fr _ 71) (by decide) (by decide)
    have hr := body1_ran _ 71 hr
    refine g_aload_0 hX (dk DX12_saysAct 27 rfl) ?_
    refine g_iload_1 hX (dk DX12_saysAct 28 rfl) ?_
    refine g_iload_2 hX (dk DX12_saysAct 29 rfl) ?_
    refine g_c3I hX sX12_saysAct_78 (by decide) (Nat.le_of_ble_eq_true rfl) (rc0 rfl (MLt hM (by decide)) (MC hM)) (by decide) (by decide) (c_X12_knowingSays hG hM hr (by omega)) ?_
    have hA := Ag.keep hA (putB_fr [10] _) (by decide) (by decide)
    refine g_aload_0 hX (dk DX12_saysAct 31 rfl) ?_
    refine g_getRs (r := 2) hX (dk DX12_saysAct 32 rfl) KX12 fX12_35 (by decide) rfl (MLt hM (by decide)) (MC hM) (MR hM 8 (by decide) rfl) ?_
    refine g_iload_1 hX (dk DX12_saysAct 33 rfl) ?_
    refine v_iaload hX (dk DX12_saysAct 34 rfl) (MLt hM (q := 2) (by decide)) (MS hM 2 (by decide) rfl) (⟨rfl, by omega, by decide⟩) (congrFun (hA.2.1 2 (by decide)) d) ?_
    refine g_ixor hX (dk DX12_saysAct 35 rfl) ?_
    refine g_ireturn hX (dk DX12_saysAct 36 rfl) rfl (rfl) (by decide) (by decide) ?_
    exact rI_of (by unfold saysV; rw [hk]; rfl) (by unfold saysB; rw [hk]; rfl) rfl
  show GG _ _ _ _ _ _ _ _ _ _ _ _ _
  refine g_aload_0 hX (dk DX12_saysAct 37 rfl) ?_
  refine g_iload_1 hX (dk DX12_saysAct 38 rfl) ?_
  refine g_iload_2 hX (dk DX12_saysAct 39 rfl) ?_
  refine g_c3I hX sX12_saysAct_92 (by decide) (Nat.le_of_ble_eq_true rfl) (rc0 rfl (MLt hM (by decide)) (MC hM)) (by decide) (by decide) (c_X12_knowingSays hG hM hr (by omega)) ?_
  refine g_ireturn hX (dk DX12_saysAct 41 rfl) rfl (rfl) (by decide) (by decide) ?_
  exact rI_of (by unfold saysV; simp_all) (by unfold saysB; simp_all) rfl

set_option maxRecDepth 8000 in
set_option maxHeartbeats 4000000 in
theorem c_X12_knowingHolds {G : Gt} (hG : Gok G) {I : It} {h : Ht} (hM : HM h) {E : It} (hA : Ag E I) {d : Nat} (hd : d < 10) {x : Int32} {r : Nat} (hr : I 0 67 = nI r) (hr2 : r ≤ 70) : Con G (4) 0 0 mX12_knowingHolds [.ref 0, .int (nI d), .int x] I h (rI (khV E d x) (putB I (khB E d)) h) := by
  refine con_intro (own := RX12) (lo0 := [some (.ref 0), some (.int (nI d)), some (.int x)]) hG rfl pl_X12 (Nat.le_of_ble_eq_true rfl) rfl (fun X hX => ?_)
  refine g_aload_0 hX (dk DX12_knowingHolds 0 rfl) ?_
  refine g_bipush (v := 11) hX (dk DX12_knowingHolds 1 rfl) (by decide) ?_
  refine g_c2V hX sX12_knowingHolds_3 (by decide) (Nat.le_of_ble_eq_true rfl) (rc0 rfl (MLt hM (by decide)) (MC hM)) (by decide) (by decide) (c_X12_body hG hM hr (by omega)) ?_
  have hA := Ag.keep hA (body1_fr _ 11) (by decide) (by decide)
  have hr := body1_ran _ 11 hr
  refine g_aload_0 hX (dk DX12_knowingHolds 3 rfl) ?_
  refine g_iload_1 hX (dk DX12_knowingHolds 4 rfl) ?_
  refine g_iload_2 hX (dk DX12_knowingHolds 5 rfl) ?_
  refine g_c3I hX sX12_knowingHolds_9 (by decide) (Nat.le_of_ble_eq_true rfl) (rc0 rfl (MLt hM (by decide)) (MC hM)) (by decide) (by decide) (c_X12_saysAct hG hM hA hd hr (by omega)) ?_
  have hA := Ag.keep hA (putB_fr (saysB E d) _) (by decide) (by decide)
  refine g_aload_0 hX (dk DX12_knowingHolds 7 rfl) ?_
  refine g_getRs (r := 2) hX (dk DX12_knowingHolds 8 rfl) KX12 fX12_35 (by decide) rfl (MLt hM (by decide)) (MC hM) (MR hM 8 (by decide) rfl) ?_
  refine g_iload_1 hX (dk DX12_knowingHolds 9 rfl) ?_
  refine v_iaload hX (dk DX12_knowingHolds 10 rfl) (MLt hM (q := 2) (by decide)) (MS hM 2 (by decide) rfl) (⟨rfl, by omega, by decide⟩) (congrFun (hA.2.1 2 (by decide)) d) ?_
  refine g_isub hX (dk DX12_knowingHolds 11 rfl) ?_
  refine g_ireturn hX (dk DX12_knowingHolds 12 rfl) rfl (rfl) (by decide) (by decide) ?_
  exact rI_of rfl rfl rfl

set_option maxRecDepth 8000 in
set_option maxHeartbeats 4000000 in
theorem c_X12_writtenHolds {G : Gt} (hG : Gok G) {I : It} {h : Ht} (hM : HM h) {E : It} (hA : Ag E I) {d : Nat} (hd : d < 10) {x : Int32} {r : Nat} (hr : I 0 67 = nI r) (hr2 : r ≤ 60) : Con G (5) 0 0 mX12_writtenHolds [.ref 0, .int (nI d), .int x] I h (rI (khV E d x ^^^ 6) (putB I (20 :: khB E d)) h) := by
  refine con_intro (own := RX12) (lo0 := [some (.ref 0), some (.int (nI d)), some (.int x)]) hG rfl pl_X12 (Nat.le_of_ble_eq_true rfl) rfl (fun X hX => ?_)
  refine g_aload_0 hX (dk DX12_writtenHolds 0 rfl) ?_
  refine g_bipush (v := 20) hX (dk DX12_writtenHolds 1 rfl) (by decide) ?_
  refine g_c2V hX sX12_writtenHolds_3 (by decide) (Nat.le_of_ble_eq_true rfl) (rc0 rfl (MLt hM (by decide)) (MC hM)) (by decide) (by decide) (c_X12_body hG hM hr (by omega)) ?_
  have hA := Ag.keep hA (body1_fr _ 20) (by decide) (by decide)
  have hr := body1_ran _ 20 hr
  refine g_aload_0 hX (dk DX12_writtenHolds 3 rfl) ?_
  refine g_iload_1 hX (dk DX12_writtenHolds 4 rfl) ?_
  refine g_iload_2 hX (dk DX12_writtenHolds 5 rfl) ?_
  refine g_c3I hX sX12_writtenHolds_9 (by decide) (Nat.le_of_ble_eq_true rfl) (rc0 rfl (MLt hM (by decide)) (MC hM)) (by decide) (by decide) (c_X12_knowingHolds hG hM hA hd hr (by omega)) ?_
  refine g_bipush (v := 6) hX (dk DX12_writtenHolds 7 rfl) (by decide) ?_
  refine g_ixor hX (dk DX12_writtenHolds 8 rfl) ?_
  refine g_ireturn hX (dk DX12_writtenHolds 9 rfl) rfl (rfl) (by decide) (by decide) ?_
  exact rI_of rfl rfl rfl

set_option maxRecDepth 8000 in
set_option maxHeartbeats 4000000 in
theorem c_X12_holdsAct {G : Gt} (hG : Gok G) {I : It} {h : Ht} (hM : HM h) {E : It} (hA : Ag E I) {d : Nat} (hd : d < 10) {x : Int32} {r : Nat} (hr : I 0 67 = nI r) (hr2 : r ≤ 50) : Con G (6) 0 0 mX12_holdsAct [.ref 0, .int (nI d), .int x] I h (rI (holdsV E d x) (putB I (holdsB E d)) h) := by
  refine con_intro (own := RX12) (lo0 := [some (.ref 0), some (.int (nI d)), some (.int x), none]) hG rfl pl_X12 (Nat.le_of_ble_eq_true rfl) rfl (fun X hX => ?_)
  have hkl := khB_len E d
  refine g_aload_0 hX (dk DX12_holdsAct 0 rfl) ?_
  refine g_getRs (r := 1) hX (dk DX12_holdsAct 1 rfl) KX12 fX12_31 (by decide) rfl (MLt hM (by decide)) (MC hM) (MR hM 7 (by decide) rfl) ?_
  refine g_iload_1 hX (dk DX12_holdsAct 2 rfl) ?_
  refine v_iaload hX (dk DX12_holdsAct 3 rfl) (MLt hM (q := 1) (by decide)) (MS hM 1 (by decide) rfl) (⟨rfl, by omega, by decide⟩) (congrFun (hA.2.1 1 (by decide)) d) ?_
  refine g_lswitch (dt := 84) hX [(1, 40), (4, 47), (6, 62)] (dk DX12_holdsAct 4 rfl) (by decide +kernel) (by decide +kernel) ?_
  refine ⟨fun hc1 => ?_, fun hc1n => ?_⟩
  · show GG _ _ _ _ _ _ _ _ _ _ _ _ _
    have hk := hc1
    refine g_aload_0 hX (dk DX12_holdsAct 5 rfl) ?_
    refine g_iload_1 hX (dk DX12_holdsAct 6 rfl) ?_
    refine g_iload_2 hX (dk DX12_holdsAct 7 rfl) ?_
    refine g_c3I hX sX12_holdsAct_43 (by decide) (Nat.le_of_ble_eq_true rfl) (rc0 rfl (MLt hM (by decide)) (MC hM)) (by decide) (by decide) (c_X12_writtenHolds hG hM hA hd hr (by omega)) ?_
    refine g_ireturn hX (dk DX12_holdsAct 9 rfl) rfl (rfl) (by decide) (by decide) ?_
    exact rI_of (by unfold holdsV; rw [hk]; rfl) (by unfold holdsB; rw [hk]; rfl) rfl
  refine ⟨fun hc2 => ?_, fun hc2n => ?_⟩
  · show GG _ _ _ _ _ _ _ _ _ _ _ _ _
    have hk := hc2
    refine g_aload_0 hX (dk DX12_holdsAct 10 rfl) ?_
    refine g_bipush (v := 51) hX (dk DX12_holdsAct 11 rfl) (by decide) ?_
    refine g_c2V hX sX12_holdsAct_50 (by decide) (Nat.le_of_ble_eq_true rfl) (rc0 rfl (MLt hM (by decide)) (MC hM)) (by decide) (by decide) (c_X12_body hG hM hr (by omega)) ?_
    have hA := Ag.keep hA (body1_fr _ 51) (by decide) (by decide)
    have hr := body1_ran _ 51 hr
    refine g_aload_0 hX (dk DX12_holdsAct 13 rfl) ?_
    refine g_iload_1 hX (dk DX12_holdsAct 14 rfl) ?_
    refine g_iload_2 hX (dk DX12_holdsAct 15 rfl) ?_
    refine g_iconst (v := 1) hX (dk DX12_holdsAct 16 rfl) (by decide) ?_
    refine g_iadd hX (dk DX12_holdsAct 17 rfl) ?_
    refine g_c3I hX sX12_holdsAct_58 (by decide) (Nat.le_of_ble_eq_true rfl) (rc0 rfl (MLt hM (by decide)) (MC hM)) (by decide) (by decide) (c_X12_writtenHolds hG hM hA hd hr (by omega)) ?_
    refine g_ireturn hX (dk DX12_holdsAct 19 rfl) rfl (rfl) (by decide) (by decide) ?_
    exact rI_of (by unfold holdsV; rw [hk]; rfl) (by unfold holdsB; rw [hk]; rfl) rfl
  refine ⟨fun hc3 => ?_, fun hc3n => ?_⟩
  · show GG _ _ _ _ _ _ _ _ _ _ _ _ _
    have hk := hc3
    refine g_aload_0 hX (dk DX12_holdsAct 20 rfl) ?_
    refine g_bipush (v := 70) hX (dk DX12_holdsAct 21 rfl) (by decide) ?_
    refine g_c2V hX sX12_holdsAct_65 (by decide) (Nat.le_of_ble_eq_true rfl) (rc0 rfl (MLt hM (by decide)) (MC hM)) (by decide) (by decide) (c_X12_body hG hM hr (by omega)) ?_
    have hA := Ag.keep hA (body1_fr _ 70) (by decide) (by decide)
    have hr := body1_ran _ 70 hr
    refine g_aload_0 hX (dk DX12_holdsAct 23 rfl) ?_
    refine g_iload_1 hX (dk DX12_holdsAct 24 rfl) ?_
    refine g_iload_2 hX (dk DX12_holdsAct 25 rfl) ?_
    refine g_c3I hX sX12_holdsAct_71 (by decide) (Nat.le_of_ble_eq_true rfl) (rc0 rfl (MLt hM (by decide)) (MC hM)) (by decide) (by decide) (c_X12_knowingHolds hG hM hA hd hr (by omega)) ?_
    have hr := putB_ran (khB E d) _ hr
    refine g_istore_3 hX (dk DX12_holdsAct 27 rfl) (by decide) rfl ?_
    refine g_iload_3 hX (dk DX12_holdsAct 28 rfl) ?_
    refine g_aload_0 hX (dk DX12_holdsAct 29 rfl) ?_
    refine g_iload_1 hX (dk DX12_holdsAct 30 rfl) ?_
    refine g_iconst (v := 2) hX (dk DX12_holdsAct 31 rfl) (by decide) ?_
    refine g_c3I hX sX12_holdsAct_79 (by decide) (Nat.le_of_ble_eq_true rfl) (rc0 rfl (MLt hM (by decide)) (MC hM)) (by decide) (by decide) (c_X12_knowingSays hG hM hr (by omega)) ?_
    refine g_iadd hX (dk DX12_holdsAct 33 rfl) ?_
    refine g_ireturn hX (dk DX12_holdsAct 34 rfl) rfl (rfl) (by decide) (by decide) ?_
    exact rI_of (by unfold holdsV; rw [hk]; rfl) (by rw [putB_app]; unfold holdsB; rw [hk]; rfl) rfl
  show GG _ _ _ _ _ _ _ _ _ _ _ _ _
  refine g_aload_0 hX (dk DX12_holdsAct 35 rfl) ?_
  refine g_iload_1 hX (dk DX12_holdsAct 36 rfl) ?_
  refine g_iload_2 hX (dk DX12_holdsAct 37 rfl) ?_
  refine g_c3I hX sX12_holdsAct_87 (by decide) (Nat.le_of_ble_eq_true rfl) (rc0 rfl (MLt hM (by decide)) (MC hM)) (by decide) (by decide) (c_X12_knowingHolds hG hM hA hd hr (by omega)) ?_
  refine g_ireturn hX (dk DX12_holdsAct 39 rfl) rfl (rfl) (by decide) (by decide) ?_
  exact rI_of (by unfold holdsV; simp_all) (by unfold holdsB; simp_all) rfl

set_option maxRecDepth 8000 in
set_option maxHeartbeats 4000000 in
theorem c_X12_knowingTells {G : Gt} (hG : Gok G) {I : It} {h : Ht} (hM : HM h) {E : It} (hA : Ag E I) {d : Nat} (hd : d < 10) {x : Int32} {r : Nat} (hr : I 0 67 = nI r) (hr2 : r ≤ 40) : Con G (7) 0 0 mX12_knowingTells [.ref 0, .int (nI d), .int x] I h (rI (ktV E d x) (putB I (ktB E d)) h) := by
  refine con_intro (own := RX12) (lo0 := [some (.ref 0), some (.int (nI d)), some (.int x)]) hG rfl pl_X12 (Nat.le_of_ble_eq_true rfl) rfl (fun X hX => ?_)
  refine g_aload_0 hX (dk DX12_knowingTells 0 rfl) ?_
  refine g_bipush (v := 12) hX (dk DX12_knowingTells 1 rfl) (by decide) ?_
  refine g_c2V hX sX12_knowingTells_3 (by decide) (Nat.le_of_ble_eq_true rfl) (rc0 rfl (MLt hM (by decide)) (MC hM)) (by decide) (by decide) (c_X12_body hG hM hr (by omega)) ?_
  have hA := Ag.keep hA (body1_fr _ 12) (by decide) (by decide)
  have hr := body1_ran _ 12 hr
  refine g_aload_0 hX (dk DX12_knowingTells 3 rfl) ?_
  refine g_iload_1 hX (dk DX12_knowingTells 4 rfl) ?_
  refine g_iload_2 hX (dk DX12_knowingTells 5 rfl) ?_
  refine g_c3I hX sX12_knowingTells_9 (by decide) (Nat.le_of_ble_eq_true rfl) (rc0 rfl (MLt hM (by decide)) (MC hM)) (by decide) (by decide) (c_X12_holdsAct hG hM hA hd hr (by omega)) ?_
  refine g_iconst (v := 2) hX (dk DX12_knowingTells 7 rfl) (by decide) ?_
  refine g_imul hX (dk DX12_knowingTells 8 rfl) ?_
  refine g_ireturn hX (dk DX12_knowingTells 9 rfl) rfl (rfl) (by decide) (by decide) ?_
  exact rI_of rfl rfl rfl

set_option maxRecDepth 8000 in
set_option maxHeartbeats 4000000 in
theorem c_X12_tellsAct {G : Gt} (hG : Gok G) {I : It} {h : Ht} (hM : HM h) {E : It} (hA : Ag E I) {d : Nat} (hd : d < 10) {x : Int32} {r : Nat} (hr : I 0 67 = nI r) (hr2 : r ≤ 20) : Con G (8) 0 0 mX12_tellsAct [.ref 0, .int (nI d), .int x] I h (rI (tellsV E d x) (putB I (tellsB E d)) h) := by
  refine con_intro (own := RX12) (lo0 := [some (.ref 0), some (.int (nI d)), some (.int x), none]) hG rfl pl_X12 (Nat.le_of_ble_eq_true rfl) rfl (fun X hX => ?_)
  have hkl := ktB_len E d
  refine g_aload_0 hX (dk DX12_tellsAct 0 rfl) ?_
  refine g_getRs (r := 1) hX (dk DX12_tellsAct 1 rfl) KX12 fX12_31 (by decide) rfl (MLt hM (by decide)) (MC hM) (MR hM 7 (by decide) rfl) ?_
  refine g_iload_1 hX (dk DX12_tellsAct 2 rfl) ?_
  refine v_iaload hX (dk DX12_tellsAct 3 rfl) (MLt hM (q := 1) (by decide)) (MS hM 1 (by decide) rfl) (⟨rfl, by omega, by decide⟩) (congrFun (hA.2.1 1 (by decide)) d) ?_
  refine g_tswitch (dt := 73) hX [(3, 36), (4, 73), (5, 58), (6, 36)] (dk DX12_tellsAct 4 rfl) (by decide +kernel) ?_
  refine ⟨fun hc1 => ?_, fun hc1n => ?_⟩
  · show GG _ _ _ _ _ _ _ _ _ _ _ _ _
    have hk := hc1
    refine g_aload_0 hX (dk DX12_tellsAct 5 rfl) ?_
    refine g_bipush (v := 40) hX (dk DX12_tellsAct 6 rfl) (by decide) ?_
    refine g_c2V hX sX12_tellsAct_39 (by decide) (Nat.le_of_ble_eq_true rfl) (rc0 rfl (MLt hM (by decide)) (MC hM)) (by decide) (by decide) (c_X12_body hG hM hr (by omega)) ?_
    have hA := Ag.keep hA (body1_fr _ 40) (by decide) (by decide)
    have hr := body1_ran _ 40 hr
    refine g_aload_0 hX (dk DX12_tellsAct 8 rfl) ?_
    refine g_iload_1 hX (dk DX12_tellsAct 9 rfl) ?_
    refine g_iload_2 hX (dk DX12_tellsAct 10 rfl) ?_
    refine g_c3I hX sX12_tellsAct_45 (by decide) (Nat.le_of_ble_eq_true rfl) (rc0 rfl (MLt hM (by decide)) (MC hM)) (by decide) (by decide) (c_X12_knowingTells hG hM hA hd hr (by omega)) ?_
    have hr := putB_ran (ktB E d) _ hr
    have hA := Ag.keep hA (putB_fr (ktB E d) _) (by decide) (by decide)
    refine g_istore_3 hX (dk DX12_tellsAct 12 rfl) (by decide) rfl ?_
    refine g_iload_3 hX (dk DX12_tellsAct 13 rfl) ?_
    refine g_aload_0 hX (dk DX12_tellsAct 14 rfl) ?_
    refine g_iload_1 hX (dk DX12_tellsAct 15 rfl) ?_
    refine g_iconst (v := 1) hX (dk DX12_tellsAct 16 rfl) (by decide) ?_
    refine g_c3I hX sX12_tellsAct_53 (by decide) (Nat.le_of_ble_eq_true rfl) (rc0 rfl (MLt hM (by decide)) (MC hM)) (by decide) (by decide) (c_X12_holdsAct hG hM hA hd hr (by omega)) ?_
    refine g_iadd hX (dk DX12_tellsAct 18 rfl) ?_
    refine g_ireturn hX (dk DX12_tellsAct 19 rfl) rfl (rfl) (by decide) (by decide) ?_
    exact rI_of (by unfold tellsV; rw [hk]; rfl) (by rw [putB_app]; unfold tellsB; rw [hk]; rfl) rfl
  refine ⟨fun hc2 => ?_, fun hc2n => ?_⟩
  · show GG _ _ _ _ _ _ _ _ _ _ _ _ _
    refine g_aload_0 hX (dk DX12_tellsAct 30 rfl) ?_
    refine g_iload_1 hX (dk DX12_tellsAct 31 rfl) ?_
    refine g_iload_2 hX (dk DX12_tellsAct 32 rfl) ?_
    refine g_c3I hX sX12_tellsAct_76 (by decide) (Nat.le_of_ble_eq_true rfl) (rc0 rfl (MLt hM (by decide)) (MC hM)) (by decide) (by decide) (c_X12_knowingTells hG hM hA hd hr (by omega)) ?_
    refine g_ireturn hX (dk DX12_tellsAct 34 rfl) rfl (rfl) (by decide) (by decide) ?_
    exact rI_of (by unfold tellsV; simp_all) (by unfold tellsB; simp_all) rfl
  refine ⟨fun hc3 => ?_, fun hc3n => ?_⟩
  · show GG _ _ _ _ _ _ _ _ _ _ _ _ _
    have hk := hc3
    refine g_aload_0 hX (dk DX12_tellsAct 20 rfl) ?_
    refine g_bipush (v := 60) hX (dk DX12_tellsAct 21 rfl) (by decide) ?_
    refine g_c2V hX sX12_tellsAct_61 (by decide) (Nat.le_of_ble_eq_true rfl) (rc0 rfl (MLt hM (by decide)) (MC hM)) (by decide) (by decide) (c_X12_body hG hM hr (by omega)) ?_
    have hA := Ag.keep hA (body1_fr _ 60) (by decide) (by decide)
    have hr := body1_ran _ 60 hr
    refine g_aload_0 hX (dk DX12_tellsAct 23 rfl) ?_
    refine g_iload_1 hX (dk DX12_tellsAct 24 rfl) ?_
    refine g_iload_2 hX (dk DX12_tellsAct 25 rfl) ?_
    refine g_iload_1 hX (dk DX12_tellsAct 26 rfl) ?_
    refine g_isub hX (dk DX12_tellsAct 27 rfl) ?_
    refine g_c3I hX sX12_tellsAct_69 (by decide) (Nat.le_of_ble_eq_true rfl) (rc0 rfl (MLt hM (by decide)) (MC hM)) (by decide) (by decide) (c_X12_knowingTells hG hM hA hd hr (by omega)) ?_
    refine g_ireturn hX (dk DX12_tellsAct 29 rfl) rfl (rfl) (by decide) (by decide) ?_
    exact rI_of (by unfold tellsV; rw [hk]; rfl) (by unfold tellsB; rw [hk]; rfl) rfl
  refine ⟨fun hc4 => ?_, fun hc4n => ?_⟩
  · show GG _ _ _ _ _ _ _ _ _ _ _ _ _
    have hk := hc4
    refine g_aload_0 hX (dk DX12_tellsAct 5 rfl) ?_
    refine g_bipush (v := 40) hX (dk DX12_tellsAct 6 rfl) (by decide) ?_
    refine g_c2V hX sX12_tellsAct_39 (by decide) (Nat.le_of_ble_eq_true rfl) (rc0 rfl (MLt hM (by decide)) (MC hM)) (by decide) (by decide) (c_X12_body hG hM hr (by omega)) ?_
    have hA := Ag.keep hA (body1_fr _ 40) (by decide) (by decide)
    have hr := body1_ran _ 40 hr
    refine g_aload_0 hX (dk DX12_tellsAct 8 rfl) ?_
    refine g_iload_1 hX (dk DX12_tellsAct 9 rfl) ?_
    refine g_iload_2 hX (dk DX12_tellsAct 10 rfl) ?_
    refine g_c3I hX sX12_tellsAct_45 (by decide) (Nat.le_of_ble_eq_true rfl) (rc0 rfl (MLt hM (by decide)) (MC hM)) (by decide) (by decide) (c_X12_knowingTells hG hM hA hd hr (by omega)) ?_
    have hr := putB_ran (ktB E d) _ hr
    have hA := Ag.keep hA (putB_fr (ktB E d) _) (by decide) (by decide)
    refine g_istore_3 hX (dk DX12_tellsAct 12 rfl) (by decide) rfl ?_
    refine g_iload_3 hX (dk DX12_tellsAct 13 rfl) ?_
    refine g_aload_0 hX (dk DX12_tellsAct 14 rfl) ?_
    refine g_iload_1 hX (dk DX12_tellsAct 15 rfl) ?_
    refine g_iconst (v := 1) hX (dk DX12_tellsAct 16 rfl) (by decide) ?_
    refine g_c3I hX sX12_tellsAct_53 (by decide) (Nat.le_of_ble_eq_true rfl) (rc0 rfl (MLt hM (by decide)) (MC hM)) (by decide) (by decide) (c_X12_holdsAct hG hM hA hd hr (by omega)) ?_
    refine g_iadd hX (dk DX12_tellsAct 18 rfl) ?_
    refine g_ireturn hX (dk DX12_tellsAct 19 rfl) rfl (rfl) (by decide) (by decide) ?_
    exact rI_of (by unfold tellsV; rw [hk]; rfl) (by rw [putB_app]; unfold tellsB; rw [hk]; rfl) rfl
  show GG _ _ _ _ _ _ _ _ _ _ _ _ _
  refine g_aload_0 hX (dk DX12_tellsAct 30 rfl) ?_
  refine g_iload_1 hX (dk DX12_tellsAct 31 rfl) ?_
  refine g_iload_2 hX (dk DX12_tellsAct 32 rfl) ?_
  refine g_c3I hX sX12_tellsAct_76 (by decide) (Nat.le_of_ble_eq_true rfl) (rc0 rfl (MLt hM (by decide)) (MC hM)) (by decide) (by decide) (c_X12_knowingTells hG hM hA hd hr (by omega)) ?_
  refine g_ireturn hX (dk DX12_tellsAct 34 rfl) rfl (rfl) (by decide) (by decide) ?_
  exact rI_of (by unfold tellsV; simp_all) (by unfold tellsB; simp_all) rfl
end
section
/-! what a public method answers, and the picture behind it -/
def SM (E : It) (L : Nat → Int64) (I : It) (h : Ht) : Prop := RM E I ∧ HM h ∧ hL h 38 = L
def qS (s : Int32 × It) (L : Nat → Int64) : Pt3 := qI fun x I' h' => x = s.1 ∧ SM s.2 L I' h'
def qSL (v : Int64) (E : It) (L : Nat → Int64) : Pt3 := qL fun x I' h' => x = v ∧ SM E L I' h'
theorem qS_of {s : Int32 × It} {v : Int32} {E' J : It} {L : Nat → Int64} {h : Ht} (hM : HM h) (hl : hL h 38 = L) (e : s = (v, E')) (hR : RM E' J) : qS s L (some (.int v)) J h := ⟨v, rfl, by rw [e], by rw [e]; exact hR, hM, hl⟩
theorem qSL_of {v w : Int64} {E J : It} {L : Nat → Int64} {h : Ht} (hM : HM h) (hl : hL h 38 = L) (e : w = v) (hR : RM E J) : qSL v E L (some (.long w)) J h := ⟨w, rfl, e, hR, hM, hl⟩
theorem nP_upf {E : It} {j : Nat} {x : Int32} (hj : j ≠ 15) : nP (upI E 0 j x) = nP E := by
  unfold nP; rw [upn (by omega)]
theorem nP_upc {E : It} {a j : Nat} {x : Int32} (ha : a ≠ 0) : nP (upI E a j x) = nP E := by
  unfold nP; rw [upn (by omega)]
theorem RM.upf {E I : It} {F C : List Nat} {j : Nat} {x : Int32} (h : RMx F C E I) (hj : j ≠ 15) : RMx F C (upI E 0 j x) (upI I 0 j x) := by
  obtain ⟨a1, a2, a3, a4, a5, a6⟩ := h
  refine ⟨fun q hq hF => ?_, fun a ha hC => ?_, ?_, ?_, ?_, ?_⟩
  · by_cases e : q = j
    · subst e; rw [up0, up0]
    · rw [upn (by omega), upn (by omega)]; exact a1 q hq hF
  · have h0 : a ≠ 0 := by rintro rfl; revert ha; decide
    rw [upI_off h0, upI_off h0]; exact a2 a ha hC
  · rw [nP_upf hj]; exact a3
  · rw [nP_upf hj]; exact a4
  · rw [nP_upf hj]; exact a5
  · exact a6
theorem RM.upc {E I : It} {F C : List Nat} {a j : Nat} {x : Int32} (h : RMx F C E I) (ha : a ∈ pcL) : RMx F C (upI E a j x) (upI I a j x) := by
  have h0 : a ≠ 0 := by rintro rfl; revert ha; decide
  have g : ∀ q, q ∈ [10, 11, 12, 13, 14, 15, 17] → q ≠ a := by
    intro q hq e
    subst e
    revert q
    decide
  obtain ⟨a1, a2, a3, a4, a5, a6⟩ := h
  refine ⟨fun q hq hF => ?_, fun q hq hC => ?_, ?_, ?_, ?_, ?_⟩
  · rw [upn (by omega), upn (by omega)]; exact a1 q hq hF
  · by_cases e : q = a
    · subst e
      funext b
      by_cases e2 : b = j
      · subst e2; rw [up0, up0]
      · rw [upn (by omega), upn (by omega)]; exact congrFun (a2 q hq hC) b
    · rw [upI_off e, upI_off e]; exact a2 q hq hC
  · rw [nP_upc h0, upI_off (g 10 (by decide)), upI_off (g 10 (by decide))]; exact a3
  · rw [nP_upc h0]; rw [upI_off (g 11 (by decide)), upI_off (g 11 (by decide)), upI_off (g 12 (by decide)), upI_off (g 12 (by decide)), upI_off (g 13 (by decide)), upI_off (g 13 (by decide)), upI_off (g 14 (by decide)), upI_off (g 14 (by decide))]; exact a4
  · rw [nP_upc h0, upI_off (g 15 (by decide)), upI_off (g 15 (by decide))]; exact a5
  · rw [upI_off (g 17 (by decide))]; exact a6
/-! sets of DOINGS -/
def kb (n : Nat) (x : Int32) : Prop := ∃ m, m < 2 ^ n ∧ x = nI m
theorem nI_bv (n : Nat) : (nI n).toBitVec = BitVec.ofNat 32 n := rfl
theorem nI_or (a b : Nat) : nI a ||| nI b = nI (a ||| b) := by
  apply Int32.toBitVec.inj
  rw [Int32.toBitVec_or, nI_bv, nI_bv, nI_bv]
  apply BitVec.eq_of_toNat_eq
  simp [Nat.or_mod_two_pow]
theorem nI_and (a : Nat) (y : Int32) : nI a &&& y = nI (a &&& y.toBitVec.toNat) := by
  apply Int32.toBitVec.inj
  rw [Int32.toBitVec_and, nI_bv, nI_bv]
  apply BitVec.eq_of_toNat_eq
  simp [Nat.and_mod_two_pow]
theorem kb_or {n : Nat} {x y : Int32} (hx : kb n x) (hy : kb n y) : kb n (x ||| y) := by
  obtain ⟨a, ha, rfl⟩ := hx
  obtain ⟨b, hb, rfl⟩ := hy
  exact ⟨a ||| b, Nat.or_lt_two_pow ha hb, nI_or a b⟩
theorem kb_and {n : Nat} {x : Int32} (y : Int32) (hx : kb n x) : kb n (x &&& y) := by
  obtain ⟨a, ha, rfl⟩ := hx
  exact ⟨_, Nat.lt_of_le_of_lt Nat.and_le_left ha, nI_and a y⟩
theorem bit_nI : ∀ i, i < 32 → bitI (nI i) = nI (2 ^ i) := by decide +kernel
theorem kb_bit {n i : Nat} (hi : i < n) (hn : n ≤ 10) : kb n (bitI (nI i)) := ⟨2 ^ i, Nat.pow_lt_pow_right (by decide) hi, bit_nI i (by omega)⟩
theorem kb_with {n i : Nat} {x : Int32} (z : Int32) (hx : kb n x) (hi : i < n) (hn : n ≤ 10) : kb n (withI x (nI i) z) := by
  unfold withI
  split
  · exact kb_and _ hx
  · exact kb_or hx (kb_bit hi hn)
theorem kb_0 (n : Nat) : kb n 0 := ⟨0, Nat.two_pow_pos n, rfl⟩
theorem kb_lt {n : Nat} {x : Int32} (h : kb n x) (hn : n ≤ 10) : ∃ m, m < 1024 ∧ x = nI m := by
  obtain ⟨m, hm, e⟩ := h
  exact ⟨m, Nat.lt_of_lt_of_le hm (Nat.pow_le_pow_right (by decide) hn), e⟩
def onesI (x : Int32) : Int32 := nI (onesN (tN x))
theorem inv_kn {E : It} (hE : Inv E) : kb (cnt E) (E 0 5) := hE.1.2.2.2.2.2.2.1
theorem inv_id {E : It} (hE : Inv E) : kb (cnt E) (E 0 6) := hE.1.2.2.2.2.2.2.2
theorem kb_over {E : It} (hr : Nat → Int32) (hc : cnt E ≤ 10) : kb (cnt E) (overF E hr) := by
  have key : ∀ (k i : Nat) (s : Int32), i + k = cnt E → kb (cnt E) s → kb (cnt E) (overR E hr k i s) := by
    intro k
    induction k with
    | zero => intro i s _ hs; exact hs
    | succ k ih =>
      intro i s hk hs
      rw [overR_s]
      refine ih (i + 1) _ (by omega) (kb_or hs ?_)
      split
      · exact kb_bit (by omega) hc
      · exact kb_0 _
  exact key (cnt E) 0 0 (Nat.zero_add _) (kb_0 _)
theorem kb_step {E : It} {n : Nat} {idl may : Int32} {w i : Nat} {a : WS} (h : kb n a.2.1) (hi : i < n) (hn : n ≤ 10) : kb n (wkStep E idl w may i a).2.1 := by
  obtain ⟨had, kn, co, st, ca, fw, fd⟩ := a
  unfold wkStep
  dsimp only at h ⊢
  split
  · exact h
  · split
    · exact h
    · split
      · exact h
      · split
        · exact kb_with _ h hi hn
        · exact kb_with _ h hi hn
theorem kb_wk {E : It} {n : Nat} {idl may : Int32} {w : Nat} (hn : n ≤ 10) : ∀ (k i : Nat) (a : WS), i + k ≤ n → kb n a.2.1 → kb n (wkRun E idl w may k i a).2.1 := by
  intro k
  induction k with
  | zero => intro i a _ h; exact h
  | succ k ih => intro i a hk h; rw [wkRun_s]; exact ih (i + 1) _ (by omega) (kb_step h (by omega) hn)
theorem kb_wks {E : It} {idl : Int32} (hc : cnt E ≤ 10) : ∀ (k w : Nat) (a : WS), kb (cnt E) a.2.1 → kb (cnt E) (wksF E idl k w a).2.1 := by
  intro k
  induction k with
  | zero => intro w a h; exact h
  | succ k ih =>
    intro w a h
    rw [wksF_s]
    refine ih (w + 1) _ ?_
    unfold wkF
    exact kb_wk hc (cnt E) 0 _ (by omega) h
theorem kb_run {E : It} (hE : Inv E) {kn idl : Int32} {n : Nat} (hk : kb (cnt E) kn) : kb (cnt E) (runF E kn idl n).2.1 := kb_wks (inv_cnt hE).2 n (wk E) _ hk
abbrev isD (E : It) (a : Int32) : Prop := 0 ≤ a ∧ a ≤ E 0 0 - 1
theorem in_of {a : Int32} {b : Nat} (hb : b < 2 ^ 31) (h : 0 ≤ a ∧ a ≤ nI b) : ∃ n, n ≤ b ∧ a = nI n := by
  obtain ⟨j, hj, rfl⟩ := nI_of (Int32.not_lt.mpr h.1)
  exact ⟨j, (nI_leI hj hb).mp h.2, rfl⟩
theorem in1_of {a : Int32} {c b : Nat} (hc : c < 2 ^ 31) (hb : b < 2 ^ 31) (h : nI c ≤ a ∧ a ≤ nI b) : ∃ n, c ≤ n ∧ n ≤ b ∧ a = nI n := by
  have h0 : ¬ a < 0 := fun z => nI_pos hc (Int32.lt_of_le_of_lt h.1 z)
  obtain ⟨j, hj, rfl⟩ := nI_of h0
  exact ⟨j, (nI_leI hc hj).mp h.1, (nI_leI hj hb).mp h.2, rfl⟩
theorem isD_of {E : It} (hE : Inv E) {a : Int32} (h : isD E a) : ∃ d, d < cnt E ∧ a = nI d := by
  obtain ⟨e, hc⟩ := inv_cnt hE
  obtain ⟨h1, h2⟩ := h
  rw [e] at h2
  obtain ⟨j, hj, rfl⟩ := nI_of (Int32.not_lt.mpr h1)
  rcases Nat.eq_zero_or_pos (cnt E) with z | z
  · rw [z] at h2
    exact absurd (Int32.lt_of_le_of_lt h2 (by decide : nI 0 - 1 < 0)) (nI_pos hj)
  · rw [show (1 : Int32) = nI 1 from rfl, pk_sub z] at h2
    exact ⟨j, by have := (nI_leI hj (by omega)).mp h2; omega, rfl⟩
theorem fed_ix {E : It} (hE : Inv E) (h : ¬ E 0 17 = 100) : idx (E 0 17) (tN (E 0 17)) 100 := by
  obtain ⟨f, hf, e, -⟩ := hE.2.2.2.2.1
  rw [e] at h ⊢
  rw [tN_nI (by omega)]
  refine ⟨rfl, ?_, by decide⟩
  rcases Nat.lt_or_ge f 100 with z | z
  · exact z
  · exact absurd (by rw [show f = 100 by omega]; rfl) h
theorem Fr.pcw {F C : List Nat} {I : It} {q j : Nat} {x : Int32} (h : Fr F C I I) (h0 : q ≠ 0 := by decide) (hq : q ∈ C := by decide) : Fr F C I (upI I q j x) := h.pc h0 hq
theorem isD_mk {E : It} (hE : Inv E) {d : Nat} (hd : d < cnt E) : isD E (nI d) := by
  obtain ⟨e, hc⟩ := inv_cnt hE
  refine ⟨nI_pos' (by omega), ?_⟩
  rw [e, show (1 : Int32) = nI 1 from rfl, pk_sub (by omega)]
  exact (nI_leI (by omega) (by omega)).mpr (by omega)
/-! hours that are tried -/
def hcF (E : It) (hr : Nat → Int32) (n : Nat) : Int32 := costF E (E 0 5 ||| overF E hr) (E 0 6) n
theorem allR_hr {E : It} {hr hr2 : Nat → Int32} {d : Nat} (e : ∀ y, y < 4 → hr y = hr2 y) : ∀ (k y : Nat) (z : Int32), y + k ≤ 4 → allR E hr d k y z = allR E hr2 d k y z := by
  intro k
  induction k with
  | zero => intro y z _; rfl
  | succ k ih => intro y z hk; rw [allR_s, allR_s, e y (by omega)]; exact ih (y + 1) _ (by omega)
theorem saidF_hr {E : It} {hr hr2 : Nat → Int32} (e : ∀ y, y < 4 → hr y = hr2 y) (d : Nat) : saidF E hr d = saidF E hr2 d := by
  unfold saidF allF
  rw [allR_hr e (4 - 0) 0 0 (by omega), allR_hr e (4 - 2) 2 0 (by omega), e 0 (by decide), e 1 (by decide), e 2 (by decide), e 3 (by decide)]
theorem overF_hr {E : It} {hr hr2 : Nat → Int32} (e : ∀ y, y < 4 → hr y = hr2 y) : overF E hr = overF E hr2 := by
  have key : ∀ (k i : Nat) (s : Int32), overR E hr k i s = overR E hr2 k i s := by
    intro k
    induction k with
    | zero => intro i s; rfl
    | succ k ih => intro i s; rw [overR_s, overR_s, saidF_hr e, ih]
  exact key _ _ _
theorem RM_hour {E J K : It} {F : List Nat} {y : Nat} {a x : Int32} (hR : RM E J) (hf : Fr F [18, 20] (upI J 8 y a) K) (hF : disj pfL F = true) (hx : x = E 8 y) : RM E (upI K 8 y x) := by
  refine RM.keep (F' := F) (C' := [18, 20]) hR ⟨fun j hj => ?_, fun q h0 hq => ?_⟩ hF (by decide) (by decide)
  · rw [upn (by omega)]
    exact (hf.1 j hj).trans (upn (by omega))
  · by_cases e : q = 8
    · subst e
      funext b
      by_cases e2 : b = y
      · subst e2; rw [up0, hx]; exact (RM.c1 hR 8 b (by decide) (by decide)).symm
      · rw [upn (by omega), hf.2 8 (by decide) (by decide), upn (by omega)]
    · rw [upI_off e, hf.2 q h0 hq, upI_off e]
/-! ASK and DROP, weeks looked through -/
def pickR (E : It) (n : Nat) (has : Nat → Int32) (co : Nat → Int32) : Nat → Nat → Int32 → Int32 → Int32 := fun k => match k with
  | 0 => fun _ f _ => f
  | k + 1 => fun i f l => if has i = 1 then pickR E n has co k (i + 1) f l else if f < 0 then pickR E n has co k (i + 1) (nI i) (co i) else if co i < l then pickR E n has co k (i + 1) (nI i) (co i) else pickR E n has co k (i + 1) f l
theorem pickR_s (E : It) (n : Nat) (has : Nat → Int32) (co : Nat → Int32) (k i : Nat) (f l : Int32) : pickR E n has co (k + 1) i f l = if has i = 1 then pickR E n has co k (i + 1) f l else if f < 0 then pickR E n has co k (i + 1) (nI i) (co i) else if co i < l then pickR E n has co k (i + 1) (nI i) (co i) else pickR E n has co k (i + 1) f l := rfl
def askF (E : It) (n : Nat) : Int32 := pickR E n (fun i => hasI (E 0 5) (nI i)) (fun i => costF E (withI (E 0 5) (nI i) 1) (E 0 6) n) (cnt E) 0 (-5) 0
def dropF (E : It) (n : Nat) : Int32 := pickR E n (fun i => hasI (E 0 6) (nI i)) (fun i => costF E (E 0 5) (withI (E 0 6) (nI i) 1) n) (cnt E) 0 (-5) 0
def whR (E : It) (d : Nat) : Nat → Nat → Nat := fun k => match k with
  | 0 => fun w => w
  | k + 1 => fun w => if remI (nI w) (E 3 d) = E 4 d then w else whR E d k (w + 1)
theorem whR_s (E : It) (d k w : Nat) : whR E d (k + 1) w = if remI (nI w) (E 3 d) = E 4 d then w else whR E d k (w + 1) := rfl
theorem mod_hit {r p w : Nat} (hp : p < r) : ∃ j, j < r ∧ (w + j) % r = p := by
  have h1 : w % r < r := Nat.mod_lt _ (by omega)
  rcases Nat.lt_or_ge p (w % r) with z | z
  · refine ⟨r + p - w % r, by omega, ?_⟩
    rw [Nat.add_mod, Nat.mod_eq_of_lt (show r + p - w % r < r by omega), show w % r + (r + p - w % r) = r + p by omega, Nat.add_mod_left, Nat.mod_eq_of_lt hp]
  · refine ⟨p - w % r, by omega, ?_⟩
    rw [Nat.add_mod, Nat.mod_eq_of_lt (show p - w % r < r by omega), show w % r + (p - w % r) = p by omega, Nat.mod_eq_of_lt hp]
theorem rem_nI {w r : Nat} (hw : w < 2 ^ 31) (h0 : 0 < r) (hr : r < 2 ^ 31) : remI (nI w) (nI r) = nI (w % r) := pk_rem hw h0 hr
theorem wh_hit {E : It} (hE : Inv E) {d : Nat} (hd : d < cnt E) : ∃ j, j < 60 ∧ remI (nI (wk E + j)) (E 3 d) = E 4 d := by
  obtain ⟨-, -, ⟨r, r1, r2, er, p, hp, ep⟩, -⟩ := inv_d hE hd
  have hw := (inv_wk hE).2
  obtain ⟨j, hj, e⟩ := mod_hit (w := wk E) hp
  exact ⟨j, by omega, by rw [er, ep, rem_nI (by omega) (by omega) (by omega), e]⟩
def bsR (E : It) : Nat → Nat → Nat → Nat := fun k => match k with
  | 0 => fun _ f => f
  | k + 1 => fun w f => bsR E k (w + 1) (if manyF E w ≤ manyF E f then f else w)
theorem bsR_s (E : It) (k w f : Nat) : bsR E (k + 1) w f = bsR E k (w + 1) (if manyF E w ≤ manyF E f then f else w) := rfl
def alR (E : It) (set : Int32) : Nat → Nat → Int32 := fun k => match k with
  | 0 => fun _ => -5
  | k + 1 => fun i => if allCR E set (wk E + i) (cnt E) 0 = true then nI i else alR E set k (i + 1)
theorem alR_s (E : It) (set : Int32) (k i : Nat) : alR E set (k + 1) i = if allCR E set (wk E + i) (cnt E) 0 = true then nI i else alR E set k (i + 1) := rfl
/-! tapes -/
theorem inv_tp {E : It} (hE : Inv E) {t : Nat} (ht : t < 6) (h : ¬ E 36 t < 0) : ∃ l, l ≤ 60 ∧ E 37 t = nI l := by
  rcases hE.2.2.2.2.2.2 t ht with ⟨e, -⟩ | ⟨s, l, -, hl, -, e⟩
  · rw [e] at h; exact absurd (by decide) h
  · exact ⟨l, hl, e⟩
theorem pl_of {l : Nat} {i : Int32} (hl : l ≤ 60) (h : 0 ≤ i ∧ i ≤ nI l - 1) : ∃ k, k < l ∧ i = nI k := by
  obtain ⟨j, hj, rfl⟩ := nI_of (Int32.not_lt.mpr h.1)
  rcases Nat.eq_zero_or_pos l with z | z
  · subst z
    exact absurd (Int32.lt_of_le_of_lt h.2 (by decide : nI 0 - 1 < 0)) (nI_pos hj)
  · have h2 := h.2
    rw [show (1 : Int32) = nI 1 from rfl, pk_sub z] at h2
    exact ⟨j, by have := (nI_leI hj (by omega)).mp h2; omega, rfl⟩
def narF (s : Int32) (z : Int64) : Int64 := if s = 0 then z.toInt32.toInt8.toInt32.toInt64 else if s = 1 then z.toInt32.toInt16.toInt32.toInt64 else if s = 2 then z.toInt32.toInt64 else if s = 4 then (if z = 0 then 0 else 1) else z
def NOL : Int64 := -9223372036854775808
def tsF (t : Int32) : Prop := 0 ≤ t ∧ t ≤ 5
abbrev isT (t : Int32) : Prop := 0 ≤ t ∧ t ≤ 5
def jdR (E : It) (L : Nat → Int64) (t : Nat) (i : Int32) : Nat → Nat → Int32 := fun k => match k with
  | 0 => fun _ => -5
  | k + 1 => fun j => if E 36 t < 0 then 100 + nI j else if i < 0 then 100 + nI j else if ¬ i ≤ E 37 t - nI j - 1 then 100 + nI j
      else if L (60 * t + tN i + j) = (if hasI (E 0 5) (nI j) = 1 then 1 else 0) then jdR E L t i k (j + 1) else nI j
theorem jdR_s (E : It) (L : Nat → Int64) (t : Nat) (i : Int32) (k j : Nat) : jdR E L t i (k + 1) j = if E 36 t < 0 then 100 + nI j else if i < 0 then 100 + nI j else if ¬ i ≤ E 37 t - nI j - 1 then 100 + nI j
      else if L (60 * t + tN i + j) = (if hasI (E 0 5) (nI j) = 1 then 1 else 0) then jdR E L t i k (j + 1) else nI j := rfl

theorem cE_isDoing {G : Gt} (hG : Gok G) {I : It} {h : Ht} (hM : HM h) {E : It} (hR : I 0 0 = E 0 0) {a : Int32} : Con G 2 0 0 mX12_isDoing [.ref 0, .int a] I h (rI (bI (isD E a)) I h) := by
  have hc := c_X12_isDoing hG hM (I := I) (a := a)
  rw [hR] at hc
  exact hc
theorem cE_saidOf {G : Gt} (hG : Gok G) {I : It} {h : Ht} (hM : HM h) {E : It} (hE : Inv E) (hR : RM E I) {d : Nat} (hd : d < cnt E) (hS : SY E I) : Con G 2 0 0 mX12_saidOf [.ref 0, .int (nI d)] I h (rI (saidF E (E 8) d) I h) := by
  have hc := c_X12_saidOf hG hM hE (Ag.of hR (by decide) (by decide)) hd hS
  rw [RM.c hR 8 (by decide) (by decide)] at hc
  exact hc
theorem cE_over {G : Gt} (hG : Gok G) {I : It} {h : Ht} (hM : HM h) {E : It} (hE : Inv E) (hR : RM E I) (hS : SY E I) : Con G 3 0 0 mX12_over [.ref 0] I h (rI (overF E (E 8)) I h) := by
  have hc := c_X12_over hG hM hE (Ag.of hR (by decide) (by decide)) hS
  rw [RM.c hR 8 (by decide) (by decide)] at hc
  exact hc
theorem cE_ones {G : Gt} (hG : Gok G) {I : It} {h : Ht} {x : Int32} {n : Nat} (hx : kb n x) (hn : n ≤ 10) : Con G 1 0 0 mX12_ones [.ref 0, .int x] I h (rI (onesI x) I h) := by
  obtain ⟨m, hm, rfl⟩ := kb_lt hx hn
  unfold onesI
  rw [tN_nI (by omega)]
  exact c_X12_ones hG hm
end
