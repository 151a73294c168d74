set_option maxRecDepth 8000 in
set_option maxHeartbeats 4000000 in
theorem c_X12_dear {G : Gt} (hG : Gok G) {I : It} {h : Ht} (hM : HM h) {E : It} (hE : Inv E) (hA : Ag E I) {w : Int32} {d : Nat} (hd : d < 10) : Con G (4) 0 0 mX12_dear [.ref 0, .int (nI d), .int w] I h (qF (dearF E d w) [] [18] I h) := by
  refine con_intro (own := RX12) (lo0 := [some (.ref 0), some (.int (nI d)), some (.int w)]) hG rfl pl_X12 (Nat.le_of_ble_eq_true rfl) rfl (fun X hX => ?_)
  refine g_aload_0 hX (dk DX12_dear 0 rfl) ?_
  refine g_getRs (r := 5) hX (dk DX12_dear 1 rfl) KX12 fX12_44 (by decide) rfl (MLt hM (by decide)) (MC hM) (MR hM 11 (by decide) rfl) ?_
  refine g_iload_1 hX (dk DX12_dear 2 rfl) ?_
  refine v_iaload hX (dk DX12_dear 3 rfl) (MLt hM (q := 5) (by decide)) (MS hM 5 (by decide) rfl) (⟨rfl, by omega, by decide⟩) (congrFun (hA.2.1 5 (by decide)) d) ?_
  refine g_aload_0 hX (dk DX12_dear 4 rfl) ?_
  refine g_iconst (v := 1) hX (dk DX12_dear 5 rfl) (by decide) ?_
  refine g_iload_1 hX (dk DX12_dear 6 rfl) ?_
  refine g_bipush (v := 9) hX (dk DX12_dear 7 rfl) (by decide) ?_
  refine g_iload_2 hX (dk DX12_dear 8 rfl) ?_
  refine g_bipush (v := 60) hX (dk DX12_dear 9 rfl) (by decide) ?_
  refine g_irem hX (dk DX12_dear 10 rfl) (by decide) ?_
  refine g_c5q hX sX12_dear_15 (by decide) (Nat.le_of_ble_eq_true rfl) (rc0 rfl (MLt hM (by decide)) (MC hM)) (by decide) (by decide) (c_X12_sumOf hG hM hE hA hd (Or.inr rfl)) ?_
  rintro _ J2 _ ⟨rfl, hfr2, rfl⟩
  refine g_iadd hX (dk DX12_dear 12 rfl) ?_
  refine g_ireturn hX (dk DX12_dear 13 rfl) rfl (rfl) (by decide) (by decide) ?_
  exact qF_of rfl hfr2

theorem inv_r {E : It} (hE : Inv E) {d : Nat} (hd : d < cnt E) : ∃ r p, 1 ≤ r ∧ r ≤ 60 ∧ p < r ∧ E 3 d = nI r ∧ E 4 d = nI p := by
  obtain ⟨-, -, ⟨r, h1, h2, h3, p, h4, h5⟩, -⟩ := inv_d hE hd
  exact ⟨r, p, h1, h2, h4, h3, h5⟩
theorem inv_r0 {E : It} (hE : Inv E) {d : Nat} (hd : d < cnt E) : ¬ E 3 d = 0 := by
  obtain ⟨r, p, h1, h2, -, h3, -⟩ := inv_r hE hd
  rw [h3]
  exact nI_ne0 (by omega) (by omega)

set_option maxRecDepth 8000 in
set_option maxHeartbeats 4000000 in
theorem c_X12_comes {G : Gt} (hG : Gok G) {I : It} {h : Ht} (hM : HM h) {E : It} (hE : Inv E) (hA : Ag E I) {w : Int32} {d : Nat} (hd : d < cnt E) : Con G (1) 0 0 mX12_comes [.ref 0, .int (nI d), .int w] I h (rI (bI (remI w (E 3 d) = E 4 d)) I h) := by
  refine con_intro (own := RX12) (lo0 := [some (.ref 0), some (.int (nI d)), some (.int w)]) hG rfl pl_X12 (Nat.le_of_ble_eq_true rfl) rfl (fun X hX => ?_)
  have hc10 := (inv_cnt hE).2
  refine g_iload_2 hX (dk DX12_comes 0 rfl) ?_
  refine g_aload_0 hX (dk DX12_comes 1 rfl) ?_
  refine g_getRs (r := 3) hX (dk DX12_comes 2 rfl) KX12 fX12_38 (by decide) rfl (MLt hM (by decide)) (MC hM) (MR hM 9 (by decide) rfl) ?_
  refine g_iload_1 hX (dk DX12_comes 3 rfl) ?_
  refine v_iaload hX (dk DX12_comes 4 rfl) (MLt hM (q := 3) (by decide)) (MS hM 3 (by decide) rfl) (⟨rfl, by omega, by decide⟩) (congrFun (hA.2.1 3 (by decide)) d) ?_
  refine g_irem hX (dk DX12_comes 5 rfl) (inv_r0 hE hd) ?_
  refine g_aload_0 hX (dk DX12_comes 6 rfl) ?_
  refine g_getRs (r := 4) hX (dk DX12_comes 7 rfl) KX12 fX12_41 (by decide) rfl (MLt hM (by decide)) (MC hM) (MR hM 10 (by decide) rfl) ?_
  refine g_iload_1 hX (dk DX12_comes 8 rfl) ?_
  refine v_iaload hX (dk DX12_comes 9 rfl) (MLt hM (q := 4) (by decide)) (MS hM 4 (by decide) rfl) (⟨rfl, by omega, by decide⟩) (congrFun (hA.2.1 4 (by decide)) d) ?_
  refine g_icmp_ne (tgt := 21) hX (dk DX12_comes 10 rfl) (by decide) (fun hc1 => ?_) (fun hc1 => ?_)
  · refine g_iconst (v := 0) hX (dk DX12_comes 13 rfl) (by decide) ?_
    refine g_ireturn hX (dk DX12_comes 14 rfl) rfl (by decide) (by decide) (by decide) ?_
    exact rI_of (by first | exact (bI_t (by assumption)).symm | exact (bI_f (by assumption)).symm) rfl rfl
  · refine g_iconst (v := 1) hX (dk DX12_comes 11 rfl) (by decide) ?_
    refine g_goto (tgt := 22) hX (dk DX12_comes 12 rfl) (by decide) ?_
    refine g_ireturn hX (dk DX12_comes 14 rfl) rfl (by decide) (by decide) (by decide) ?_
    exact rI_of (by first | exact (bI_t (by assumption)).symm | exact (bI_f (by assumption)).symm) rfl rfl

set_option maxRecDepth 8000 in
set_option maxHeartbeats 4000000 in
theorem c_X12_learnsBy {G : Gt} (hG : Gok G) {I : It} {h : Ht} (hM : HM h) {E : It} (hA : Ag E I) {d : Nat} (hd : d < 10) : Con G (1) 0 0 mX12_learnsBy [.ref 0, .int (nI d)] I h (rI (@bI (learnsF E d) (dcL E d)) I h) := by
  refine con_intro (own := RX12) (lo0 := [some (.ref 0), some (.int (nI d))]) hG rfl pl_X12 (Nat.le_of_ble_eq_true rfl) rfl (fun X hX => ?_)
  refine g_aload_0 hX (dk DX12_learnsBy 0 rfl) ?_
  refine g_getRs (r := 1) hX (dk DX12_learnsBy 1 rfl) KX12 fX12_31 (by decide) rfl (MLt hM (by decide)) (MC hM) (MR hM 7 (by decide) rfl) ?_
  refine g_iload_1 hX (dk DX12_learnsBy 2 rfl) ?_
  refine v_iaload hX (dk DX12_learnsBy 3 rfl) (MLt hM (q := 1) (by decide)) (MS hM 1 (by decide) rfl) (⟨rfl, by omega, by decide⟩) (congrFun (hA.2.1 1 (by decide)) d) ?_
  refine g_iconst (v := 3) hX (dk DX12_learnsBy 4 rfl) (by decide) ?_
  refine g_icmp_eq (tgt := 21) hX (dk DX12_learnsBy 5 rfl) (by decide) (fun hc1 => ?_) (fun hc1 => ?_)
  · refine g_aload_0 hX (dk DX12_learnsBy 12 rfl) ?_
    refine g_getRs (r := 2) hX (dk DX12_learnsBy 13 rfl) KX12 fX12_35 (by decide) rfl (MLt hM (by decide)) (MC hM) (MR hM 8 (by decide) rfl) ?_
    refine g_iload_1 hX (dk DX12_learnsBy 14 rfl) ?_
    refine v_iaload hX (dk DX12_learnsBy 15 rfl) (MLt hM (q := 2) (by decide)) (MS hM 2 (by decide) rfl) (⟨rfl, by omega, by decide⟩) (congrFun (hA.2.1 2 (by decide)) d) ?_
    refine g_if_eq (tgt := 60) hX (dk DX12_learnsBy 16 rfl) (by decide) (fun hc2 => ?_) (fun hc2 => ?_)
    · refine g_iconst (v := 1) hX (dk DX12_learnsBy 35 rfl) (by decide) ?_
      refine g_goto (tgt := 65) hX (dk DX12_learnsBy 36 rfl) (by decide) ?_
      refine g_ireturn hX (dk DX12_learnsBy 38 rfl) rfl (by decide) (by decide) (by decide) ?_
      exact rI_of (by first | exact (@bI_t _ (dcL E d) (by unfold learnsF; grind)).symm | exact (@bI_f _ (dcL E d) (by unfold learnsF; grind)).symm) rfl rfl
    · refine g_aload_0 hX (dk DX12_learnsBy 17 rfl) ?_
      refine g_getRs (r := 1) hX (dk DX12_learnsBy 18 rfl) KX12 fX12_31 (by decide) rfl (MLt hM (by decide)) (MC hM) (MR hM 7 (by decide) rfl) ?_
      refine g_iload_1 hX (dk DX12_learnsBy 19 rfl) ?_
      refine v_iaload hX (dk DX12_learnsBy 20 rfl) (MLt hM (q := 1) (by decide)) (MS hM 1 (by decide) rfl) (⟨rfl, by omega, by decide⟩) (congrFun (hA.2.1 1 (by decide)) d) ?_
      refine g_iconst (v := 2) hX (dk DX12_learnsBy 21 rfl) (by decide) ?_
      refine g_icmp_eq (tgt := 50) hX (dk DX12_learnsBy 22 rfl) (by decide) (fun hc3 => ?_) (fun hc3 => ?_)
      · refine g_aload_0 hX (dk DX12_learnsBy 29 rfl) ?_
        refine g_getRs (r := 2) hX (dk DX12_learnsBy 30 rfl) KX12 fX12_35 (by decide) rfl (MLt hM (by decide)) (MC hM) (MR hM 8 (by decide) rfl) ?_
        refine g_iload_1 hX (dk DX12_learnsBy 31 rfl) ?_
        refine v_iaload hX (dk DX12_learnsBy 32 rfl) (MLt hM (q := 2) (by decide)) (MS hM 2 (by decide) rfl) (⟨rfl, by omega, by decide⟩) (congrFun (hA.2.1 2 (by decide)) d) ?_
        refine g_iconst (v := 4) hX (dk DX12_learnsBy 33 rfl) (by decide) ?_
        refine g_icmp_le (tgt := 64) hX (dk DX12_learnsBy 34 rfl) (by decide) (fun hc4 => ?_) (fun hc4 => ?_)
        · refine g_iconst (v := 0) hX (dk DX12_learnsBy 37 rfl) (by decide) ?_
          refine g_ireturn hX (dk DX12_learnsBy 38 rfl) rfl (by decide) (by decide) (by decide) ?_
          exact rI_of (by first | exact (@bI_t _ (dcL E d) (by unfold learnsF; grind)).symm | exact (@bI_f _ (dcL E d) (by unfold learnsF; grind)).symm) rfl rfl
        · refine g_iconst (v := 1) hX (dk DX12_learnsBy 35 rfl) (by decide) ?_
          refine g_goto (tgt := 65) hX (dk DX12_learnsBy 36 rfl) (by decide) ?_
          refine g_ireturn hX (dk DX12_learnsBy 38 rfl) rfl (by decide) (by decide) (by decide) ?_
          exact rI_of (by first | exact (@bI_t _ (dcL E d) (by unfold learnsF; grind)).symm | exact (@bI_f _ (dcL E d) (by unfold learnsF; grind)).symm) rfl rfl
      · refine g_aload_0 hX (dk DX12_learnsBy 23 rfl) ?_
        refine g_getRs (r := 1) hX (dk DX12_learnsBy 24 rfl) KX12 fX12_31 (by decide) rfl (MLt hM (by decide)) (MC hM) (MR hM 7 (by decide) rfl) ?_
        refine g_iload_1 hX (dk DX12_learnsBy 25 rfl) ?_
        refine v_iaload hX (dk DX12_learnsBy 26 rfl) (MLt hM (q := 1) (by decide)) (MS hM 1 (by decide) rfl) (⟨rfl, by omega, by decide⟩) (congrFun (hA.2.1 1 (by decide)) d) ?_
        refine g_iconst (v := 5) hX (dk DX12_learnsBy 27 rfl) (by decide) ?_
        refine g_icmp_ne (tgt := 64) hX (dk DX12_learnsBy 28 rfl) (by decide) (fun hc5 => ?_) (fun hc5 => ?_)
        · refine g_iconst (v := 0) hX (dk DX12_learnsBy 37 rfl) (by decide) ?_
          refine g_ireturn hX (dk DX12_learnsBy 38 rfl) rfl (by decide) (by decide) (by decide) ?_
          exact rI_of (by first | exact (@bI_t _ (dcL E d) (by unfold learnsF; grind)).symm | exact (@bI_f _ (dcL E d) (by unfold learnsF; grind)).symm) rfl rfl
        · refine g_aload_0 hX (dk DX12_learnsBy 29 rfl) ?_
          refine g_getRs (r := 2) hX (dk DX12_learnsBy 30 rfl) KX12 fX12_35 (by decide) rfl (MLt hM (by decide)) (MC hM) (MR hM 8 (by decide) rfl) ?_
          refine g_iload_1 hX (dk DX12_learnsBy 31 rfl) ?_
          refine v_iaload hX (dk DX12_learnsBy 32 rfl) (MLt hM (q := 2) (by decide)) (MS hM 2 (by decide) rfl) (⟨rfl, by omega, by decide⟩) (congrFun (hA.2.1 2 (by decide)) d) ?_
          refine g_iconst (v := 4) hX (dk DX12_learnsBy 33 rfl) (by decide) ?_
          refine g_icmp_le (tgt := 64) hX (dk DX12_learnsBy 34 rfl) (by decide) (fun hc6 => ?_) (fun hc6 => ?_)
          · refine g_iconst (v := 0) hX (dk DX12_learnsBy 37 rfl) (by decide) ?_
            refine g_ireturn hX (dk DX12_learnsBy 38 rfl) rfl (by decide) (by decide) (by decide) ?_
            exact rI_of (by first | exact (@bI_t _ (dcL E d) (by unfold learnsF; grind)).symm | exact (@bI_f _ (dcL E d) (by unfold learnsF; grind)).symm) rfl rfl
          · refine g_iconst (v := 1) hX (dk DX12_learnsBy 35 rfl) (by decide) ?_
            refine g_goto (tgt := 65) hX (dk DX12_learnsBy 36 rfl) (by decide) ?_
            refine g_ireturn hX (dk DX12_learnsBy 38 rfl) rfl (by decide) (by decide) (by decide) ?_
            exact rI_of (by first | exact (@bI_t _ (dcL E d) (by unfold learnsF; grind)).symm | exact (@bI_f _ (dcL E d) (by unfold learnsF; grind)).symm) rfl rfl
  · refine g_aload_0 hX (dk DX12_learnsBy 6 rfl) ?_
    refine g_getRs (r := 1) hX (dk DX12_learnsBy 7 rfl) KX12 fX12_31 (by decide) rfl (MLt hM (by decide)) (MC hM) (MR hM 7 (by decide) rfl) ?_
    refine g_iload_1 hX (dk DX12_learnsBy 8 rfl) ?_
    refine v_iaload hX (dk DX12_learnsBy 9 rfl) (MLt hM (q := 1) (by decide)) (MS hM 1 (by decide) rfl) (⟨rfl, by omega, by decide⟩) (congrFun (hA.2.1 1 (by decide)) d) ?_
    refine g_bipush (v := 6) hX (dk DX12_learnsBy 10 rfl) (by decide) ?_
    refine g_icmp_ne (tgt := 30) hX (dk DX12_learnsBy 11 rfl) (by decide) (fun hc7 => ?_) (fun hc7 => ?_)
    · refine g_aload_0 hX (dk DX12_learnsBy 17 rfl) ?_
      refine g_getRs (r := 1) hX (dk DX12_learnsBy 18 rfl) KX12 fX12_31 (by decide) rfl (MLt hM (by decide)) (MC hM) (MR hM 7 (by decide) rfl) ?_
      refine g_iload_1 hX (dk DX12_learnsBy 19 rfl) ?_
      refine v_iaload hX (dk DX12_learnsBy 20 rfl) (MLt hM (q := 1) (by decide)) (MS hM 1 (by decide) rfl) (⟨rfl, by omega, by decide⟩) (congrFun (hA.2.1 1 (by decide)) d) ?_
      refine g_iconst (v := 2) hX (dk DX12_learnsBy 21 rfl) (by decide) ?_
      refine g_icmp_eq (tgt := 50) hX (dk DX12_learnsBy 22 rfl) (by decide) (fun hc8 => ?_) (fun hc8 => ?_)
      · refine g_aload_0 hX (dk DX12_learnsBy 29 rfl) ?_
        refine g_getRs (r := 2) hX (dk DX12_learnsBy 30 rfl) KX12 fX12_35 (by decide) rfl (MLt hM (by decide)) (MC hM) (MR hM 8 (by decide) rfl) ?_
        refine g_iload_1 hX (dk DX12_learnsBy 31 rfl) ?_
        refine v_iaload hX (dk DX12_learnsBy 32 rfl) (MLt hM (q := 2) (by decide)) (MS hM 2 (by decide) rfl) (⟨rfl, by omega, by decide⟩) (congrFun (hA.2.1 2 (by decide)) d) ?_
        refine g_iconst (v := 4) hX (dk DX12_learnsBy 33 rfl) (by decide) ?_
        refine g_icmp_le (tgt := 64) hX (dk DX12_learnsBy 34 rfl) (by decide) (fun hc9 => ?_) (fun hc9 => ?_)
        · refine g_iconst (v := 0) hX (dk DX12_learnsBy 37 rfl) (by decide) ?_
          refine g_ireturn hX (dk DX12_learnsBy 38 rfl) rfl (by decide) (by decide) (by decide) ?_
          exact rI_of (by first | exact (@bI_t _ (dcL E d) (by unfold learnsF; grind)).symm | exact (@bI_f _ (dcL E d) (by unfold learnsF; grind)).symm) rfl rfl
        · refine g_iconst (v := 1) hX (dk DX12_learnsBy 35 rfl) (by decide) ?_
          refine g_goto (tgt := 65) hX (dk DX12_learnsBy 36 rfl) (by decide) ?_
          refine g_ireturn hX (dk DX12_learnsBy 38 rfl) rfl (by decide) (by decide) (by decide) ?_
          exact rI_of (by first | exact (@bI_t _ (dcL E d) (by unfold learnsF; grind)).symm | exact (@bI_f _ (dcL E d) (by unfold learnsF; grind)).symm) rfl rfl
      · refine g_aload_0 hX (dk DX12_learnsBy 23 rfl) ?_
        refine g_getRs (r := 1) hX (dk DX12_learnsBy 24 rfl) KX12 fX12_31 (by decide) rfl (MLt hM (by decide)) (MC hM) (MR hM 7 (by decide) rfl) ?_
        refine g_iload_1 hX (dk DX12_learnsBy 25 rfl) ?_
        refine v_iaload hX (dk DX12_learnsBy 26 rfl) (MLt hM (q := 1) (by decide)) (MS hM 1 (by decide) rfl) (⟨rfl, by omega, by decide⟩) (congrFun (hA.2.1 1 (by decide)) d) ?_
        refine g_iconst (v := 5) hX (dk DX12_learnsBy 27 rfl) (by decide) ?_
        refine g_icmp_ne (tgt := 64) hX (dk DX12_learnsBy 28 rfl) (by decide) (fun hc10 => ?_) (fun hc10 => ?_)
        · refine g_iconst (v := 0) hX (dk DX12_learnsBy 37 rfl) (by decide) ?_
          refine g_ireturn hX (dk DX12_learnsBy 38 rfl) rfl (by decide) (by decide) (by decide) ?_
          exact rI_of (by first | exact (@bI_t _ (dcL E d) (by unfold learnsF; grind)).symm | exact (@bI_f _ (dcL E d) (by unfold learnsF; grind)).symm) rfl rfl
        · refine g_aload_0 hX (dk DX12_learnsBy 29 rfl) ?_
          refine g_getRs (r := 2) hX (dk DX12_learnsBy 30 rfl) KX12 fX12_35 (by decide) rfl (MLt hM (by decide)) (MC hM) (MR hM 8 (by decide) rfl) ?_
          refine g_iload_1 hX (dk DX12_learnsBy 31 rfl) ?_
          refine v_iaload hX (dk DX12_learnsBy 32 rfl) (MLt hM (q := 2) (by decide)) (MS hM 2 (by decide) rfl) (⟨rfl, by omega, by decide⟩) (congrFun (hA.2.1 2 (by decide)) d) ?_
          refine g_iconst (v := 4) hX (dk DX12_learnsBy 33 rfl) (by decide) ?_
          refine g_icmp_le (tgt := 64) hX (dk DX12_learnsBy 34 rfl) (by decide) (fun hc11 => ?_) (fun hc11 => ?_)
          · refine g_iconst (v := 0) hX (dk DX12_learnsBy 37 rfl) (by decide) ?_
            refine g_ireturn hX (dk DX12_learnsBy 38 rfl) rfl (by decide) (by decide) (by decide) ?_
            exact rI_of (by first | exact (@bI_t _ (dcL E d) (by unfold learnsF; grind)).symm | exact (@bI_f _ (dcL E d) (by unfold learnsF; grind)).symm) rfl rfl
          · refine g_iconst (v := 1) hX (dk DX12_learnsBy 35 rfl) (by decide) ?_
            refine g_goto (tgt := 65) hX (dk DX12_learnsBy 36 rfl) (by decide) ?_
            refine g_ireturn hX (dk DX12_learnsBy 38 rfl) rfl (by decide) (by decide) (by decide) ?_
            exact rI_of (by first | exact (@bI_t _ (dcL E d) (by unfold learnsF; grind)).symm | exact (@bI_f _ (dcL E d) (by unfold learnsF; grind)).symm) rfl rfl
    · refine g_aload_0 hX (dk DX12_learnsBy 12 rfl) ?_
      refine g_getRs (r := 2) hX (dk DX12_learnsBy 13 rfl) KX12 fX12_35 (by decide) rfl (MLt hM (by decide)) (MC hM) (MR hM 8 (by decide) rfl) ?_
      refine g_iload_1 hX (dk DX12_learnsBy 14 rfl) ?_
      refine v_iaload hX (dk DX12_learnsBy 15 rfl) (MLt hM (q := 2) (by decide)) (MS hM 2 (by decide) rfl) (⟨rfl, by omega, by decide⟩) (congrFun (hA.2.1 2 (by decide)) d) ?_
      refine g_if_eq (tgt := 60) hX (dk DX12_learnsBy 16 rfl) (by decide) (fun hc12 => ?_) (fun hc12 => ?_)
      · refine g_iconst (v := 1) hX (dk DX12_learnsBy 35 rfl) (by decide) ?_
        refine g_goto (tgt := 65) hX (dk DX12_learnsBy 36 rfl) (by decide) ?_
        refine g_ireturn hX (dk DX12_learnsBy 38 rfl) rfl (by decide) (by decide) (by decide) ?_
        exact rI_of (by first | exact (@bI_t _ (dcL E d) (by unfold learnsF; grind)).symm | exact (@bI_f _ (dcL E d) (by unfold learnsF; grind)).symm) rfl rfl
      · refine g_aload_0 hX (dk DX12_learnsBy 17 rfl) ?_
        refine g_getRs (r := 1) hX (dk DX12_learnsBy 18 rfl) KX12 fX12_31 (by decide) rfl (MLt hM (by decide)) (MC hM) (MR hM 7 (by decide) rfl) ?_
        refine g_iload_1 hX (dk DX12_learnsBy 19 rfl) ?_
        refine v_iaload hX (dk DX12_learnsBy 20 rfl) (MLt hM (q := 1) (by decide)) (MS hM 1 (by decide) rfl) (⟨rfl, by omega, by decide⟩) (congrFun (hA.2.1 1 (by decide)) d) ?_
        refine g_iconst (v := 2) hX (dk DX12_learnsBy 21 rfl) (by decide) ?_
        refine g_icmp_eq (tgt := 50) hX (dk DX12_learnsBy 22 rfl) (by decide) (fun hc13 => ?_) (fun hc13 => ?_)
        · refine g_aload_0 hX (dk DX12_learnsBy 29 rfl) ?_
          refine g_getRs (r := 2) hX (dk DX12_learnsBy 30 rfl) KX12 fX12_35 (by decide) rfl (MLt hM (by decide)) (MC hM) (MR hM 8 (by decide) rfl) ?_
          refine g_iload_1 hX (dk DX12_learnsBy 31 rfl) ?_
          refine v_iaload hX (dk DX12_learnsBy 32 rfl) (MLt hM (q := 2) (by decide)) (MS hM 2 (by decide) rfl) (⟨rfl, by omega, by decide⟩) (congrFun (hA.2.1 2 (by decide)) d) ?_
          refine g_iconst (v := 4) hX (dk DX12_learnsBy 33 rfl) (by decide) ?_
          refine g_icmp_le (tgt := 64) hX (dk DX12_learnsBy 34 rfl) (by decide) (fun hc14 => ?_) (fun hc14 => ?_)
          · refine g_iconst (v := 0) hX (dk DX12_learnsBy 37 rfl) (by decide) ?_
            refine g_ireturn hX (dk DX12_learnsBy 38 rfl) rfl (by decide) (by decide) (by decide) ?_
            exact rI_of (by first | exact (@bI_t _ (dcL E d) (by unfold learnsF; grind)).symm | exact (@bI_f _ (dcL E d) (by unfold learnsF; grind)).symm) rfl rfl
          · refine g_iconst (v := 1) hX (dk DX12_learnsBy 35 rfl) (by decide) ?_
            refine g_goto (tgt := 65) hX (dk DX12_learnsBy 36 rfl) (by decide) ?_
            refine g_ireturn hX (dk DX12_learnsBy 38 rfl) rfl (by decide) (by decide) (by decide) ?_
            exact rI_of (by first | exact (@bI_t _ (dcL E d) (by unfold learnsF; grind)).symm | exact (@bI_f _ (dcL E d) (by unfold learnsF; grind)).symm) rfl rfl
        · refine g_aload_0 hX (dk DX12_learnsBy 23 rfl) ?_
          refine g_getRs (r := 1) hX (dk DX12_learnsBy 24 rfl) KX12 fX12_31 (by decide) rfl (MLt hM (by decide)) (MC hM) (MR hM 7 (by decide) rfl) ?_
          refine g_iload_1 hX (dk DX12_learnsBy 25 rfl) ?_
          refine v_iaload hX (dk DX12_learnsBy 26 rfl) (MLt hM (q := 1) (by decide)) (MS hM 1 (by decide) rfl) (⟨rfl, by omega, by decide⟩) (congrFun (hA.2.1 1 (by decide)) d) ?_
          refine g_iconst (v := 5) hX (dk DX12_learnsBy 27 rfl) (by decide) ?_
          refine g_icmp_ne (tgt := 64) hX (dk DX12_learnsBy 28 rfl) (by decide) (fun hc15 => ?_) (fun hc15 => ?_)
          · refine g_iconst (v := 0) hX (dk DX12_learnsBy 37 rfl) (by decide) ?_
            refine g_ireturn hX (dk DX12_learnsBy 38 rfl) rfl (by decide) (by decide) (by decide) ?_
            exact rI_of (by first | exact (@bI_t _ (dcL E d) (by unfold learnsF; grind)).symm | exact (@bI_f _ (dcL E d) (by unfold learnsF; grind)).symm) rfl rfl
          · refine g_aload_0 hX (dk DX12_learnsBy 29 rfl) ?_
            refine g_getRs (r := 2) hX (dk DX12_learnsBy 30 rfl) KX12 fX12_35 (by decide) rfl (MLt hM (by decide)) (MC hM) (MR hM 8 (by decide) rfl) ?_
            refine g_iload_1 hX (dk DX12_learnsBy 31 rfl) ?_
            refine v_iaload hX (dk DX12_learnsBy 32 rfl) (MLt hM (q := 2) (by decide)) (MS hM 2 (by decide) rfl) (⟨rfl, by omega, by decide⟩) (congrFun (hA.2.1 2 (by decide)) d) ?_
            refine g_iconst (v := 4) hX (dk DX12_learnsBy 33 rfl) (by decide) ?_
            refine g_icmp_le (tgt := 64) hX (dk DX12_learnsBy 34 rfl) (by decide) (fun hc16 => ?_) (fun hc16 => ?_)
            · refine g_iconst (v := 0) hX (dk DX12_learnsBy 37 rfl) (by decide) ?_
              refine g_ireturn hX (dk DX12_learnsBy 38 rfl) rfl (by decide) (by decide) (by decide) ?_
              exact rI_of (by first | exact (@bI_t _ (dcL E d) (by unfold learnsF; grind)).symm | exact (@bI_f _ (dcL E d) (by unfold learnsF; grind)).symm) rfl rfl
            · refine g_iconst (v := 1) hX (dk DX12_learnsBy 35 rfl) (by decide) ?_
              refine g_goto (tgt := 65) hX (dk DX12_learnsBy 36 rfl) (by decide) ?_
              refine g_ireturn hX (dk DX12_learnsBy 38 rfl) rfl (by decide) (by decide) (by decide) ?_
              exact rI_of (by first | exact (@bI_t _ (dcL E d) (by unfold learnsF; grind)).symm | exact (@bI_f _ (dcL E d) (by unfold learnsF; grind)).symm) rfl rfl

set_option maxRecDepth 8000 in
set_option maxHeartbeats 4000000 in
theorem c_X12_begins {G : Gt} (hG : Gok G) {I : It} {h : Ht} (hM : HM h) {a b : Int32} : Con G (1) 0 0 mX12_begins [.ref 0, .int a, .int b] I h (qV (fun I' h' => TS I' b (0, a, 0, 0, 0, -5, -5) ∧ Fr [34, 35, 36, 37, 38, 39, 40] [] I I' ∧ h' = h)) := by
  refine con_intro (own := RX12) (lo0 := [some (.ref 0), some (.int a), some (.int b)]) hG rfl pl_X12 (Nat.le_of_ble_eq_true rfl) rfl (fun X hX => ?_)
  refine g_aload_0 hX (dk DX12_begins 0 rfl) ?_
  refine g_iload_1 hX (dk DX12_begins 1 rfl) ?_
  refine g_putI hX (dk DX12_begins 2 rfl) KX12 fX12_114 (by decide) rfl (MLt hM (by decide)) (MC hM) (Or.inl rfl) (rfl) (rfl) ?_
  refine g_aload_0 hX (dk DX12_begins 3 rfl) ?_
  refine g_iload_2 hX (dk DX12_begins 4 rfl) ?_
  refine g_putI hX (dk DX12_begins 5 rfl) KX12 fX12_117 (by decide) rfl (MLt hM (by decide)) (MC hM) (Or.inl rfl) (rfl) (rfl) ?_
  refine g_aload_0 hX (dk DX12_begins 6 rfl) ?_
  refine g_iconst (v := 0) hX (dk DX12_begins 7 rfl) (by decide) ?_
  refine g_putI hX (dk DX12_begins 8 rfl) KX12 fX12_120 (by decide) rfl (MLt hM (by decide)) (MC hM) (Or.inl rfl) (rfl) (rfl) ?_
  refine g_aload_0 hX (dk DX12_begins 9 rfl) ?_
  refine g_iconst (v := 0) hX (dk DX12_begins 10 rfl) (by decide) ?_
  refine g_putI hX (dk DX12_begins 11 rfl) KX12 fX12_123 (by decide) rfl (MLt hM (by decide)) (MC hM) (Or.inl rfl) (rfl) (rfl) ?_
  refine g_aload_0 hX (dk DX12_begins 12 rfl) ?_
  refine g_iconst (v := 0) hX (dk DX12_begins 13 rfl) (by decide) ?_
  refine g_putI hX (dk DX12_begins 14 rfl) KX12 fX12_126 (by decide) rfl (MLt hM (by decide)) (MC hM) (Or.inl rfl) (rfl) (rfl) ?_
  refine g_aload_0 hX (dk DX12_begins 15 rfl) ?_
  refine g_bipush (v := -5) hX (dk DX12_begins 16 rfl) (by decide) ?_
  refine g_putI hX (dk DX12_begins 17 rfl) KX12 fX12_129 (by decide) rfl (MLt hM (by decide)) (MC hM) (Or.inl rfl) (rfl) (rfl) ?_
  refine g_aload_0 hX (dk DX12_begins 18 rfl) ?_
  refine g_bipush (v := -5) hX (dk DX12_begins 19 rfl) (by decide) ?_
  refine g_putI hX (dk DX12_begins 20 rfl) KX12 fX12_132 (by decide) rfl (MLt hM (by decide)) (MC hM) (Or.inl rfl) (rfl) (rfl) ?_
  refine g_return hX (dk DX12_begins 21 rfl) rfl (by decide) (by decide) ?_
  exact qV_of ⟨by simp [TS, upI], (((((((Fr.rf).pf (by decide)).pf (by decide)).pf (by decide)).pf (by decide)).pf (by decide)).pf (by decide)).pf (by decide), rfl⟩

theorem stix {wn k i : Nat} (h1 : k ≤ wn) (h2 : wn ≤ 20000) (hi : i < 10) (hc : ¬ 100 ≤ nI wn - nI k) : idx (10 * (nI wn - nI k) + nI i) (10 * (wn - k) + i) 1000 := by
  rw [pk_sub h1] at hc ⊢
  have h3 : wn - k < 100 := by
    rcases Nat.lt_or_ge (wn - k) 100 with h | h
    · exact h
    · exact absurd (nI_le h (by omega)) hc
  exact ⟨by rw [show (10 : Int32) = nI 10 from rfl, pk_mul, nI_add], by omega, by decide⟩

set_option maxRecDepth 8000 in
set_option maxHeartbeats 4000000 in
theorem c_X12_goWeek {G : Gt} (hG : Gok G) {I : It} {h : Ht} (hM : HM h) {E : It} (hE : Inv E) (hA : Ag E I) {may idl kn co st ca fw fd : Int32} {wn : Nat} (hw1 : wk E ≤ wn) (hw2 : wn ≤ 20000) (hT : TS I idl (0, kn, co, st, ca, fw, fd)) : Con G (5) 0 0 mX12_goWeek [.ref 0, .int (nI wn), .int may] I h (qV (fun I' h' => TS I' idl (wkRun E idl wn may (cnt E) 0 (0, kn, co, st, ca, fw, fd)) ∧ Fr [34, 36, 37, 38, 39, 40] [18, 20] I I' ∧ h' = h)) := by
  refine con_intro (own := RX12) (lo0 := [some (.ref 0), some (.int (nI wn)), some (.int may), none, none]) hG rfl pl_X12 (Nat.le_of_ble_eq_true rfl) rfl (fun X hX => ?_)
  have hA0 := hA
  have hc10 := inv_cnt hE
  have loop5 : ∀ (k i : Nat) (had kn1 co1 st1 ca1 fw1 fd1 : Int32) (J : It), i + k = cnt E → wkRun E idl wn may k i (had, kn1, co1, st1, ca1, fw1, fd1) = wkRun E idl wn may (cnt E) 0 (0, kn, co, st, ca, fw, fd) → TS J idl (had, kn1, co1, st1, ca1, fw1, fd1) → Fr [34, 36, 37, 38, 39, 40] [18, 20] I J → GG G (5) 0 0 X (qV (fun I' h' => TS I' idl (wkRun E idl wn may (cnt E) 0 (0, kn, co, st, ca, fw, fd)) ∧ Fr [34, 36, 37, 38, 39, 40] [18, 20] I I' ∧ h' = h)) 5 [some (.ref 0), some (.int (nI wn)), some (.int may), some (.int had), some (.int (nI i))] [] (J) (h) 0 0 := by
    intro k
    induction k using Nat.strongRecOn with | _ k ih => ?_
    intro i had kn1 co1 st1 ca1 fw1 fd1 J hk hv hT hfr
    have hA := Ag.keep hA0 hfr (by decide) (by decide)
    refine g_iload_4 hX (dk DX12_goWeek_0 4 rfl) ?_
    refine g_aload_0 hX (dk DX12_goWeek_0 5 rfl) ?_
    refine g_getIv hX (dk DX12_goWeek_0 6 rfl) KX12 fX12_7 (by decide) rfl (MLt hM (by decide)) (MC hM) (hA.1.1.trans hc10.1) ?_
    refine g_icmp_ge (tgt := 247) hX (dk DX12_goWeek_0 7 rfl) (by decide) (fun hc1 => ?_) (fun hc1 => ?_)
    · refine g_return hX (dk DX12_goWeek_2 9 rfl) rfl (by decide) (by decide) ?_
      have hk0 := cl_end hk (by omega) hc1
      subst hk0
      exact qV_of ⟨by rw [← hv]; exact hT, hfr, rfl⟩
    · obtain ⟨k, rfl⟩ := cl_go hk (by omega) hc1
      have hi : i < cnt E := by omega
      have hi10 : i < 10 := by omega
      refine g_aload_0 hX (dk DX12_goWeek_0 8 rfl) ?_
      refine g_iload_4 hX (dk DX12_goWeek_0 9 rfl) ?_
      refine g_iload_1 hX (dk DX12_goWeek_0 10 rfl) ?_
      refine g_c3I hX sX12_goWeek_18 (by decide) (Nat.le_of_ble_eq_true rfl) (rc0 rfl (MLt hM (by decide)) (MC hM)) (by decide) (by decide) (c_X12_comes hG hM hE hA hi) ?_
      refine g_ifb_ne (tgt := 27) hX (dk DX12_goWeek_0 12 rfl) (by decide) (fun hc2 => ?_) (fun hc2 => ?_)
      · have hcm := hc2
        refine g_aload_0 hX (dk DX12_goWeek_0 14 rfl) ?_
        refine g_aload_0 hX (dk DX12_goWeek_0 15 rfl) ?_
        refine g_getIv hX (dk DX12_goWeek_0 16 rfl) KX12 fX12_117 (by decide) rfl (MLt hM (by decide)) (MC hM) (hT.2.1) ?_
        refine g_iload_4 hX (dk DX12_goWeek_0 17 rfl) ?_
        refine g_c3I hX sX12_goWeek_34 (by decide) (Nat.le_of_ble_eq_true rfl) (rc0 rfl (MLt hM (by decide)) (MC hM)) (by decide) (by decide) (c_X12_has hG) ?_
        refine g_ifb_eq (tgt := 70) hX (dk DX12_goWeek_0 19 rfl) (by decide) (fun hc3 => ?_) (fun hc3 => ?_)
        · have hid := hc3
          refine g_aload_0 hX (dk DX12_goWeek_0 35 rfl) ?_
          refine g_aload_0 hX (dk DX12_goWeek_0 36 rfl) ?_
          refine g_getIv hX (dk DX12_goWeek_0 37 rfl) KX12 fX12_114 (by decide) rfl (MLt hM (by decide)) (MC hM) (hT.1) ?_
          refine g_iload_4 hX (dk DX12_goWeek_0 38 rfl) ?_
          refine g_c3I hX sX12_goWeek_77 (by decide) (Nat.le_of_ble_eq_true rfl) (rc0 rfl (MLt hM (by decide)) (MC hM)) (by decide) (by decide) (c_X12_has hG) ?_
          refine g_ifb_eq (tgt := 86) hX (dk DX12_goWeek_0 40 rfl) (by decide) (fun hc4 => ?_) (fun hc4 => ?_)
          · have hkn := hc4
            refine g_aload_0 hX (dk DX12_goWeek_0 42 rfl) ?_
            refine g_dup hX (dk DX12_goWeek_0 43 rfl) rfl ?_
            refine g_getIv hX (dk DX12_goWeek_0 44 rfl) KX12 fX12_123 (by decide) rfl (MLt hM (by decide)) (MC hM) (hT.2.2.2.1) ?_
            refine g_iconst (v := 1) hX (dk DX12_goWeek_0 45 rfl) (by decide) ?_
            refine g_iadd hX (dk DX12_goWeek_0 46 rfl) ?_
            refine g_putI hX (dk DX12_goWeek_0 47 rfl) KX12 fX12_123 (by decide) rfl (MLt hM (by decide)) (MC hM) (Or.inl rfl) (rfl) (rfl) ?_
            refine g_gen (fun J2 hJ2 => ?_)
            have hT : TS J2 idl (had, kn1, co1, st1 + 1, ca1, fw1, fd1) := by rw [hJ2]; exact hT.st
            have hfr : Fr [34, 36, 37, 38, 39, 40] [18, 20] I J2 := by rw [hJ2]; exact hfr.pf (by decide)
            have hA := Ag.keep hA0 hfr (by decide) (by decide)
            refine g_aload_0 hX (dk DX12_goWeek_0 48 rfl) ?_
            refine g_getIv hX (dk DX12_goWeek_0 49 rfl) KX12 fX12_129 (by decide) rfl (MLt hM (by decide)) (MC hM) (hT.2.2.2.2.2.1) ?_
            refine g_if_ge (tgt := 114) hX (dk DX12_goWeek_0 50 rfl) (by decide) (fun hc5 => ?_) (fun hc5 => ?_)
            · first
              | have hfe : (if fw1 < 0 then nI wn else fw1) = nI wn ∧ (if fw1 < 0 then nI i else fd1) = nI i := ⟨if_pos hf1, if_pos hf1⟩
              | have hfe : (if fw1 < 0 then nI wn else fw1) = fw1 ∧ (if fw1 < 0 then nI i else fd1) = fd1 := ⟨if_neg (Int32.not_lt.mpr hc5), if_neg (Int32.not_lt.mpr hc5)⟩
              have hT : TS J2 idl (had, kn1, co1, st1 + 1, ca1, (if fw1 < 0 then nI wn else fw1), (if fw1 < 0 then nI i else fd1)) := by rw [hfe.1, hfe.2]; exact hT
              refine g_iload_1 hX (dk DX12_goWeek_0 57 rfl) ?_
              refine g_aload_0 hX (dk DX12_goWeek_0 58 rfl) ?_
              refine g_getIv hX (dk DX12_goWeek_0 59 rfl) KX12 fX12_13 (by decide) rfl (MLt hM (by decide)) (MC hM) (hA.1.2.1.trans (inv_wk hE).1) ?_
              refine g_isub hX (dk DX12_goWeek_1 0 rfl) ?_
              refine g_bipush (v := 100) hX (dk DX12_goWeek_1 1 rfl) (by decide) ?_
              refine g_icmp_ge (tgt := 143) hX (dk DX12_goWeek_1 2 rfl) (by decide) (fun hc6 => ?_) (fun hc6 => ?_)
              · refine g_iload_3 hX (dk DX12_goWeek_1 15 rfl) ?_
                refine g_iload_2 hX (dk DX12_goWeek_1 16 rfl) ?_
                refine g_icmp_ge (tgt := 205) hX (dk DX12_goWeek_1 17 rfl) (by decide) (fun hc7 => ?_) (fun hc7 => ?_)
                · have hm : ¬ had < may := Int32.not_lt.mpr hc7
                  refine g_aload_0 hX (dk DX12_goWeek_1 48 rfl) ?_
                  refine g_dup hX (dk DX12_goWeek_1 49 rfl) rfl ?_
                  refine g_getIv hX (dk DX12_goWeek_1 50 rfl) KX12 fX12_120 (by decide) rfl (MLt hM (by decide)) (MC hM) (hT.2.2.1) ?_
                  refine g_aload_0 hX (dk DX12_goWeek_1 51 rfl) ?_
                  refine g_iload_4 hX (dk DX12_goWeek_1 52 rfl) ?_
                  refine g_iload_1 hX (dk DX12_goWeek_1 53 rfl) ?_
                  refine g_c3q hX sX12_goWeek_214 (by decide) (Nat.le_of_ble_eq_true rfl) (rc0 rfl (MLt hM (by decide)) (MC hM)) (by decide) (by decide) (c_X12_dear hG hM hE hA hi10) ?_
                  rintro _ J4 _ ⟨rfl, hfr4, rfl⟩
                  have hT := hT.fr hfr4 (by decide)
                  have hfr := hfr.trans (hfr4.mono (F' := [34, 36, 37, 38, 39, 40]) (C' := [18, 20]) (by decide) (by decide))
                  have hA := Ag.keep hA0 hfr (by decide) (by decide)
                  refine g_iadd hX (dk DX12_goWeek_1 55 rfl) ?_
                  refine g_putI hX (dk DX12_goWeek_1 56 rfl) KX12 fX12_120 (by decide) rfl (MLt hM (by decide)) (MC hM) (Or.inl rfl) (rfl) (rfl) ?_
                  refine g_gen (fun J2 hJ2 => ?_)
                  have hT : TS J2 idl (had, kn1, co1 + dearF E i (nI wn), st1 + 1, ca1, (if fw1 < 0 then nI wn else fw1), (if fw1 < 0 then nI i else fd1)) := by rw [hJ2]; exact hT.co
                  have hfr : Fr [34, 36, 37, 38, 39, 40] [18, 20] I J2 := by rw [hJ2]; exact hfr.pf (by decide)
                  have hA := Ag.keep hA0 hfr (by decide) (by decide)
                  refine g_aload_0 hX (dk DX12_goWeek_1 57 rfl) ?_
                  refine g_aload_0 hX (dk DX12_goWeek_1 58 rfl) ?_
                  refine g_aload_0 hX (dk DX12_goWeek_1 59 rfl) ?_
                  refine g_getIv hX (dk DX12_goWeek_2 0 rfl) KX12 fX12_114 (by decide) rfl (MLt hM (by decide)) (MC hM) (hT.1) ?_
                  refine g_iload_4 hX (dk DX12_goWeek_2 1 rfl) ?_
                  refine g_aload_0 hX (dk DX12_goWeek_2 2 rfl) ?_
                  refine g_iload_4 hX (dk DX12_goWeek_2 3 rfl) ?_
                  refine g_c2I hX sX12_goWeek_232 (by decide) (Nat.le_of_ble_eq_true rfl) (rc0 rfl (MLt hM (by decide)) (MC hM)) (by decide) (by decide) (c_X12_learnsBy hG hM hA hi10) ?_
                  refine g_c4I hX sX12_goWeek_235 (by decide) (Nat.le_of_ble_eq_true rfl) (rc0 rfl (MLt hM (by decide)) (MC hM)) (by decide) (by decide) (c_X12_with hG) ?_
                  refine g_putI hX (dk DX12_goWeek_2 6 rfl) KX12 fX12_114 (by decide) rfl (MLt hM (by decide)) (MC hM) (Or.inl rfl) (rfl) (rfl) ?_
                  refine g_gen (fun J2 hJ2 => ?_)
                  have hT : TS J2 idl (had, withI kn1 (nI i) (@bI (learnsF E i) (dcL E i)), co1 + dearF E i (nI wn), st1 + 1, ca1, (if fw1 < 0 then nI wn else fw1), (if fw1 < 0 then nI i else fd1)) := by rw [hJ2]; exact hT.kn
                  have hfr : Fr [34, 36, 37, 38, 39, 40] [18, 20] I J2 := by rw [hJ2]; exact hfr.pf (by decide)
                  have hstep : wkStep E idl wn may i (had, kn1, co1, st1, ca1, fw1, fd1) = (had, withI kn1 (nI i) (@bI (learnsF E i) (dcL E i)), co1 + dearF E i (nI wn), st1 + 1, ca1, (if fw1 < 0 then nI wn else fw1), (if fw1 < 0 then nI i else fd1)) := by simp only [wkStep]; rw [if_neg (fun z => z hcm), if_neg hid, if_neg hkn, if_neg hm]
                  refine g_iinc_4 hX (dk DX12_goWeek_2 7 rfl) (nI_1 i) (by decide) rfl ?_
                  refine g_goto (tgt := 5) hX (dk DX12_goWeek_2 8 rfl) (by decide) ?_
                  exact ih k (by omega) (i + 1) _ _ _ _ _ _ _ _ (by omega) (by rw [← hv, wkRun_s, hstep]) hT hfr
                · have hm : had < may := Int32.not_le.mp hc7
                  refine g_iinc_3 (v := had + 1) hX (dk DX12_goWeek_1 18 rfl) (rfl) (by decide) rfl ?_
                  refine g_aload_0 hX (dk DX12_goWeek_1 19 rfl) ?_
                  refine g_dup hX (dk DX12_goWeek_1 20 rfl) rfl ?_
                  refine g_getIv hX (dk DX12_goWeek_1 21 rfl) KX12 fX12_126 (by decide) rfl (MLt hM (by decide)) (MC hM) (hT.2.2.2.2.1) ?_
                  refine g_iconst (v := 1) hX (dk DX12_goWeek_1 22 rfl) (by decide) ?_
                  refine g_iadd hX (dk DX12_goWeek_1 23 rfl) ?_
                  refine g_putI hX (dk DX12_goWeek_1 24 rfl) KX12 fX12_126 (by decide) rfl (MLt hM (by decide)) (MC hM) (Or.inl rfl) (rfl) (rfl) ?_
                  refine g_gen (fun J2 hJ2 => ?_)
                  have hT : TS J2 idl (had, kn1, co1, st1 + 1, ca1 + 1, (if fw1 < 0 then nI wn else fw1), (if fw1 < 0 then nI i else fd1)) := by rw [hJ2]; exact hT.ca
                  have hfr : Fr [34, 36, 37, 38, 39, 40] [18, 20] I J2 := by rw [hJ2]; exact hfr.pf (by decide)
                  have hA := Ag.keep hA0 hfr (by decide) (by decide)
                  refine g_aload_0 hX (dk DX12_goWeek_1 25 rfl) ?_
                  refine g_dup hX (dk DX12_goWeek_1 26 rfl) rfl ?_
                  refine g_getIv hX (dk DX12_goWeek_1 27 rfl) KX12 fX12_120 (by decide) rfl (MLt hM (by decide)) (MC hM) (hT.2.2.1) ?_
                  refine g_iconst (v := 1) hX (dk DX12_goWeek_1 28 rfl) (by decide) ?_
                  refine g_iadd hX (dk DX12_goWeek_1 29 rfl) ?_
                  refine g_putI hX (dk DX12_goWeek_1 30 rfl) KX12 fX12_120 (by decide) rfl (MLt hM (by decide)) (MC hM) (Or.inl rfl) (rfl) (rfl) ?_
                  refine g_gen (fun J2 hJ2 => ?_)
                  have hT : TS J2 idl (had, kn1, co1 + 1, st1 + 1, ca1 + 1, (if fw1 < 0 then nI wn else fw1), (if fw1 < 0 then nI i else fd1)) := by rw [hJ2]; exact hT.co
                  have hfr : Fr [34, 36, 37, 38, 39, 40] [18, 20] I J2 := by rw [hJ2]; exact hfr.pf (by decide)
                  have hA := Ag.keep hA0 hfr (by decide) (by decide)
                  refine g_aload_0 hX (dk DX12_goWeek_1 31 rfl) ?_
                  refine g_aload_0 hX (dk DX12_goWeek_1 32 rfl) ?_
                  refine g_aload_0 hX (dk DX12_goWeek_1 33 rfl) ?_
                  refine g_getIv hX (dk DX12_goWeek_1 34 rfl) KX12 fX12_114 (by decide) rfl (MLt hM (by decide)) (MC hM) (hT.1) ?_
                  refine g_iload_4 hX (dk DX12_goWeek_1 35 rfl) ?_
                  refine g_aload_0 hX (dk DX12_goWeek_1 36 rfl) ?_
                  refine g_getRs (r := 1) hX (dk DX12_goWeek_1 37 rfl) KX12 fX12_31 (by decide) rfl (MLt hM (by decide)) (MC hM) (MR hM 7 (by decide) rfl) ?_
                  refine g_iload_4 hX (dk DX12_goWeek_1 38 rfl) ?_
                  refine v_iaload hX (dk DX12_goWeek_1 39 rfl) (MLt hM (q := 1) (by decide)) (MS hM 1 (by decide) rfl) (⟨rfl, by omega, by decide⟩) (congrFun (hA.2.1 1 (by decide)) i) ?_
                  refine g_bipush (v := 6) hX (dk DX12_goWeek_1 40 rfl) (by decide) ?_
                  refine g_icmp_eq (tgt := 195) hX (dk DX12_goWeek_1 41 rfl) (by decide) (fun hc8 => ?_) (fun hc8 => ?_)
                  · have hV2 : bI (E 1 i ≠ 6) = 0 := bI_f (fun z => z hc8)
                    refine g_iconst (v := 0) hX (dk DX12_goWeek_1 44 rfl) (by decide) ?_
                    refine g_c4I hX sX12_goWeek_196 (by decide) (Nat.le_of_ble_eq_true rfl) (rc0 rfl (MLt hM (by decide)) (MC hM)) (by decide) (by decide) (c_X12_with hG) ?_
                    refine g_putI hX (dk DX12_goWeek_1 46 rfl) KX12 fX12_114 (by decide) rfl (MLt hM (by decide)) (MC hM) (Or.inl rfl) (rfl) (rfl) ?_
                    refine g_gen (fun J2 hJ2 => ?_)
                    have hT : TS J2 idl (had + 1, withI kn1 (nI i) (bI (E 1 i ≠ 6)), co1 + 1, st1 + 1, ca1 + 1, (if fw1 < 0 then nI wn else fw1), (if fw1 < 0 then nI i else fd1)) := by rw [hJ2, hV2]; exact hT.kn
                    have hfr : Fr [34, 36, 37, 38, 39, 40] [18, 20] I J2 := by rw [hJ2]; exact hfr.pf (by decide)
                    have hstep : wkStep E idl wn may i (had, kn1, co1, st1, ca1, fw1, fd1) = (had + 1, withI kn1 (nI i) (bI (E 1 i ≠ 6)), co1 + 1, st1 + 1, ca1 + 1, (if fw1 < 0 then nI wn else fw1), (if fw1 < 0 then nI i else fd1)) := by simp only [wkStep]; rw [if_neg (fun z => z hcm), if_neg hid, if_neg hkn, if_pos hm]
                    refine g_goto (tgt := 241) hX (dk DX12_goWeek_1 47 rfl) (by decide) ?_
                    refine g_iinc_4 hX (dk DX12_goWeek_2 7 rfl) (nI_1 i) (by decide) rfl ?_
                    refine g_goto (tgt := 5) hX (dk DX12_goWeek_2 8 rfl) (by decide) ?_
                    exact ih k (by omega) (i + 1) _ _ _ _ _ _ _ _ (by omega) (by rw [← hv, wkRun_s, hstep]) hT hfr
                  · have hV2 : bI (E 1 i ≠ 6) = 1 := bI_t hc8
                    refine g_iconst (v := 1) hX (dk DX12_goWeek_1 42 rfl) (by decide) ?_
                    refine g_goto (tgt := 196) hX (dk DX12_goWeek_1 43 rfl) (by decide) ?_
                    refine g_c4I hX sX12_goWeek_196 (by decide) (Nat.le_of_ble_eq_true rfl) (rc0 rfl (MLt hM (by decide)) (MC hM)) (by decide) (by decide) (c_X12_with hG) ?_
                    refine g_putI hX (dk DX12_goWeek_1 46 rfl) KX12 fX12_114 (by decide) rfl (MLt hM (by decide)) (MC hM) (Or.inl rfl) (rfl) (rfl) ?_
                    refine g_gen (fun J2 hJ2 => ?_)
                    have hT : TS J2 idl (had + 1, withI kn1 (nI i) (bI (E 1 i ≠ 6)), co1 + 1, st1 + 1, ca1 + 1, (if fw1 < 0 then nI wn else fw1), (if fw1 < 0 then nI i else fd1)) := by rw [hJ2, hV2]; exact hT.kn
                    have hfr : Fr [34, 36, 37, 38, 39, 40] [18, 20] I J2 := by rw [hJ2]; exact hfr.pf (by decide)
                    have hstep : wkStep E idl wn may i (had, kn1, co1, st1, ca1, fw1, fd1) = (had + 1, withI kn1 (nI i) (bI (E 1 i ≠ 6)), co1 + 1, st1 + 1, ca1 + 1, (if fw1 < 0 then nI wn else fw1), (if fw1 < 0 then nI i else fd1)) := by simp only [wkStep]; rw [if_neg (fun z => z hcm), if_neg hid, if_neg hkn, if_pos hm]
                    refine g_goto (tgt := 241) hX (dk DX12_goWeek_1 47 rfl) (by decide) ?_
                    refine g_iinc_4 hX (dk DX12_goWeek_2 7 rfl) (nI_1 i) (by decide) rfl ?_
                    refine g_goto (tgt := 5) hX (dk DX12_goWeek_2 8 rfl) (by decide) ?_
                    exact ih k (by omega) (i + 1) _ _ _ _ _ _ _ _ (by omega) (by rw [← hv, wkRun_s, hstep]) hT hfr
              · have hst9 := hc6
                refine g_aload_0 hX (dk DX12_goWeek_1 3 rfl) ?_
                refine g_getRs (r := 20) hX (dk DX12_goWeek_1 4 rfl) KX12 fX12_135 (by decide) rfl (MLt hM (by decide)) (MC hM) (MR hM 41 (by decide) rfl) ?_
                refine g_bipush (v := 10) hX (dk DX12_goWeek_1 5 rfl) (by decide) ?_
                refine g_iload_1 hX (dk DX12_goWeek_1 6 rfl) ?_
                refine g_aload_0 hX (dk DX12_goWeek_1 7 rfl) ?_
                refine g_getIv hX (dk DX12_goWeek_1 8 rfl) KX12 fX12_13 (by decide) rfl (MLt hM (by decide)) (MC hM) (hA.1.2.1.trans (inv_wk hE).1) ?_
                refine g_isub hX (dk DX12_goWeek_1 9 rfl) ?_
                refine g_imul hX (dk DX12_goWeek_1 10 rfl) ?_
                refine g_iload_4 hX (dk DX12_goWeek_1 11 rfl) ?_
                refine g_iadd hX (dk DX12_goWeek_1 12 rfl) ?_
                refine g_iconst (v := 1) hX (dk DX12_goWeek_1 13 rfl) (by decide) ?_
                refine i_zastore hX (dk DX12_goWeek_1 14 rfl) (MLt hM (q := 20) (by decide)) (MS hM 20 (by decide) rfl) (stix hw1 hw2 (by omega) hst9) ?_
                refine g_gen (fun J2 hJ2 => ?_)
                have hT : TS J2 idl (had, kn1, co1, st1 + 1, ca1, (if fw1 < 0 then nI wn else fw1), (if fw1 < 0 then nI i else fd1)) := by rw [hJ2]; exact hT.off (by decide)
                have hfr : Fr [34, 36, 37, 38, 39, 40] [18, 20] I J2 := by rw [hJ2]; exact hfr.pc (by decide) (by decide)
                have hA := Ag.keep hA0 hfr (by decide) (by decide)
                refine g_iload_3 hX (dk DX12_goWeek_1 15 rfl) ?_
                refine g_iload_2 hX (dk DX12_goWeek_1 16 rfl) ?_
                refine g_icmp_ge (tgt := 205) hX (dk DX12_goWeek_1 17 rfl) (by decide) (fun hc9 => ?_) (fun hc9 => ?_)
                · have hm : ¬ had < may := Int32.not_lt.mpr hc9
                  refine g_aload_0 hX (dk DX12_goWeek_1 48 rfl) ?_
                  refine g_dup hX (dk DX12_goWeek_1 49 rfl) rfl ?_
                  refine g_getIv hX (dk DX12_goWeek_1 50 rfl) KX12 fX12_120 (by decide) rfl (MLt hM (by decide)) (MC hM) (hT.2.2.1) ?_
                  refine g_aload_0 hX (dk DX12_goWeek_1 51 rfl) ?_
                  refine g_iload_4 hX (dk DX12_goWeek_1 52 rfl) ?_
                  refine g_iload_1 hX (dk DX12_goWeek_1 53 rfl) ?_
                  refine g_c3q hX sX12_goWeek_214 (by decide) (Nat.le_of_ble_eq_true rfl) (rc0 rfl (MLt hM (by decide)) (MC hM)) (by decide) (by decide) (c_X12_dear hG hM hE hA hi10) ?_
                  rintro _ J4 _ ⟨rfl, hfr4, rfl⟩
                  have hT := hT.fr hfr4 (by decide)
                  have hfr := hfr.trans (hfr4.mono (F' := [34, 36, 37, 38, 39, 40]) (C' := [18, 20]) (by decide) (by decide))
                  have hA := Ag.keep hA0 hfr (by decide) (by decide)
                  refine g_iadd hX (dk DX12_goWeek_1 55 rfl) ?_
                  refine g_putI hX (dk DX12_goWeek_1 56 rfl) KX12 fX12_120 (by decide) rfl (MLt hM (by decide)) (MC hM) (Or.inl rfl) (rfl) (rfl) ?_
                  refine g_gen (fun J2 hJ2 => ?_)
                  have hT : TS J2 idl (had, kn1, co1 + dearF E i (nI wn), st1 + 1, ca1, (if fw1 < 0 then nI wn else fw1), (if fw1 < 0 then nI i else fd1)) := by rw [hJ2]; exact hT.co
                  have hfr : Fr [34, 36, 37, 38, 39, 40] [18, 20] I J2 := by rw [hJ2]; exact hfr.pf (by decide)
                  have hA := Ag.keep hA0 hfr (by decide) (by decide)
                  refine g_aload_0 hX (dk DX12_goWeek_1 57 rfl) ?_
                  refine g_aload_0 hX (dk DX12_goWeek_1 58 rfl) ?_
                  refine g_aload_0 hX (dk DX12_goWeek_1 59 rfl) ?_
                  refine g_getIv hX (dk DX12_goWeek_2 0 rfl) KX12 fX12_114 (by decide) rfl (MLt hM (by decide)) (MC hM) (hT.1) ?_
                  refine g_iload_4 hX (dk DX12_goWeek_2 1 rfl) ?_
                  refine g_aload_0 hX (dk DX12_goWeek_2 2 rfl) ?_
                  refine g_iload_4 hX (dk DX12_goWeek_2 3 rfl) ?_
                  refine g_c2I hX sX12_goWeek_232 (by decide) (Nat.le_of_ble_eq_true rfl) (rc0 rfl (MLt hM (by decide)) (MC hM)) (by decide) (by decide) (c_X12_learnsBy hG hM hA hi10) ?_
                  refine g_c4I hX sX12_goWeek_235 (by decide) (Nat.le_of_ble_eq_true rfl) (rc0 rfl (MLt hM (by decide)) (MC hM)) (by decide) (by decide) (c_X12_with hG) ?_
                  refine g_putI hX (dk DX12_goWeek_2 6 rfl) KX12 fX12_114 (by decide) rfl (MLt hM (by decide)) (MC hM) (Or.inl rfl) (rfl) (rfl) ?_
                  refine g_gen (fun J2 hJ2 => ?_)
                  have hT : TS J2 idl (had, withI kn1 (nI i) (@bI (learnsF E i) (dcL E i)), co1 + dearF E i (nI wn), st1 + 1, ca1, (if fw1 < 0 then nI wn else fw1), (if fw1 < 0 then nI i else fd1)) := by rw [hJ2]; exact hT.kn
                  have hfr : Fr [34, 36, 37, 38, 39, 40] [18, 20] I J2 := by rw [hJ2]; exact hfr.pf (by decide)
                  have hstep : wkStep E idl wn may i (had, kn1, co1, st1, ca1, fw1, fd1) = (had, withI kn1 (nI i) (@bI (learnsF E i) (dcL E i)), co1 + dearF E i (nI wn), st1 + 1, ca1, (if fw1 < 0 then nI wn else fw1), (if fw1 < 0 then nI i else fd1)) := by simp only [wkStep]; rw [if_neg (fun z => z hcm), if_neg hid, if_neg hkn, if_neg hm]
                  refine g_iinc_4 hX (dk DX12_goWeek_2 7 rfl) (nI_1 i) (by decide) rfl ?_
                  refine g_goto (tgt := 5) hX (dk DX12_goWeek_2 8 rfl) (by decide) ?_
                  exact ih k (by omega) (i + 1) _ _ _ _ _ _ _ _ (by omega) (by rw [← hv, wkRun_s, hstep]) hT hfr
                · have hm : had < may := Int32.not_le.mp hc9
                  refine g_iinc_3 (v := had + 1) hX (dk DX12_goWeek_1 18 rfl) (rfl) (by decide) rfl ?_
                  refine g_aload_0 hX (dk DX12_goWeek_1 19 rfl) ?_
                  refine g_dup hX (dk DX12_goWeek_1 20 rfl) rfl ?_
                  refine g_getIv hX (dk DX12_goWeek_1 21 rfl) KX12 fX12_126 (by decide) rfl (MLt hM (by decide)) (MC hM) (hT.2.2.2.2.1) ?_
                  refine g_iconst (v := 1) hX (dk DX12_goWeek_1 22 rfl) (by decide) ?_
                  refine g_iadd hX (dk DX12_goWeek_1 23 rfl) ?_
                  refine g_putI hX (dk DX12_goWeek_1 24 rfl) KX12 fX12_126 (by decide) rfl (MLt hM (by decide)) (MC hM) (Or.inl rfl) (rfl) (rfl) ?_
                  refine g_gen (fun J2 hJ2 => ?_)
                  have hT : TS J2 idl (had, kn1, co1, st1 + 1, ca1 + 1, (if fw1 < 0 then nI wn else fw1), (if fw1 < 0 then nI i else fd1)) := by rw [hJ2]; exact hT.ca
                  have hfr : Fr [34, 36, 37, 38, 39, 40] [18, 20] I J2 := by rw [hJ2]; exact hfr.pf (by decide)
                  have hA := Ag.keep hA0 hfr (by decide) (by decide)
                  refine g_aload_0 hX (dk DX12_goWeek_1 25 rfl) ?_
                  refine g_dup hX (dk DX12_goWeek_1 26 rfl) rfl ?_
                  refine g_getIv hX (dk DX12_goWeek_1 27 rfl) KX12 fX12_120 (by decide) rfl (MLt hM (by decide)) (MC hM) (hT.2.2.1) ?_
                  refine g_iconst (v := 1) hX (dk DX12_goWeek_1 28 rfl) (by decide) ?_
                  refine g_iadd hX (dk DX12_goWeek_1 29 rfl) ?_
                  refine g_putI hX (dk DX12_goWeek_1 30 rfl) KX12 fX12_120 (by decide) rfl (MLt hM (by decide)) (MC hM) (Or.inl rfl) (rfl) (rfl) ?_
                  refine g_gen (fun J2 hJ2 => ?_)
                  have hT : TS J2 idl (had, kn1, co1 + 1, st1 + 1, ca1 + 1, (if fw1 < 0 then nI wn else fw1), (if fw1 < 0 then nI i else fd1)) := by rw [hJ2]; exact hT.co
                  have hfr : Fr [34, 36, 37, 38, 39, 40] [18, 20] I J2 := by rw [hJ2]; exact hfr.pf (by decide)
                  have hA := Ag.keep hA0 hfr (by decide) (by decide)
                  refine g_aload_0 hX (dk DX12_goWeek_1 31 rfl) ?_
                  refine g_aload_0 hX (dk DX12_goWeek_1 32 rfl) ?_
                  refine g_aload_0 hX (dk DX12_goWeek_1 33 rfl) ?_
                  refine g_getIv hX (dk DX12_goWeek_1 34 rfl) KX12 fX12_114 (by decide) rfl (MLt hM (by decide)) (MC hM) (hT.1) ?_
                  refine g_iload_4 hX (dk DX12_goWeek_1 35 rfl) ?_
                  refine g_aload_0 hX (dk DX12_goWeek_1 36 rfl) ?_
                  refine g_getRs (r := 1) hX (dk DX12_goWeek_1 37 rfl) KX12 fX12_31 (by decide) rfl (MLt hM (by decide)) (MC hM) (MR hM 7 (by decide) rfl) ?_
                  refine g_iload_4 hX (dk DX12_goWeek_1 38 rfl) ?_
                  refine v_iaload hX (dk DX12_goWeek_1 39 rfl) (MLt hM (q := 1) (by decide)) (MS hM 1 (by decide) rfl) (⟨rfl, by omega, by decide⟩) (congrFun (hA.2.1 1 (by decide)) i) ?_
                  refine g_bipush (v := 6) hX (dk DX12_goWeek_1 40 rfl) (by decide) ?_
                  refine g_icmp_eq (tgt := 195) hX (dk DX12_goWeek_1 41 rfl) (by decide) (fun hc10 => ?_) (fun hc10 => ?_)
                  · have hV2 : bI (E 1 i ≠ 6) = 0 := bI_f (fun z => z hc10)
                    refine g_iconst (v := 0) hX (dk DX12_goWeek_1 44 rfl) (by decide) ?_
                    refine g_c4I hX sX12_goWeek_196 (by decide) (Nat.le_of_ble_eq_true rfl) (rc0 rfl (MLt hM (by decide)) (MC hM)) (by decide) (by decide) (c_X12_with hG) ?_
                    refine g_putI hX (dk DX12_goWeek_1 46 rfl) KX12 fX12_114 (by decide) rfl (MLt hM (by decide)) (MC hM) (Or.inl rfl) (rfl) (rfl) ?_
                    refine g_gen (fun J2 hJ2 => ?_)
                    have hT : TS J2 idl (had + 1, withI kn1 (nI i) (bI (E 1 i ≠ 6)), co1 + 1, st1 + 1, ca1 + 1, (if fw1 < 0 then nI wn else fw1), (if fw1 < 0 then nI i else fd1)) := by rw [hJ2, hV2]; exact hT.kn
                    have hfr : Fr [34, 36, 37, 38, 39, 40] [18, 20] I J2 := by rw [hJ2]; exact hfr.pf (by decide)
                    have hstep : wkStep E idl wn may i (had, kn1, co1, st1, ca1, fw1, fd1) = (had + 1, withI kn1 (nI i) (bI (E 1 i ≠ 6)), co1 + 1, st1 + 1, ca1 + 1, (if fw1 < 0 then nI wn else fw1), (if fw1 < 0 then nI i else fd1)) := by simp only [wkStep]; rw [if_neg (fun z => z hcm), if_neg hid, if_neg hkn, if_pos hm]
                    refine g_goto (tgt := 241) hX (dk DX12_goWeek_1 47 rfl) (by decide) ?_
                    refine g_iinc_4 hX (dk DX12_goWeek_2 7 rfl) (nI_1 i) (by decide) rfl ?_
                    refine g_goto (tgt := 5) hX (dk DX12_goWeek_2 8 rfl) (by decide) ?_
                    exact ih k (by omega) (i + 1) _ _ _ _ _ _ _ _ (by omega) (by rw [← hv, wkRun_s, hstep]) hT hfr
                  · have hV2 : bI (E 1 i ≠ 6) = 1 := bI_t hc10
                    refine g_iconst (v := 1) hX (dk DX12_goWeek_1 42 rfl) (by decide) ?_
                    refine g_goto (tgt := 196) hX (dk DX12_goWeek_1 43 rfl) (by decide) ?_
                    refine g_c4I hX sX12_goWeek_196 (by decide) (Nat.le_of_ble_eq_true rfl) (rc0 rfl (MLt hM (by decide)) (MC hM)) (by decide) (by decide) (c_X12_with hG) ?_
                    refine g_putI hX (dk DX12_goWeek_1 46 rfl) KX12 fX12_114 (by decide) rfl (MLt hM (by decide)) (MC hM) (Or.inl rfl) (rfl) (rfl) ?_
                    refine g_gen (fun J2 hJ2 => ?_)
                    have hT : TS J2 idl (had + 1, withI kn1 (nI i) (bI (E 1 i ≠ 6)), co1 + 1, st1 + 1, ca1 + 1, (if fw1 < 0 then nI wn else fw1), (if fw1 < 0 then nI i else fd1)) := by rw [hJ2, hV2]; exact hT.kn
                    have hfr : Fr [34, 36, 37, 38, 39, 40] [18, 20] I J2 := by rw [hJ2]; exact hfr.pf (by decide)
                    have hstep : wkStep E idl wn may i (had, kn1, co1, st1, ca1, fw1, fd1) = (had + 1, withI kn1 (nI i) (bI (E 1 i ≠ 6)), co1 + 1, st1 + 1, ca1 + 1, (if fw1 < 0 then nI wn else fw1), (if fw1 < 0 then nI i else fd1)) := by simp only [wkStep]; rw [if_neg (fun z => z hcm), if_neg hid, if_neg hkn, if_pos hm]
                    refine g_goto (tgt := 241) hX (dk DX12_goWeek_1 47 rfl) (by decide) ?_
                    refine g_iinc_4 hX (dk DX12_goWeek_2 7 rfl) (nI_1 i) (by decide) rfl ?_
                    refine g_goto (tgt := 5) hX (dk DX12_goWeek_2 8 rfl) (by decide) ?_
                    exact ih k (by omega) (i + 1) _ _ _ _ _ _ _ _ (by omega) (by rw [← hv, wkRun_s, hstep]) hT hfr
            · have hf1 : fw1 < 0 := Int32.not_le.mp hc5
              refine g_aload_0 hX (dk DX12_goWeek_0 51 rfl) ?_
              refine g_iload_1 hX (dk DX12_goWeek_0 52 rfl) ?_
              refine g_putI hX (dk DX12_goWeek_0 53 rfl) KX12 fX12_129 (by decide) rfl (MLt hM (by decide)) (MC hM) (Or.inl rfl) (rfl) (rfl) ?_
              refine g_gen (fun J2 hJ2 => ?_)
              have hT : TS J2 idl (had, kn1, co1, st1 + 1, ca1, nI wn, fd1) := by rw [hJ2]; exact hT.fw
              have hfr : Fr [34, 36, 37, 38, 39, 40] [18, 20] I J2 := by rw [hJ2]; exact hfr.pf (by decide)
              have hA := Ag.keep hA0 hfr (by decide) (by decide)
              refine g_aload_0 hX (dk DX12_goWeek_0 54 rfl) ?_
              refine g_iload_4 hX (dk DX12_goWeek_0 55 rfl) ?_
              refine g_putI hX (dk DX12_goWeek_0 56 rfl) KX12 fX12_132 (by decide) rfl (MLt hM (by decide)) (MC hM) (Or.inl rfl) (rfl) (rfl) ?_
              refine g_gen (fun J2 hJ2 => ?_)
              have hT : TS J2 idl (had, kn1, co1, st1 + 1, ca1, nI wn, nI i) := by rw [hJ2]; exact hT.fd
              have hfr : Fr [34, 36, 37, 38, 39, 40] [18, 20] I J2 := by rw [hJ2]; exact hfr.pf (by decide)
              have hA := Ag.keep hA0 hfr (by decide) (by decide)
              first
              | have hfe : (if fw1 < 0 then nI wn else fw1) = nI wn ∧ (if fw1 < 0 then nI i else fd1) = nI i := ⟨if_pos hf1, if_pos hf1⟩
              | have hfe : (if fw1 < 0 then nI wn else fw1) = fw1 ∧ (if fw1 < 0 then nI i else fd1) = fd1 := ⟨if_neg (Int32.not_lt.mpr hc5), if_neg (Int32.not_lt.mpr hc5)⟩
              have hT : TS J2 idl (had, kn1, co1, st1 + 1, ca1, (if fw1 < 0 then nI wn else fw1), (if fw1 < 0 then nI i else fd1)) := by rw [hfe.1, hfe.2]; exact hT
              refine g_iload_1 hX (dk DX12_goWeek_0 57 rfl) ?_
              refine g_aload_0 hX (dk DX12_goWeek_0 58 rfl) ?_
              refine g_getIv hX (dk DX12_goWeek_0 59 rfl) KX12 fX12_13 (by decide) rfl (MLt hM (by decide)) (MC hM) (hA.1.2.1.trans (inv_wk hE).1) ?_
              refine g_isub hX (dk DX12_goWeek_1 0 rfl) ?_
              refine g_bipush (v := 100) hX (dk DX12_goWeek_1 1 rfl) (by decide) ?_
              refine g_icmp_ge (tgt := 143) hX (dk DX12_goWeek_1 2 rfl) (by decide) (fun hc11 => ?_) (fun hc11 => ?_)
              · refine g_iload_3 hX (dk DX12_goWeek_1 15 rfl) ?_
                refine g_iload_2 hX (dk DX12_goWeek_1 16 rfl) ?_
                refine g_icmp_ge (tgt := 205) hX (dk DX12_goWeek_1 17 rfl) (by decide) (fun hc12 => ?_) (fun hc12 => ?_)
                · have hm : ¬ had < may := Int32.not_lt.mpr hc12
                  refine g_aload_0 hX (dk DX12_goWeek_1 48 rfl) ?_
                  refine g_dup hX (dk DX12_goWeek_1 49 rfl) rfl ?_
                  refine g_getIv hX (dk DX12_goWeek_1 50 rfl) KX12 fX12_120 (by decide) rfl (MLt hM (by decide)) (MC hM) (hT.2.2.1) ?_
                  refine g_aload_0 hX (dk DX12_goWeek_1 51 rfl) ?_
                  refine g_iload_4 hX (dk DX12_goWeek_1 52 rfl) ?_
                  refine g_iload_1 hX (dk DX12_goWeek_1 53 rfl) ?_
                  refine g_c3q hX sX12_goWeek_214 (by decide) (Nat.le_of_ble_eq_true rfl) (rc0 rfl (MLt hM (by decide)) (MC hM)) (by decide) (by decide) (c_X12_dear hG hM hE hA hi10) ?_
                  rintro _ J4 _ ⟨rfl, hfr4, rfl⟩
                  have hT := hT.fr hfr4 (by decide)
                  have hfr := hfr.trans (hfr4.mono (F' := [34, 36, 37, 38, 39, 40]) (C' := [18, 20]) (by decide) (by decide))
                  have hA := Ag.keep hA0 hfr (by decide) (by decide)
                  refine g_iadd hX (dk DX12_goWeek_1 55 rfl) ?_
                  refine g_putI hX (dk DX12_goWeek_1 56 rfl) KX12 fX12_120 (by decide) rfl (MLt hM (by decide)) (MC hM) (Or.inl rfl) (rfl) (rfl) ?_
                  refine g_gen (fun J2 hJ2 => ?_)
                  have hT : TS J2 idl (had, kn1, co1 + dearF E i (nI wn), st1 + 1, ca1, (if fw1 < 0 then nI wn else fw1), (if fw1 < 0 then nI i else fd1)) := by rw [hJ2]; exact hT.co
                  have hfr : Fr [34, 36, 37, 38, 39, 40] [18, 20] I J2 := by rw [hJ2]; exact hfr.pf (by decide)
                  have hA := Ag.keep hA0 hfr (by decide) (by decide)
                  refine g_aload_0 hX (dk DX12_goWeek_1 57 rfl) ?_
                  refine g_aload_0 hX (dk DX12_goWeek_1 58 rfl) ?_
                  refine g_aload_0 hX (dk DX12_goWeek_1 59 rfl) ?_
                  refine g_getIv hX (dk DX12_goWeek_2 0 rfl) KX12 fX12_114 (by decide) rfl (MLt hM (by decide)) (MC hM) (hT.1) ?_
                  refine g_iload_4 hX (dk DX12_goWeek_2 1 rfl) ?_
                  refine g_aload_0 hX (dk DX12_goWeek_2 2 rfl) ?_
                  refine g_iload_4 hX (dk DX12_goWeek_2 3 rfl) ?_
                  refine g_c2I hX sX12_goWeek_232 (by decide) (Nat.le_of_ble_eq_true rfl) (rc0 rfl (MLt hM (by decide)) (MC hM)) (by decide) (by decide) (c_X12_learnsBy hG hM hA hi10) ?_
                  refine g_c4I hX sX12_goWeek_235 (by decide) (Nat.le_of_ble_eq_true rfl) (rc0 rfl (MLt hM (by decide)) (MC hM)) (by decide) (by decide) (c_X12_with hG) ?_
                  refine g_putI hX (dk DX12_goWeek_2 6 rfl) KX12 fX12_114 (by decide) rfl (MLt hM (by decide)) (MC hM) (Or.inl rfl) (rfl) (rfl) ?_
                  refine g_gen (fun J2 hJ2 => ?_)
                  have hT : TS J2 idl (had, withI kn1 (nI i) (@bI (learnsF E i) (dcL E i)), co1 + dearF E i (nI wn), st1 + 1, ca1, (if fw1 < 0 then nI wn else fw1), (if fw1 < 0 then nI i else fd1)) := by rw [hJ2]; exact hT.kn
                  have hfr : Fr [34, 36, 37, 38, 39, 40] [18, 20] I J2 := by rw [hJ2]; exact hfr.pf (by decide)
                  have hstep : wkStep E idl wn may i (had, kn1, co1, st1, ca1, fw1, fd1) = (had, withI kn1 (nI i) (@bI (learnsF E i) (dcL E i)), co1 + dearF E i (nI wn), st1 + 1, ca1, (if fw1 < 0 then nI wn else fw1), (if fw1 < 0 then nI i else fd1)) := by simp only [wkStep]; rw [if_neg (fun z => z hcm), if_neg hid, if_neg hkn, if_neg hm]
                  refine g_iinc_4 hX (dk DX12_goWeek_2 7 rfl) (nI_1 i) (by decide) rfl ?_
                  refine g_goto (tgt := 5) hX (dk DX12_goWeek_2 8 rfl) (by decide) ?_
                  exact ih k (by omega) (i + 1) _ _ _ _ _ _ _ _ (by omega) (by rw [← hv, wkRun_s, hstep]) hT hfr
                · have hm : had < may := Int32.not_le.mp hc12
                  refine g_iinc_3 (v := had + 1) hX (dk DX12_goWeek_1 18 rfl) (rfl) (by decide) rfl ?_
                  refine g_aload_0 hX (dk DX12_goWeek_1 19 rfl) ?_
                  refine g_dup hX (dk DX12_goWeek_1 20 rfl) rfl ?_
                  refine g_getIv hX (dk DX12_goWeek_1 21 rfl) KX12 fX12_126 (by decide) rfl (MLt hM (by decide)) (MC hM) (hT.2.2.2.2.1) ?_
                  refine g_iconst (v := 1) hX (dk DX12_goWeek_1 22 rfl) (by decide) ?_
                  refine g_iadd hX (dk DX12_goWeek_1 23 rfl) ?_
                  refine g_putI hX (dk DX12_goWeek_1 24 rfl) KX12 fX12_126 (by decide) rfl (MLt hM (by decide)) (MC hM) (Or.inl rfl) (rfl) (rfl) ?_
                  refine g_gen (fun J2 hJ2 => ?_)
                  have hT : TS J2 idl (had, kn1, co1, st1 + 1, ca1 + 1, (if fw1 < 0 then nI wn else fw1), (if fw1 < 0 then nI i else fd1)) := by rw [hJ2]; exact hT.ca
                  have hfr : Fr [34, 36, 37, 38, 39, 40] [18, 20] I J2 := by rw [hJ2]; exact hfr.pf (by decide)
                  have hA := Ag.keep hA0 hfr (by decide) (by decide)
                  refine g_aload_0 hX (dk DX12_goWeek_1 25 rfl) ?_
                  refine g_dup hX (dk DX12_goWeek_1 26 rfl) rfl ?_
                  refine g_getIv hX (dk DX12_goWeek_1 27 rfl) KX12 fX12_120 (by decide) rfl (MLt hM (by decide)) (MC hM) (hT.2.2.1) ?_
                  refine g_iconst (v := 1) hX (dk DX12_goWeek_1 28 rfl) (by decide) ?_
                  refine g_iadd hX (dk DX12_goWeek_1 29 rfl) ?_
                  refine g_putI hX (dk DX12_goWeek_1 30 rfl) KX12 fX12_120 (by decide) rfl (MLt hM (by decide)) (MC hM) (Or.inl rfl) (rfl) (rfl) ?_
                  refine g_gen (fun J2 hJ2 => ?_)
                  have hT : TS J2 idl (had, kn1, co1 + 1, st1 + 1, ca1 + 1, (if fw1 < 0 then nI wn else fw1), (if fw1 < 0 then nI i else fd1)) := by rw [hJ2]; exact hT.co
                  have hfr : Fr [34, 36, 37, 38, 39, 40] [18, 20] I J2 := by rw [hJ2]; exact hfr.pf (by decide)
                  have hA := Ag.keep hA0 hfr (by decide) (by decide)
                  refine g_aload_0 hX (dk DX12_goWeek_1 31 rfl) ?_
                  refine g_aload_0 hX (dk DX12_goWeek_1 32 rfl) ?_
                  refine g_aload_0 hX (dk DX12_goWeek_1 33 rfl) ?_
                  refine g_getIv hX (dk DX12_goWeek_1 34 rfl) KX12 fX12_114 (by decide) rfl (MLt hM (by decide)) (MC hM) (hT.1) ?_
                  refine g_iload_4 hX (dk DX12_goWeek_1 35 rfl) ?_
                  refine g_aload_0 hX (dk DX12_goWeek_1 36 rfl) ?_
                  refine g_getRs (r := 1) hX (dk DX12_goWeek_1 37 rfl) KX12 fX12_31 (by decide) rfl (MLt hM (by decide)) (MC hM) (MR hM 7 (by decide) rfl) ?_
                  refine g_iload_4 hX (dk DX12_goWeek_1 38 rfl) ?_
                  refine v_iaload hX (dk DX12_goWeek_1 39 rfl) (MLt hM (q := 1) (by decide)) (MS hM 1 (by decide) rfl) (⟨rfl, by omega, by decide⟩) (congrFun (hA.2.1 1 (by decide)) i) ?_
                  refine g_bipush (v := 6) hX (dk DX12_goWeek_1 40 rfl) (by decide) ?_
                  refine g_icmp_eq (tgt := 195) hX (dk DX12_goWeek_1 41 rfl) (by decide) (fun hc13 => ?_) (fun hc13 => ?_)
                  · have hV2 : bI (E 1 i ≠ 6) = 0 := bI_f (fun z => z hc13)
                    refine g_iconst (v := 0) hX (dk DX12_goWeek_1 44 rfl) (by decide) ?_
                    refine g_c4I hX sX12_goWeek_196 (by decide) (Nat.le_of_ble_eq_true rfl) (rc0 rfl (MLt hM (by decide)) (MC hM)) (by decide) (by decide) (c_X12_with hG) ?_
                    refine g_putI hX (dk DX12_goWeek_1 46 rfl) KX12 fX12_114 (by decide) rfl (MLt hM (by decide)) (MC hM) (Or.inl rfl) (rfl) (rfl) ?_
                    refine g_gen (fun J2 hJ2 => ?_)
                    have hT : TS J2 idl (had + 1, withI kn1 (nI i) (bI (E 1 i ≠ 6)), co1 + 1, st1 + 1, ca1 + 1, (if fw1 < 0 then nI wn else fw1), (if fw1 < 0 then nI i else fd1)) := by rw [hJ2, hV2]; exact hT.kn
                    have hfr : Fr [34, 36, 37, 38, 39, 40] [18, 20] I J2 := by rw [hJ2]; exact hfr.pf (by decide)
                    have hstep : wkStep E idl wn may i (had, kn1, co1, st1, ca1, fw1, fd1) = (had + 1, withI kn1 (nI i) (bI (E 1 i ≠ 6)), co1 + 1, st1 + 1, ca1 + 1, (if fw1 < 0 then nI wn else fw1), (if fw1 < 0 then nI i else fd1)) := by simp only [wkStep]; rw [if_neg (fun z => z hcm), if_neg hid, if_neg hkn, if_pos hm]
                    refine g_goto (tgt := 241) hX (dk DX12_goWeek_1 47 rfl) (by decide) ?_
                    refine g_iinc_4 hX (dk DX12_goWeek_2 7 rfl) (nI_1 i) (by decide) rfl ?_
                    refine g_goto (tgt := 5) hX (dk DX12_goWeek_2 8 rfl) (by decide) ?_
                    exact ih k (by omega) (i + 1) _ _ _ _ _ _ _ _ (by omega) (by rw [← hv, wkRun_s, hstep]) hT hfr
                  · have hV2 : bI (E 1 i ≠ 6) = 1 := bI_t hc13
                    refine g_iconst (v := 1) hX (dk DX12_goWeek_1 42 rfl) (by decide) ?_
                    refine g_goto (tgt := 196) hX (dk DX12_goWeek_1 43 rfl) (by decide) ?_
                    refine g_c4I hX sX12_goWeek_196 (by decide) (Nat.le_of_ble_eq_true rfl) (rc0 rfl (MLt hM (by decide)) (MC hM)) (by decide) (by decide) (c_X12_with hG) ?_
                    refine g_putI hX (dk DX12_goWeek_1 46 rfl) KX12 fX12_114 (by decide) rfl (MLt hM (by decide)) (MC hM) (Or.inl rfl) (rfl) (rfl) ?_
                    refine g_gen (fun J2 hJ2 => ?_)
                    have hT : TS J2 idl (had + 1, withI kn1 (nI i) (bI (E 1 i ≠ 6)), co1 + 1, st1 + 1, ca1 + 1, (if fw1 < 0 then nI wn else fw1), (if fw1 < 0 then nI i else fd1)) := by rw [hJ2, hV2]; exact hT.kn
                    have hfr : Fr [34, 36, 37, 38, 39, 40] [18, 20] I J2 := by rw [hJ2]; exact hfr.pf (by decide)
                    have hstep : wkStep E idl wn may i (had, kn1, co1, st1, ca1, fw1, fd1) = (had + 1, withI kn1 (nI i) (bI (E 1 i ≠ 6)), co1 + 1, st1 + 1, ca1 + 1, (if fw1 < 0 then nI wn else fw1), (if fw1 < 0 then nI i else fd1)) := by simp only [wkStep]; rw [if_neg (fun z => z hcm), if_neg hid, if_neg hkn, if_pos hm]
                    refine g_goto (tgt := 241) hX (dk DX12_goWeek_1 47 rfl) (by decide) ?_
                    refine g_iinc_4 hX (dk DX12_goWeek_2 7 rfl) (nI_1 i) (by decide) rfl ?_
                    refine g_goto (tgt := 5) hX (dk DX12_goWeek_2 8 rfl) (by decide) ?_
                    exact ih k (by omega) (i + 1) _ _ _ _ _ _ _ _ (by omega) (by rw [← hv, wkRun_s, hstep]) hT hfr
              · have hst9 := hc11
                refine g_aload_0 hX (dk DX12_goWeek_1 3 rfl) ?_
                refine g_getRs (r := 20) hX (dk DX12_goWeek_1 4 rfl) KX12 fX12_135 (by decide) rfl (MLt hM (by decide)) (MC hM) (MR hM 41 (by decide) rfl) ?_
                refine g_bipush (v := 10) hX (dk DX12_goWeek_1 5 rfl) (by decide) ?_
                refine g_iload_1 hX (dk DX12_goWeek_1 6 rfl) ?_
                refine g_aload_0 hX (dk DX12_goWeek_1 7 rfl) ?_
                refine g_getIv hX (dk DX12_goWeek_1 8 rfl) KX12 fX12_13 (by decide) rfl (MLt hM (by decide)) (MC hM) (hA.1.2.1.trans (inv_wk hE).1) ?_
                refine g_isub hX (dk DX12_goWeek_1 9 rfl) ?_
                refine g_imul hX (dk DX12_goWeek_1 10 rfl) ?_
                refine g_iload_4 hX (dk DX12_goWeek_1 11 rfl) ?_
                refine g_iadd hX (dk DX12_goWeek_1 12 rfl) ?_
                refine g_iconst (v := 1) hX (dk DX12_goWeek_1 13 rfl) (by decide) ?_
                refine i_zastore hX (dk DX12_goWeek_1 14 rfl) (MLt hM (q := 20) (by decide)) (MS hM 20 (by decide) rfl) (stix hw1 hw2 (by omega) hst9) ?_
                refine g_gen (fun J2 hJ2 => ?_)
                have hT : TS J2 idl (had, kn1, co1, st1 + 1, ca1, (if fw1 < 0 then nI wn else fw1), (if fw1 < 0 then nI i else fd1)) := by rw [hJ2]; exact hT.off (by decide)
                have hfr : Fr [34, 36, 37, 38, 39, 40] [18, 20] I J2 := by rw [hJ2]; exact hfr.pc (by decide) (by decide)
                have hA := Ag.keep hA0 hfr (by decide) (by decide)
                refine g_iload_3 hX (dk DX12_goWeek_1 15 rfl) ?_
                refine g_iload_2 hX (dk DX12_goWeek_1 16 rfl) ?_
                refine g_icmp_ge (tgt := 205) hX (dk DX12_goWeek_1 17 rfl) (by decide) (fun hc14 => ?_) (fun hc14 => ?_)
                · have hm : ¬ had < may := Int32.not_lt.mpr hc14
                  refine g_aload_0 hX (dk DX12_goWeek_1 48 rfl) ?_
                  refine g_dup hX (dk DX12_goWeek_1 49 rfl) rfl ?_
                  refine g_getIv hX (dk DX12_goWeek_1 50 rfl) KX12 fX12_120 (by decide) rfl (MLt hM (by decide)) (MC hM) (hT.2.2.1) ?_
                  refine g_aload_0 hX (dk DX12_goWeek_1 51 rfl) ?_
                  refine g_iload_4 hX (dk DX12_goWeek_1 52 rfl) ?_
                  refine g_iload_1 hX (dk DX12_goWeek_1 53 rfl) ?_
                  refine g_c3q hX sX12_goWeek_214 (by decide) (Nat.le_of_ble_eq_true rfl) (rc0 rfl (MLt hM (by decide)) (MC hM)) (by decide) (by decide) (c_X12_dear hG hM hE hA hi10) ?_
                  rintro _ J4 _ ⟨rfl, hfr4, rfl⟩
                  have hT := hT.fr hfr4 (by decide)
                  have hfr := hfr.trans (hfr4.mono (F' := [34, 36, 37, 38, 39, 40]) (C' := [18, 20]) (by decide) (by decide))
                  have hA := Ag.keep hA0 hfr (by decide) (by decide)
                  refine g_iadd hX (dk DX12_goWeek_1 55 rfl) ?_
                  refine g_putI hX (dk DX12_goWeek_1 56 rfl) KX12 fX12_120 (by decide) rfl (MLt hM (by decide)) (MC hM) (Or.inl rfl) (rfl) (rfl) ?_
                  refine g_gen (fun J2 hJ2 => ?_)
                  have hT : TS J2 idl (had, kn1, co1 + dearF E i (nI wn), st1 + 1, ca1, (if fw1 < 0 then nI wn else fw1), (if fw1 < 0 then nI i else fd1)) := by rw [hJ2]; exact hT.co
                  have hfr : Fr [34, 36, 37, 38, 39, 40] [18, 20] I J2 := by rw [hJ2]; exact hfr.pf (by decide)
                  have hA := Ag.keep hA0 hfr (by decide) (by decide)
                  refine g_aload_0 hX (dk DX12_goWeek_1 57 rfl) ?_
                  refine g_aload_0 hX (dk DX12_goWeek_1 58 rfl) ?_
                  refine g_aload_0 hX (dk DX12_goWeek_1 59 rfl) ?_
                  refine g_getIv hX (dk DX12_goWeek_2 0 rfl) KX12 fX12_114 (by decide) rfl (MLt hM (by decide)) (MC hM) (hT.1) ?_
                  refine g_iload_4 hX (dk DX12_goWeek_2 1 rfl) ?_
                  refine g_aload_0 hX (dk DX12_goWeek_2 2 rfl) ?_
                  refine g_iload_4 hX (dk DX12_goWeek_2 3 rfl) ?_
                  refine g_c2I hX sX12_goWeek_232 (by decide) (Nat.le_of_ble_eq_true rfl) (rc0 rfl (MLt hM (by decide)) (MC hM)) (by decide) (by decide) (c_X12_learnsBy hG hM hA hi10) ?_
                  refine g_c4I hX sX12_goWeek_235 (by decide) (Nat.le_of_ble_eq_true rfl) (rc0 rfl (MLt hM (by decide)) (MC hM)) (by decide) (by decide) (c_X12_with hG) ?_
                  refine g_putI hX (dk DX12_goWeek_2 6 rfl) KX12 fX12_114 (by decide) rfl (MLt hM (by decide)) (MC hM) (Or.inl rfl) (rfl) (rfl) ?_
                  refine g_gen (fun J2 hJ2 => ?_)
                  have hT : TS J2 idl (had, withI kn1 (nI i) (@bI (learnsF E i) (dcL E i)), co1 + dearF E i (nI wn), st1 + 1, ca1, (if fw1 < 0 then nI wn else fw1), (if fw1 < 0 then nI i else fd1)) := by rw [hJ2]; exact hT.kn
                  have hfr : Fr [34, 36, 37, 38, 39, 40] [18, 20] I J2 := by rw [hJ2]; exact hfr.pf (by decide)
                  have hstep : wkStep E idl wn may i (had, kn1, co1, st1, ca1, fw1, fd1) = (had, withI kn1 (nI i) (@bI (learnsF E i) (dcL E i)), co1 + dearF E i (nI wn), st1 + 1, ca1, (if fw1 < 0 then nI wn else fw1), (if fw1 < 0 then nI i else fd1)) := by simp only [wkStep]; rw [if_neg (fun z => z hcm), if_neg hid, if_neg hkn, if_neg hm]
                  refine g_iinc_4 hX (dk DX12_goWeek_2 7 rfl) (nI_1 i) (by decide) rfl ?_
                  refine g_goto (tgt := 5) hX (dk DX12_goWeek_2 8 rfl) (by decide) ?_
                  exact ih k (by omega) (i + 1) _ _ _ _ _ _ _ _ (by omega) (by rw [← hv, wkRun_s, hstep]) hT hfr
                · have hm : had < may := Int32.not_le.mp hc14
                  refine g_iinc_3 (v := had + 1) hX (dk DX12_goWeek_1 18 rfl) (rfl) (by decide) rfl ?_
                  refine g_aload_0 hX (dk DX12_goWeek_1 19 rfl) ?_
                  refine g_dup hX (dk DX12_goWeek_1 20 rfl) rfl ?_
                  refine g_getIv hX (dk DX12_goWeek_1 21 rfl) KX12 fX12_126 (by decide) rfl (MLt hM (by decide)) (MC hM) (hT.2.2.2.2.1) ?_
                  refine g_iconst (v := 1) hX (dk DX12_goWeek_1 22 rfl) (by decide) ?_
                  refine g_iadd hX (dk DX12_goWeek_1 23 rfl) ?_
                  refine g_putI hX (dk DX12_goWeek_1 24 rfl) KX12 fX12_126 (by decide) rfl (MLt hM (by decide)) (MC hM) (Or.inl rfl) (rfl) (rfl) ?_
                  refine g_gen (fun J2 hJ2 => ?_)
                  have hT : TS J2 idl (had, kn1, co1, st1 + 1, ca1 + 1, (if fw1 < 0 then nI wn else fw1), (if fw1 < 0 then nI i else fd1)) := by rw [hJ2]; exact hT.ca
                  have hfr : Fr [34, 36, 37, 38, 39, 40] [18, 20] I J2 := by rw [hJ2]; exact hfr.pf (by decide)
                  have hA := Ag.keep hA0 hfr (by decide) (by decide)
                  refine g_aload_0 hX (dk DX12_goWeek_1 25 rfl) ?_
                  refine g_dup hX (dk DX12_goWeek_1 26 rfl) rfl ?_
                  refine g_getIv hX (dk DX12_goWeek_1 27 rfl) KX12 fX12_120 (by decide) rfl (MLt hM (by decide)) (MC hM) (hT.2.2.1) ?_
                  refine g_iconst (v := 1) hX (dk DX12_goWeek_1 28 rfl) (by decide) ?_
                  refine g_iadd hX (dk DX12_goWeek_1 29 rfl) ?_
                  refine g_putI hX (dk DX12_goWeek_1 30 rfl) KX12 fX12_120 (by decide) rfl (MLt hM (by decide)) (MC hM) (Or.inl rfl) (rfl) (rfl) ?_
                  refine g_gen (fun J2 hJ2 => ?_)
                  have hT : TS J2 idl (had, kn1, co1 + 1, st1 + 1, ca1 + 1, (if fw1 < 0 then nI wn else fw1), (if fw1 < 0 then nI i else fd1)) := by rw [hJ2]; exact hT.co
                  have hfr : Fr [34, 36, 37, 38, 39, 40] [18, 20] I J2 := by rw [hJ2]; exact hfr.pf (by decide)
                  have hA := Ag.keep hA0 hfr (by decide) (by decide)
                  refine g_aload_0 hX (dk DX12_goWeek_1 31 rfl) ?_
                  refine g_aload_0 hX (dk DX12_goWeek_1 32 rfl) ?_
                  refine g_aload_0 hX (dk DX12_goWeek_1 33 rfl) ?_
                  refine g_getIv hX (dk DX12_goWeek_1 34 rfl) KX12 fX12_114 (by decide) rfl (MLt hM (by decide)) (MC hM) (hT.1) ?_
                  refine g_iload_4 hX (dk DX12_goWeek_1 35 rfl) ?_
                  refine g_aload_0 hX (dk DX12_goWeek_1 36 rfl) ?_
                  refine g_getRs (r := 1) hX (dk DX12_goWeek_1 37 rfl) KX12 fX12_31 (by decide) rfl (MLt hM (by decide)) (MC hM) (MR hM 7 (by decide) rfl) ?_
                  refine g_iload_4 hX (dk DX12_goWeek_1 38 rfl) ?_
                  refine v_iaload hX (dk DX12_goWeek_1 39 rfl) (MLt hM (q := 1) (by decide)) (MS hM 1 (by decide) rfl) (⟨rfl, by omega, by decide⟩) (congrFun (hA.2.1 1 (by decide)) i) ?_
                  refine g_bipush (v := 6) hX (dk DX12_goWeek_1 40 rfl) (by decide) ?_
                  refine g_icmp_eq (tgt := 195) hX (dk DX12_goWeek_1 41 rfl) (by decide) (fun hc15 => ?_) (fun hc15 => ?_)
                  · have hV2 : bI (E 1 i ≠ 6) = 0 := bI_f (fun z => z hc15)
                    refine g_iconst (v := 0) hX (dk DX12_goWeek_1 44 rfl) (by decide) ?_
                    refine g_c4I hX sX12_goWeek_196 (by decide) (Nat.le_of_ble_eq_true rfl) (rc0 rfl (MLt hM (by decide)) (MC hM)) (by decide) (by decide) (c_X12_with hG) ?_
                    refine g_putI hX (dk DX12_goWeek_1 46 rfl) KX12 fX12_114 (by decide) rfl (MLt hM (by decide)) (MC hM) (Or.inl rfl) (rfl) (rfl) ?_
                    refine g_gen (fun J2 hJ2 => ?_)
                    have hT : TS J2 idl (had + 1, withI kn1 (nI i) (bI (E 1 i ≠ 6)), co1 + 1, st1 + 1, ca1 + 1, (if fw1 < 0 then nI wn else fw1), (if fw1 < 0 then nI i else fd1)) := by rw [hJ2, hV2]; exact hT.kn
                    have hfr : Fr [34, 36, 37, 38, 39, 40] [18, 20] I J2 := by rw [hJ2]; exact hfr.pf (by decide)
                    have hstep : wkStep E idl wn may i (had, kn1, co1, st1, ca1, fw1, fd1) = (had + 1, withI kn1 (nI i) (bI (E 1 i ≠ 6)), co1 + 1, st1 + 1, ca1 + 1, (if fw1 < 0 then nI wn else fw1), (if fw1 < 0 then nI i else fd1)) := by simp only [wkStep]; rw [if_neg (fun z => z hcm), if_neg hid, if_neg hkn, if_pos hm]
                    refine g_goto (tgt := 241) hX (dk DX12_goWeek_1 47 rfl) (by decide) ?_
                    refine g_iinc_4 hX (dk DX12_goWeek_2 7 rfl) (nI_1 i) (by decide) rfl ?_
                    refine g_goto (tgt := 5) hX (dk DX12_goWeek_2 8 rfl) (by decide) ?_
                    exact ih k (by omega) (i + 1) _ _ _ _ _ _ _ _ (by omega) (by rw [← hv, wkRun_s, hstep]) hT hfr
                  · have hV2 : bI (E 1 i ≠ 6) = 1 := bI_t hc15
                    refine g_iconst (v := 1) hX (dk DX12_goWeek_1 42 rfl) (by decide) ?_
                    refine g_goto (tgt := 196) hX (dk DX12_goWeek_1 43 rfl) (by decide) ?_
                    refine g_c4I hX sX12_goWeek_196 (by decide) (Nat.le_of_ble_eq_true rfl) (rc0 rfl (MLt hM (by decide)) (MC hM)) (by decide) (by decide) (c_X12_with hG) ?_
                    refine g_putI hX (dk DX12_goWeek_1 46 rfl) KX12 fX12_114 (by decide) rfl (MLt hM (by decide)) (MC hM) (Or.inl rfl) (rfl) (rfl) ?_
                    refine g_gen (fun J2 hJ2 => ?_)
                    have hT : TS J2 idl (had + 1, withI kn1 (nI i) (bI (E 1 i ≠ 6)), co1 + 1, st1 + 1, ca1 + 1, (if fw1 < 0 then nI wn else fw1), (if fw1 < 0 then nI i else fd1)) := by rw [hJ2, hV2]; exact hT.kn
                    have hfr : Fr [34, 36, 37, 38, 39, 40] [18, 20] I J2 := by rw [hJ2]; exact hfr.pf (by decide)
                    have hstep : wkStep E idl wn may i (had, kn1, co1, st1, ca1, fw1, fd1) = (had + 1, withI kn1 (nI i) (bI (E 1 i ≠ 6)), co1 + 1, st1 + 1, ca1 + 1, (if fw1 < 0 then nI wn else fw1), (if fw1 < 0 then nI i else fd1)) := by simp only [wkStep]; rw [if_neg (fun z => z hcm), if_neg hid, if_neg hkn, if_pos hm]
                    refine g_goto (tgt := 241) hX (dk DX12_goWeek_1 47 rfl) (by decide) ?_
                    refine g_iinc_4 hX (dk DX12_goWeek_2 7 rfl) (nI_1 i) (by decide) rfl ?_
                    refine g_goto (tgt := 5) hX (dk DX12_goWeek_2 8 rfl) (by decide) ?_
                    exact ih k (by omega) (i + 1) _ _ _ _ _ _ _ _ (by omega) (by rw [← hv, wkRun_s, hstep]) hT hfr
          · have hstep : wkStep E idl wn may i (had, kn1, co1, st1, ca1, fw1, fd1) = (had, kn1, co1, st1, ca1, fw1, fd1) := by simp only [wkStep]; rw [if_neg (fun z => z hcm), if_neg hid, if_pos hc4]
            refine g_goto (tgt := 241) hX (dk DX12_goWeek_0 41 rfl) (by decide) ?_
            refine g_iinc_4 hX (dk DX12_goWeek_2 7 rfl) (nI_1 i) (by decide) rfl ?_
            refine g_goto (tgt := 5) hX (dk DX12_goWeek_2 8 rfl) (by decide) ?_
            exact ih k (by omega) (i + 1) _ _ _ _ _ _ _ _ (by omega) (by rw [← hv, wkRun_s, hstep]) hT hfr
        · have hid := hc3
          refine g_aload_0 hX (dk DX12_goWeek_0 20 rfl) ?_
          refine g_dup hX (dk DX12_goWeek_0 21 rfl) rfl ?_
          refine g_getIv hX (dk DX12_goWeek_0 22 rfl) KX12 fX12_120 (by decide) rfl (MLt hM (by decide)) (MC hM) (hT.2.2.1) ?_
          refine g_aload_0 hX (dk DX12_goWeek_0 23 rfl) ?_
          refine g_aload_0 hX (dk DX12_goWeek_0 24 rfl) ?_
          refine g_getIv hX (dk DX12_goWeek_0 25 rfl) KX12 fX12_114 (by decide) rfl (MLt hM (by decide)) (MC hM) (hT.1) ?_
          refine g_iload_4 hX (dk DX12_goWeek_0 26 rfl) ?_
          refine g_c3I hX sX12_goWeek_52 (by decide) (Nat.le_of_ble_eq_true rfl) (rc0 rfl (MLt hM (by decide)) (MC hM)) (by decide) (by decide) (c_X12_has hG) ?_
          refine g_ifb_eq (tgt := 62) hX (dk DX12_goWeek_0 28 rfl) (by decide) (fun hc16 => ?_) (fun hc16 => ?_)
          · have hV : (if hasI kn1 (nI i) = 1 then (1 : Int32) else 0) = 0 := if_neg hc16
            refine g_iconst (v := 0) hX (dk DX12_goWeek_0 31 rfl) (by decide) ?_
            refine g_iadd hX (dk DX12_goWeek_0 32 rfl) ?_
            refine g_putI hX (dk DX12_goWeek_0 33 rfl) KX12 fX12_120 (by decide) rfl (MLt hM (by decide)) (MC hM) (Or.inl rfl) (rfl) (rfl) ?_
            refine g_gen (fun J2 hJ2 => ?_)
            have hT : TS J2 idl (had, kn1, co1 + (if hasI kn1 (nI i) = 1 then 1 else 0), st1, ca1, fw1, fd1) := by rw [hJ2, hV]; exact hT.co
            have hfr : Fr [34, 36, 37, 38, 39, 40] [18, 20] I J2 := by rw [hJ2]; exact hfr.pf (by decide)
            have hstep : wkStep E idl wn may i (had, kn1, co1, st1, ca1, fw1, fd1) = (had, kn1, co1 + (if hasI kn1 (nI i) = 1 then 1 else 0), st1, ca1, fw1, fd1) := by simp only [wkStep]; rw [if_neg (fun z => z hcm), if_pos hid]
            refine g_goto (tgt := 241) hX (dk DX12_goWeek_0 34 rfl) (by decide) ?_
            refine g_iinc_4 hX (dk DX12_goWeek_2 7 rfl) (nI_1 i) (by decide) rfl ?_
            refine g_goto (tgt := 5) hX (dk DX12_goWeek_2 8 rfl) (by decide) ?_
            exact ih k (by omega) (i + 1) _ _ _ _ _ _ _ _ (by omega) (by rw [← hv, wkRun_s, hstep]) hT hfr
          · have hV : (if hasI kn1 (nI i) = 1 then (1 : Int32) else 0) = 1 := if_pos hc16
            refine g_iconst (v := 1) hX (dk DX12_goWeek_0 29 rfl) (by decide) ?_
            refine g_goto (tgt := 63) hX (dk DX12_goWeek_0 30 rfl) (by decide) ?_
            refine g_iadd hX (dk DX12_goWeek_0 32 rfl) ?_
            refine g_putI hX (dk DX12_goWeek_0 33 rfl) KX12 fX12_120 (by decide) rfl (MLt hM (by decide)) (MC hM) (Or.inl rfl) (rfl) (rfl) ?_
            refine g_gen (fun J2 hJ2 => ?_)
            have hT : TS J2 idl (had, kn1, co1 + (if hasI kn1 (nI i) = 1 then 1 else 0), st1, ca1, fw1, fd1) := by rw [hJ2, hV]; exact hT.co
            have hfr : Fr [34, 36, 37, 38, 39, 40] [18, 20] I J2 := by rw [hJ2]; exact hfr.pf (by decide)
            have hstep : wkStep E idl wn may i (had, kn1, co1, st1, ca1, fw1, fd1) = (had, kn1, co1 + (if hasI kn1 (nI i) = 1 then 1 else 0), st1, ca1, fw1, fd1) := by simp only [wkStep]; rw [if_neg (fun z => z hcm), if_pos hid]
            refine g_goto (tgt := 241) hX (dk DX12_goWeek_0 34 rfl) (by decide) ?_
            refine g_iinc_4 hX (dk DX12_goWeek_2 7 rfl) (nI_1 i) (by decide) rfl ?_
            refine g_goto (tgt := 5) hX (dk DX12_goWeek_2 8 rfl) (by decide) ?_
            exact ih k (by omega) (i + 1) _ _ _ _ _ _ _ _ (by omega) (by rw [← hv, wkRun_s, hstep]) hT hfr
      · have hstep : wkStep E idl wn may i (had, kn1, co1, st1, ca1, fw1, fd1) = (had, kn1, co1, st1, ca1, fw1, fd1) := by simp only [wkStep]; rw [if_pos hc2]
        refine g_goto (tgt := 241) hX (dk DX12_goWeek_0 13 rfl) (by decide) ?_
        refine g_iinc_4 hX (dk DX12_goWeek_2 7 rfl) (nI_1 i) (by decide) rfl ?_
        refine g_goto (tgt := 5) hX (dk DX12_goWeek_2 8 rfl) (by decide) ?_
        exact ih k (by omega) (i + 1) _ _ _ _ _ _ _ _ (by omega) (by rw [← hv, wkRun_s, hstep]) hT hfr
  refine g_iconst (v := 0) hX (dk DX12_goWeek_0 0 rfl) (by decide) ?_
  refine g_istore_3 hX (dk DX12_goWeek_0 1 rfl) (by decide) rfl ?_
  refine g_iconst (v := 0) hX (dk DX12_goWeek_0 2 rfl) (by decide) ?_
  refine g_istore_4 hX (dk DX12_goWeek_0 3 rfl) (by decide) rfl ?_
  exact loop5 (cnt E) 0 0 kn co st ca fw fd I (Nat.zero_add _) rfl hT Fr.rf

