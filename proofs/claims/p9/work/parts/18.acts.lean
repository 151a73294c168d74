set_option maxRecDepth 8000 in
set_option maxHeartbeats 4000000 in
theorem c_X12_body {G : Gt} (hG : Gok G) {I : It} {h : Ht} (hM : HM h) {b : Int32} {r : Nat} (hr : I 0 67 = nI r) (hr2 : r ≤ 80) : Con G (1) 0 0 mX12_body [.ref 0, .int b] I h (rV (body1 I b) h) := by
  refine con_intro (own := RX12) (lo0 := [some (.ref 0), some (.int b)]) hG rfl pl_X12 (Nat.le_of_ble_eq_true rfl) rfl (fun X hX => ?_)
  refine g_aload_0 hX (dk DX12_body 0 rfl) ?_
  refine g_getIv hX (dk DX12_body 1 rfl) KX12 fX12_214 (by decide) rfl (MLt hM (by decide)) (MC hM) (hr) ?_
  refine g_bipush (v := 20) hX (dk DX12_body 2 rfl) (by decide) ?_
  refine g_icmp_ge (tgt := 19) hX (dk DX12_body 3 rfl) (by decide) (fun hc1 => ?_) (fun hc1 => ?_)
  · skip
    refine g_aload_0 hX (dk DX12_body 10 rfl) ?_
    refine g_dup hX (dk DX12_body 11 rfl) rfl ?_
    refine g_getI hX (dk DX12_body 12 rfl) KX12 fX12_214 (by decide) rfl (MLt hM (by decide)) (MC hM) ?_
    refine g_iconst (v := 1) hX (dk DX12_body 13 rfl) (by decide) ?_
    refine g_iadd hX (dk DX12_body 14 rfl) ?_
    refine g_putI hX (dk DX12_body 15 rfl) KX12 fX12_214 (by decide) rfl (MLt hM (by decide)) (MC hM) (Or.inl rfl) (rfl) (rfl) ?_
    refine g_return hX (dk DX12_body 16 rfl) rfl (by decide) (by decide) ?_
    first
    | exact rV_of (by unfold body1; rw [if_pos hlt, show (upI I 35 r b) 0 67 = I 0 67 from rfl, hr, tN_nI (by omega)]) rfl
    | exact rV_of (by unfold body1; rw [if_neg (by rw [hr]; exact Int32.not_lt.mpr hc1), hr]) rfl
    | exact rV_of (by unfold body1; rw [if_neg (by rw [hr]; exact Int32.not_lt.mpr (Decidable.not_not.mp hc1)), hr]) rfl
  · have hb20 : r < 20 := by
      rcases Nat.lt_or_ge r 20 with z | z
      · exact z
      · exact absurd (nI_le z (by omega)) hc1
    have hlt : I 0 67 < 20 := by rw [hr]; exact Int32.not_le.mp hc1
    refine g_aload_0 hX (dk DX12_body 4 rfl) ?_
    refine g_getRs (r := 35) hX (dk DX12_body 5 rfl) KX12 fX12_217 (by decide) rfl (MLt hM (by decide)) (MC hM) (MR hM 68 (by decide) rfl) ?_
    refine g_aload_0 hX (dk DX12_body 6 rfl) ?_
    refine g_getIv hX (dk DX12_body 7 rfl) KX12 fX12_214 (by decide) rfl (MLt hM (by decide)) (MC hM) (hr) ?_
    refine g_iload_1 hX (dk DX12_body 8 rfl) ?_
    refine i_iastore hX (dk DX12_body 9 rfl) (MLt hM (q := 35) (by decide)) (MS hM 35 (by decide) rfl) (⟨rfl, hb20, by decide⟩) ?_
    skip
    refine g_aload_0 hX (dk DX12_body 10 rfl) ?_
    refine g_dup hX (dk DX12_body 11 rfl) rfl ?_
    refine g_getI hX (dk DX12_body 12 rfl) KX12 fX12_214 (by decide) rfl (MLt hM (by decide)) (MC hM) ?_
    refine g_iconst (v := 1) hX (dk DX12_body 13 rfl) (by decide) ?_
    refine g_iadd hX (dk DX12_body 14 rfl) ?_
    refine g_putI hX (dk DX12_body 15 rfl) KX12 fX12_214 (by decide) rfl (MLt hM (by decide)) (MC hM) (Or.inl rfl) (rfl) (rfl) ?_
    refine g_return hX (dk DX12_body 16 rfl) rfl (by decide) (by decide) ?_
    first
    | exact rV_of (by unfold body1; rw [if_pos hlt, show (upI I 35 r b) 0 67 = I 0 67 from rfl, hr, tN_nI (by omega)]) rfl
    | exact rV_of (by unfold body1; rw [if_neg (by rw [hr]; exact Int32.not_lt.mpr hc1), hr]) rfl
    | exact rV_of (by unfold body1; rw [if_neg (by rw [hr]; exact Int32.not_lt.mpr (Decidable.not_not.mp hc1)), hr]) rfl

set_option maxRecDepth 8000 in
set_option maxHeartbeats 4000000 in
theorem c_X12_knowingSays {G : Gt} (hG : Gok G) {I : It} {h : Ht} (hM : HM h) {x : Int32} {d r : Nat} (hr : I 0 67 = nI r) (hr2 : r ≤ 80) : Con G (2) 0 0 mX12_knowingSays [.ref 0, .int (nI d), .int x] I h (rI (x + nI d) (putB I [10]) h) := by
  refine con_intro (own := RX12) (lo0 := [some (.ref 0), some (.int (nI d)), some (.int x)]) hG rfl pl_X12 (Nat.le_of_ble_eq_true rfl) rfl (fun X hX => ?_)
  refine g_aload_0 hX (dk DX12_knowingSays 0 rfl) ?_
  refine g_bipush (v := 10) hX (dk DX12_knowingSays 1 rfl) (by decide) ?_
  refine g_c2V hX sX12_knowingSays_3 (by decide) (Nat.le_of_ble_eq_true rfl) (rc0 rfl (MLt hM (by decide)) (MC hM)) (by decide) (by decide) (c_X12_body hG hM hr (by omega)) ?_
  refine g_iload_2 hX (dk DX12_knowingSays 3 rfl) ?_
  refine g_iload_1 hX (dk DX12_knowingSays 4 rfl) ?_
  refine g_iadd hX (dk DX12_knowingSays 5 rfl) ?_
  refine g_ireturn hX (dk DX12_knowingSays 6 rfl) rfl (rfl) (by decide) (by decide) ?_
  exact rI_of rfl rfl rfl

set_option maxRecDepth 8000 in
set_option maxHeartbeats 4000000 in
theorem c_X12_saysAct {G : Gt} (hG : Gok G) {I : It} {h : Ht} (hM : HM h) {E : It} (hA : Ag E I) {d : Nat} (hd : d < 10) {x : Int32} {r : Nat} (hr : I 0 67 = nI r) (hr2 : r ≤ 77) : Con G (3) 0 0 mX12_saysAct [.ref 0, .int (nI d), .int x] I h (rI (saysV E d x) (putB I (saysB E d)) h) := by
  refine con_intro (own := RX12) (lo0 := [some (.ref 0), some (.int (nI d)), some (.int x)]) hG rfl pl_X12 (Nat.le_of_ble_eq_true rfl) rfl (fun X hX => ?_)
  refine g_aload_0 hX (dk DX12_saysAct 0 rfl) ?_
  refine g_getRs (r := 1) hX (dk DX12_saysAct 1 rfl) KX12 fX12_31 (by decide) rfl (MLt hM (by decide)) (MC hM) (MR hM 7 (by decide) rfl) ?_
  refine g_iload_1 hX (dk DX12_saysAct 2 rfl) ?_
  refine v_iaload hX (dk DX12_saysAct 3 rfl) (MLt hM (q := 1) (by decide)) (MS hM 1 (by decide) rfl) (⟨rfl, by omega, by decide⟩) (congrFun (hA.2.1 1 (by decide)) d) ?_
  refine g_tswitch (dt := 89) hX [(2, 40), (3, 89), (4, 55), (5, 40), (6, 69)] (dk DX12_saysAct 4 rfl) (by decide +kernel) ?_
  refine ⟨fun hc1 => ?_, fun hc1n => ?_⟩
  · show GG _ _ _ _ _ _ _ _ _ _ _ _ _
    have hk := hc1
    refine g_aload_0 hX (dk DX12_saysAct 5 rfl) ?_
    refine g_bipush (v := 30) hX (dk DX12_saysAct 6 rfl) (by decide) ?_
    refine g_c2V hX sX12_saysAct_43 (by decide) (Nat.le_of_ble_eq_true rfl) (rc0 rfl (MLt hM (by decide)) (MC hM)) (by decide) (by decide) (c_X12_body hG hM hr (by omega)) ?_
    have hA := Ag.keep hA (body1_fr _ 30) (by decide) (by decide)
    have hr := body1_ran _ 30 hr
    refine g_aload_0 hX (dk DX12_saysAct 8 rfl) ?_
    refine g_iload_1 hX (dk DX12_saysAct 9 rfl) ?_
    refine g_iload_2 hX (dk DX12_saysAct 10 rfl) ?_
    refine g_iconst (v := 3) hX (dk DX12_saysAct 11 rfl) (by decide) ?_
    refine g_imul hX (dk DX12_saysAct 12 rfl) ?_
    refine g_c3I hX sX12_saysAct_51 (by decide) (Nat.le_of_ble_eq_true rfl) (rc0 rfl (MLt hM (by decide)) (MC hM)) (by decide) (by decide) (c_X12_knowingSays hG hM hr (by omega)) ?_
    refine g_ireturn hX (dk DX12_saysAct 14 rfl) rfl (rfl) (by decide) (by decide) ?_
    exact rI_of (by unfold saysV; rw [hk]; rfl) (by unfold saysB; rw [hk]; rfl) rfl
  refine ⟨fun hc2 => ?_, fun hc2n => ?_⟩
  · show GG _ _ _ _ _ _ _ _ _ _ _ _ _
    refine g_aload_0 hX (dk DX12_saysAct 37 rfl) ?_
    refine g_iload_1 hX (dk DX12_saysAct 38 rfl) ?_
    refine g_iload_2 hX (dk DX12_saysAct 39 rfl) ?_
    refine g_c3I hX sX12_saysAct_92 (by decide) (Nat.le_of_ble_eq_true rfl) (rc0 rfl (MLt hM (by decide)) (MC hM)) (by decide) (by decide) (c_X12_knowingSays hG hM hr (by omega)) ?_
    refine g_ireturn hX (dk DX12_saysAct 41 rfl) rfl (rfl) (by decide) (by decide) ?_
    exact rI_of (by unfold saysV; simp_all) (by unfold saysB; simp_all) rfl
  refine ⟨fun hc3 => ?_, fun hc3n => ?_⟩
  · show GG _ _ _ _ _ _ _ _ _ _ _ _ _
    have hk := hc3
    refine g_aload_0 hX (dk DX12_saysAct 15 rfl) ?_
    refine g_bipush (v := 50) hX (dk DX12_saysAct 16 rfl) (by decide) ?_
    refine g_c2V hX sX12_saysAct_58 (by decide) (Nat.le_of_ble_eq_true rfl) (rc0 rfl (MLt hM (by decide)) (MC hM)) (by decide) (by decide) (c_X12_body hG hM hr (by omega)) ?_
    have hA := Ag.keep hA (body1_fr _ 50) (by decide) (by decide)
    have hr := body1_ran _ 50 hr
    refine g_aload_0 hX (dk DX12_saysAct 18 rfl) ?_
    refine g_iload_1 hX (dk DX12_saysAct 19 rfl) ?_
    refine g_iload_2 hX (dk DX12_saysAct 20 rfl) ?_
    refine g_c3I hX sX12_saysAct_64 (by decide) (Nat.le_of_ble_eq_true rfl) (rc0 rfl (MLt hM (by decide)) (MC hM)) (by decide) (by decide) (c_X12_knowingSays hG hM hr (by omega)) ?_
    refine g_ineg hX (dk DX12_saysAct 22 rfl) ?_
    refine g_ireturn hX (dk DX12_saysAct 23 rfl) rfl (rfl) (by decide) (by decide) ?_
    exact rI_of (by unfold saysV; rw [hk]; rfl) (by unfold saysB; rw [hk]; rfl) rfl
  refine ⟨fun hc4 => ?_, fun hc4n => ?_⟩
  · show GG _ _ _ _ _ _ _ _ _ _ _ _ _
    have hk := hc4
    refine g_aload_0 hX (dk DX12_saysAct 5 rfl) ?_
    refine g_bipush (v := 30) hX (dk DX12_saysAct 6 rfl) (by decide) ?_
    refine g_c2V hX sX12_saysAct_43 (by decide) (Nat.le_of_ble_eq_true rfl) (rc0 rfl (MLt hM (by decide)) (MC hM)) (by decide) (by decide) (c_X12_body hG hM hr (by omega)) ?_
    have hA := Ag.keep hA (body1_fr _ 30) (by decide) (by decide)
    have hr := body1_ran _ 30 hr
    refine g_aload_0 hX (dk DX12_saysAct 8 rfl) ?_
    refine g_iload_1 hX (dk DX12_saysAct 9 rfl) ?_
    refine g_iload_2 hX (dk DX12_saysAct 10 rfl) ?_
    refine g_iconst (v := 3) hX (dk DX12_saysAct 11 rfl) (by decide) ?_
    refine g_imul hX (dk DX12_saysAct 12 rfl) ?_
    refine g_c3I hX sX12_saysAct_51 (by decide) (Nat.le_of_ble_eq_true rfl) (rc0 rfl (MLt hM (by decide)) (MC hM)) (by decide) (by decide) (c_X12_knowingSays hG hM hr (by omega)) ?_
    refine g_ireturn hX (dk DX12_saysAct 14 rfl) rfl (rfl) (by decide) (by decide) ?_
    exact rI_of (by unfold saysV; rw [hk]; rfl) (by unfold saysB; rw [hk]; rfl) rfl
  refine ⟨fun hc5 => ?_, fun hc5n => ?_⟩
  · show GG _ _ _ _ _ _ _ _ _ _ _ _ _
    have hk := hc5
    refine g_aload_0 hX (dk DX12_saysAct 24 rfl) ?_
    refine g_bipush (v := 71) hX (dk DX12_saysAct 25 rfl) (by decide) ?_
    refine g_c2V hX sX12_saysAct_72 (by decide) (Nat.le_of_ble_eq_true rfl) (rc0 rfl (MLt hM (by decide)) (MC hM)) (by decide) (by decide) (c_X12_body hG hM hr (by omega)) ?_
    have hA := Ag.keep hA (body1_fr _ 71) (by decide) (by decide)
    have hr := body1_ran _ 71 hr
    refine g_aload_0 hX (dk DX12_saysAct 27 rfl) ?_
    refine g_iload_1 hX (dk DX12_saysAct 28 rfl) ?_
    refine g_iload_2 hX (dk DX12_saysAct 29 rfl) ?_
    refine g_c3I hX sX12_saysAct_78 (by decide) (Nat.le_of_ble_eq_true rfl) (rc0 rfl (MLt hM (by decide)) (MC hM)) (by decide) (by decide) (c_X12_knowingSays hG hM hr (by omega)) ?_
    have hA := Ag.keep hA (putB_fr [10] _) (by decide) (by decide)
    refine g_aload_0 hX (dk DX12_saysAct 31 rfl) ?_
    refine g_getRs (r := 2) hX (dk DX12_saysAct 32 rfl) KX12 fX12_35 (by decide) rfl (MLt hM (by decide)) (MC hM) (MR hM 8 (by decide) rfl) ?_
    refine g_iload_1 hX (dk DX12_saysAct 33 rfl) ?_
    refine v_iaload hX (dk DX12_saysAct 34 rfl) (MLt hM (q := 2) (by decide)) (MS hM 2 (by decide) rfl) (⟨rfl, by omega, by decide⟩) (congrFun (hA.2.1 2 (by decide)) d) ?_
    refine g_ixor hX (dk DX12_saysAct 35 rfl) ?_
    refine g_ireturn hX (dk DX12_saysAct 36 rfl) rfl (rfl) (by decide) (by decide) ?_
    exact rI_of (by unfold saysV; rw [hk]; rfl) (by unfold saysB; rw [hk]; rfl) rfl
  show GG _ _ _ _ _ _ _ _ _ _ _ _ _
  refine g_aload_0 hX (dk DX12_saysAct 37 rfl) ?_
  refine g_iload_1 hX (dk DX12_saysAct 38 rfl) ?_
  refine g_iload_2 hX (dk DX12_saysAct 39 rfl) ?_
  refine g_c3I hX sX12_saysAct_92 (by decide) (Nat.le_of_ble_eq_true rfl) (rc0 rfl (MLt hM (by decide)) (MC hM)) (by decide) (by decide) (c_X12_knowingSays hG hM hr (by omega)) ?_
  refine g_ireturn hX (dk DX12_saysAct 41 rfl) rfl (rfl) (by decide) (by decide) ?_
  exact rI_of (by unfold saysV; simp_all) (by unfold saysB; simp_all) rfl

set_option maxRecDepth 8000 in
set_option maxHeartbeats 4000000 in
theorem c_X12_knowingHolds {G : Gt} (hG : Gok G) {I : It} {h : Ht} (hM : HM h) {E : It} (hA : Ag E I) {d : Nat} (hd : d < 10) {x : Int32} {r : Nat} (hr : I 0 67 = nI r) (hr2 : r ≤ 70) : Con G (4) 0 0 mX12_knowingHolds [.ref 0, .int (nI d), .int x] I h (rI (khV E d x) (putB I (khB E d)) h) := by
  refine con_intro (own := RX12) (lo0 := [some (.ref 0), some (.int (nI d)), some (.int x)]) hG rfl pl_X12 (Nat.le_of_ble_eq_true rfl) rfl (fun X hX => ?_)
  refine g_aload_0 hX (dk DX12_knowingHolds 0 rfl) ?_
  refine g_bipush (v := 11) hX (dk DX12_knowingHolds 1 rfl) (by decide) ?_
  refine g_c2V hX sX12_knowingHolds_3 (by decide) (Nat.le_of_ble_eq_true rfl) (rc0 rfl (MLt hM (by decide)) (MC hM)) (by decide) (by decide) (c_X12_body hG hM hr (by omega)) ?_
  have hA := Ag.keep hA (body1_fr _ 11) (by decide) (by decide)
  have hr := body1_ran _ 11 hr
  refine g_aload_0 hX (dk DX12_knowingHolds 3 rfl) ?_
  refine g_iload_1 hX (dk DX12_knowingHolds 4 rfl) ?_
  refine g_iload_2 hX (dk DX12_knowingHolds 5 rfl) ?_
  refine g_c3I hX sX12_knowingHolds_9 (by decide) (Nat.le_of_ble_eq_true rfl) (rc0 rfl (MLt hM (by decide)) (MC hM)) (by decide) (by decide) (c_X12_saysAct hG hM hA hd hr (by omega)) ?_
  have hA := Ag.keep hA (putB_fr (saysB E d) _) (by decide) (by decide)
  refine g_aload_0 hX (dk DX12_knowingHolds 7 rfl) ?_
  refine g_getRs (r := 2) hX (dk DX12_knowingHolds 8 rfl) KX12 fX12_35 (by decide) rfl (MLt hM (by decide)) (MC hM) (MR hM 8 (by decide) rfl) ?_
  refine g_iload_1 hX (dk DX12_knowingHolds 9 rfl) ?_
  refine v_iaload hX (dk DX12_knowingHolds 10 rfl) (MLt hM (q := 2) (by decide)) (MS hM 2 (by decide) rfl) (⟨rfl, by omega, by decide⟩) (congrFun (hA.2.1 2 (by decide)) d) ?_
  refine g_isub hX (dk DX12_knowingHolds 11 rfl) ?_
  refine g_ireturn hX (dk DX12_knowingHolds 12 rfl) rfl (rfl) (by decide) (by decide) ?_
  exact rI_of rfl rfl rfl

set_option maxRecDepth 8000 in
set_option maxHeartbeats 4000000 in
theorem c_X12_writtenHolds {G : Gt} (hG : Gok G) {I : It} {h : Ht} (hM : HM h) {E : It} (hA : Ag E I) {d : Nat} (hd : d < 10) {x : Int32} {r : Nat} (hr : I 0 67 = nI r) (hr2 : r ≤ 60) : Con G (5) 0 0 mX12_writtenHolds [.ref 0, .int (nI d), .int x] I h (rI (khV E d x ^^^ 6) (putB I (20 :: khB E d)) h) := by
  refine con_intro (own := RX12) (lo0 := [some (.ref 0), some (.int (nI d)), some (.int x)]) hG rfl pl_X12 (Nat.le_of_ble_eq_true rfl) rfl (fun X hX => ?_)
  refine g_aload_0 hX (dk DX12_writtenHolds 0 rfl) ?_
  refine g_bipush (v := 20) hX (dk DX12_writtenHolds 1 rfl) (by decide) ?_
  refine g_c2V hX sX12_writtenHolds_3 (by decide) (Nat.le_of_ble_eq_true rfl) (rc0 rfl (MLt hM (by decide)) (MC hM)) (by decide) (by decide) (c_X12_body hG hM hr (by omega)) ?_
  have hA := Ag.keep hA (body1_fr _ 20) (by decide) (by decide)
  have hr := body1_ran _ 20 hr
  refine g_aload_0 hX (dk DX12_writtenHolds 3 rfl) ?_
  refine g_iload_1 hX (dk DX12_writtenHolds 4 rfl) ?_
  refine g_iload_2 hX (dk DX12_writtenHolds 5 rfl) ?_
  refine g_c3I hX sX12_writtenHolds_9 (by decide) (Nat.le_of_ble_eq_true rfl) (rc0 rfl (MLt hM (by decide)) (MC hM)) (by decide) (by decide) (c_X12_knowingHolds hG hM hA hd hr (by omega)) ?_
  refine g_bipush (v := 6) hX (dk DX12_writtenHolds 7 rfl) (by decide) ?_
  refine g_ixor hX (dk DX12_writtenHolds 8 rfl) ?_
  refine g_ireturn hX (dk DX12_writtenHolds 9 rfl) rfl (rfl) (by decide) (by decide) ?_
  exact rI_of rfl rfl rfl

set_option maxRecDepth 8000 in
set_option maxHeartbeats 4000000 in
theorem c_X12_holdsAct {G : Gt} (hG : Gok G) {I : It} {h : Ht} (hM : HM h) {E : It} (hA : Ag E I) {d : Nat} (hd : d < 10) {x : Int32} {r : Nat} (hr : I 0 67 = nI r) (hr2 : r ≤ 50) : Con G (6) 0 0 mX12_holdsAct [.ref 0, .int (nI d), .int x] I h (rI (holdsV E d x) (putB I (holdsB E d)) h) := by
  refine con_intro (own := RX12) (lo0 := [some (.ref 0), some (.int (nI d)), some (.int x), none]) hG rfl pl_X12 (Nat.le_of_ble_eq_true rfl) rfl (fun X hX => ?_)
  have hkl := khB_len E d
  refine g_aload_0 hX (dk DX12_holdsAct 0 rfl) ?_
  refine g_getRs (r := 1) hX (dk DX12_holdsAct 1 rfl) KX12 fX12_31 (by decide) rfl (MLt hM (by decide)) (MC hM) (MR hM 7 (by decide) rfl) ?_
  refine g_iload_1 hX (dk DX12_holdsAct 2 rfl) ?_
  refine v_iaload hX (dk DX12_holdsAct 3 rfl) (MLt hM (q := 1) (by decide)) (MS hM 1 (by decide) rfl) (⟨rfl, by omega, by decide⟩) (congrFun (hA.2.1 1 (by decide)) d) ?_
  refine g_lswitch (dt := 84) hX [(1, 40), (4, 47), (6, 62)] (dk DX12_holdsAct 4 rfl) (by decide +kernel) (by decide +kernel) ?_
  refine ⟨fun hc1 => ?_, fun hc1n => ?_⟩
  · show GG _ _ _ _ _ _ _ _ _ _ _ _ _
    have hk := hc1
    refine g_aload_0 hX (dk DX12_holdsAct 5 rfl) ?_
    refine g_iload_1 hX (dk DX12_holdsAct 6 rfl) ?_
    refine g_iload_2 hX (dk DX12_holdsAct 7 rfl) ?_
    refine g_c3I hX sX12_holdsAct_43 (by decide) (Nat.le_of_ble_eq_true rfl) (rc0 rfl (MLt hM (by decide)) (MC hM)) (by decide) (by decide) (c_X12_writtenHolds hG hM hA hd hr (by omega)) ?_
    refine g_ireturn hX (dk DX12_holdsAct 9 rfl) rfl (rfl) (by decide) (by decide) ?_
    exact rI_of (by unfold holdsV; rw [hk]; rfl) (by unfold holdsB; rw [hk]; rfl) rfl
  refine ⟨fun hc2 => ?_, fun hc2n => ?_⟩
  · show GG _ _ _ _ _ _ _ _ _ _ _ _ _
    have hk := hc2
    refine g_aload_0 hX (dk DX12_holdsAct 10 rfl) ?_
    refine g_bipush (v := 51) hX (dk DX12_holdsAct 11 rfl) (by decide) ?_
    refine g_c2V hX sX12_holdsAct_50 (by decide) (Nat.le_of_ble_eq_true rfl) (rc0 rfl (MLt hM (by decide)) (MC hM)) (by decide) (by decide) (c_X12_body hG hM hr (by omega)) ?_
    have hA := Ag.keep hA (body1_fr _ 51) (by decide) (by decide)
    have hr := body1_ran _ 51 hr
    refine g_aload_0 hX (dk DX12_holdsAct 13 rfl) ?_
    refine g_iload_1 hX (dk DX12_holdsAct 14 rfl) ?_
    refine g_iload_2 hX (dk DX12_holdsAct 15 rfl) ?_
    refine g_iconst (v := 1) hX (dk DX12_holdsAct 16 rfl) (by decide) ?_
    refine g_iadd hX (dk DX12_holdsAct 17 rfl) ?_
    refine g_c3I hX sX12_holdsAct_58 (by decide) (Nat.le_of_ble_eq_true rfl) (rc0 rfl (MLt hM (by decide)) (MC hM)) (by decide) (by decide) (c_X12_writtenHolds hG hM hA hd hr (by omega)) ?_
    refine g_ireturn hX (dk DX12_holdsAct 19 rfl) rfl (rfl) (by decide) (by decide) ?_
    exact rI_of (by unfold holdsV; rw [hk]; rfl) (by unfold holdsB; rw [hk]; rfl) rfl
  refine ⟨fun hc3 => ?_, fun hc3n => ?_⟩
  · show GG _ _ _ _ _ _ _ _ _ _ _ _ _
    have hk := hc3
    refine g_aload_0 hX (dk DX12_holdsAct 20 rfl) ?_
    refine g_bipush (v := 70) hX (dk DX12_holdsAct 21 rfl) (by decide) ?_
    refine g_c2V hX sX12_holdsAct_65 (by decide) (Nat.le_of_ble_eq_true rfl) (rc0 rfl (MLt hM (by decide)) (MC hM)) (by decide) (by decide) (c_X12_body hG hM hr (by omega)) ?_
    have hA := Ag.keep hA (body1_fr _ 70) (by decide) (by decide)
    have hr := body1_ran _ 70 hr
    refine g_aload_0 hX (dk DX12_holdsAct 23 rfl) ?_
    refine g_iload_1 hX (dk DX12_holdsAct 24 rfl) ?_
    refine g_iload_2 hX (dk DX12_holdsAct 25 rfl) ?_
    refine g_c3I hX sX12_holdsAct_71 (by decide) (Nat.le_of_ble_eq_true rfl) (rc0 rfl (MLt hM (by decide)) (MC hM)) (by decide) (by decide) (c_X12_knowingHolds hG hM hA hd hr (by omega)) ?_
    have hr := putB_ran (khB E d) _ hr
    refine g_istore_3 hX (dk DX12_holdsAct 27 rfl) (by decide) rfl ?_
    refine g_iload_3 hX (dk DX12_holdsAct 28 rfl) ?_
    refine g_aload_0 hX (dk DX12_holdsAct 29 rfl) ?_
    refine g_iload_1 hX (dk DX12_holdsAct 30 rfl) ?_
    refine g_iconst (v := 2) hX (dk DX12_holdsAct 31 rfl) (by decide) ?_
    refine g_c3I hX sX12_holdsAct_79 (by decide) (Nat.le_of_ble_eq_true rfl) (rc0 rfl (MLt hM (by decide)) (MC hM)) (by decide) (by decide) (c_X12_knowingSays hG hM hr (by omega)) ?_
    refine g_iadd hX (dk DX12_holdsAct 33 rfl) ?_
    refine g_ireturn hX (dk DX12_holdsAct 34 rfl) rfl (rfl) (by decide) (by decide) ?_
    exact rI_of (by unfold holdsV; rw [hk]; rfl) (by rw [putB_app]; unfold holdsB; rw [hk]; rfl) rfl
  show GG _ _ _ _ _ _ _ _ _ _ _ _ _
  refine g_aload_0 hX (dk DX12_holdsAct 35 rfl) ?_
  refine g_iload_1 hX (dk DX12_holdsAct 36 rfl) ?_
  refine g_iload_2 hX (dk DX12_holdsAct 37 rfl) ?_
  refine g_c3I hX sX12_holdsAct_87 (by decide) (Nat.le_of_ble_eq_true rfl) (rc0 rfl (MLt hM (by decide)) (MC hM)) (by decide) (by decide) (c_X12_knowingHolds hG hM hA hd hr (by omega)) ?_
  refine g_ireturn hX (dk DX12_holdsAct 39 rfl) rfl (rfl) (by decide) (by decide) ?_
  exact rI_of (by unfold holdsV; simp_all) (by unfold holdsB; simp_all) rfl

set_option maxRecDepth 8000 in
set_option maxHeartbeats 4000000 in
theorem c_X12_knowingTells {G : Gt} (hG : Gok G) {I : It} {h : Ht} (hM : HM h) {E : It} (hA : Ag E I) {d : Nat} (hd : d < 10) {x : Int32} {r : Nat} (hr : I 0 67 = nI r) (hr2 : r ≤ 40) : Con G (7) 0 0 mX12_knowingTells [.ref 0, .int (nI d), .int x] I h (rI (ktV E d x) (putB I (ktB E d)) h) := by
  refine con_intro (own := RX12) (lo0 := [some (.ref 0), some (.int (nI d)), some (.int x)]) hG rfl pl_X12 (Nat.le_of_ble_eq_true rfl) rfl (fun X hX => ?_)
  refine g_aload_0 hX (dk DX12_knowingTells 0 rfl) ?_
  refine g_bipush (v := 12) hX (dk DX12_knowingTells 1 rfl) (by decide) ?_
  refine g_c2V hX sX12_knowingTells_3 (by decide) (Nat.le_of_ble_eq_true rfl) (rc0 rfl (MLt hM (by decide)) (MC hM)) (by decide) (by decide) (c_X12_body hG hM hr (by omega)) ?_
  have hA := Ag.keep hA (body1_fr _ 12) (by decide) (by decide)
  have hr := body1_ran _ 12 hr
  refine g_aload_0 hX (dk DX12_knowingTells 3 rfl) ?_
  refine g_iload_1 hX (dk DX12_knowingTells 4 rfl) ?_
  refine g_iload_2 hX (dk DX12_knowingTells 5 rfl) ?_
  refine g_c3I hX sX12_knowingTells_9 (by decide) (Nat.le_of_ble_eq_true rfl) (rc0 rfl (MLt hM (by decide)) (MC hM)) (by decide) (by decide) (c_X12_holdsAct hG hM hA hd hr (by omega)) ?_
  refine g_iconst (v := 2) hX (dk DX12_knowingTells 7 rfl) (by decide) ?_
  refine g_imul hX (dk DX12_knowingTells 8 rfl) ?_
  refine g_ireturn hX (dk DX12_knowingTells 9 rfl) rfl (rfl) (by decide) (by decide) ?_
  exact rI_of rfl rfl rfl

set_option maxRecDepth 8000 in
set_option maxHeartbeats 4000000 in
theorem c_X12_tellsAct {G : Gt} (hG : Gok G) {I : It} {h : Ht} (hM : HM h) {E : It} (hA : Ag E I) {d : Nat} (hd : d < 10) {x : Int32} {r : Nat} (hr : I 0 67 = nI r) (hr2 : r ≤ 20) : Con G (8) 0 0 mX12_tellsAct [.ref 0, .int (nI d), .int x] I h (rI (tellsV E d x) (putB I (tellsB E d)) h) := by
  refine con_intro (own := RX12) (lo0 := [some (.ref 0), some (.int (nI d)), some (.int x), none]) hG rfl pl_X12 (Nat.le_of_ble_eq_true rfl) rfl (fun X hX => ?_)
  have hkl := ktB_len E d
  refine g_aload_0 hX (dk DX12_tellsAct 0 rfl) ?_
  refine g_getRs (r := 1) hX (dk DX12_tellsAct 1 rfl) KX12 fX12_31 (by decide) rfl (MLt hM (by decide)) (MC hM) (MR hM 7 (by decide) rfl) ?_
  refine g_iload_1 hX (dk DX12_tellsAct 2 rfl) ?_
  refine v_iaload hX (dk DX12_tellsAct 3 rfl) (MLt hM (q := 1) (by decide)) (MS hM 1 (by decide) rfl) (⟨rfl, by omega, by decide⟩) (congrFun (hA.2.1 1 (by decide)) d) ?_
  refine g_tswitch (dt := 73) hX [(3, 36), (4, 73), (5, 58), (6, 36)] (dk DX12_tellsAct 4 rfl) (by decide +kernel) ?_
  refine ⟨fun hc1 => ?_, fun hc1n => ?_⟩
  · show GG _ _ _ _ _ _ _ _ _ _ _ _ _
    have hk := hc1
    refine g_aload_0 hX (dk DX12_tellsAct 5 rfl) ?_
    refine g_bipush (v := 40) hX (dk DX12_tellsAct 6 rfl) (by decide) ?_
    refine g_c2V hX sX12_tellsAct_39 (by decide) (Nat.le_of_ble_eq_true rfl) (rc0 rfl (MLt hM (by decide)) (MC hM)) (by decide) (by decide) (c_X12_body hG hM hr (by omega)) ?_
    have hA := Ag.keep hA (body1_fr _ 40) (by decide) (by decide)
    have hr := body1_ran _ 40 hr
    refine g_aload_0 hX (dk DX12_tellsAct 8 rfl) ?_
    refine g_iload_1 hX (dk DX12_tellsAct 9 rfl) ?_
    refine g_iload_2 hX (dk DX12_tellsAct 10 rfl) ?_
    refine g_c3I hX sX12_tellsAct_45 (by decide) (Nat.le_of_ble_eq_true rfl) (rc0 rfl (MLt hM (by decide)) (MC hM)) (by decide) (by decide) (c_X12_knowingTells hG hM hA hd hr (by omega)) ?_
    have hr := putB_ran (ktB E d) _ hr
    have hA := Ag.keep hA (putB_fr (ktB E d) _) (by decide) (by decide)
    refine g_istore_3 hX (dk DX12_tellsAct 12 rfl) (by decide) rfl ?_
    refine g_iload_3 hX (dk DX12_tellsAct 13 rfl) ?_
    refine g_aload_0 hX (dk DX12_tellsAct 14 rfl) ?_
    refine g_iload_1 hX (dk DX12_tellsAct 15 rfl) ?_
    refine g_iconst (v := 1) hX (dk DX12_tellsAct 16 rfl) (by decide) ?_
    refine g_c3I hX sX12_tellsAct_53 (by decide) (Nat.le_of_ble_eq_true rfl) (rc0 rfl (MLt hM (by decide)) (MC hM)) (by decide) (by decide) (c_X12_holdsAct hG hM hA hd hr (by omega)) ?_
    refine g_iadd hX (dk DX12_tellsAct 18 rfl) ?_
    refine g_ireturn hX (dk DX12_tellsAct 19 rfl) rfl (rfl) (by decide) (by decide) ?_
    exact rI_of (by unfold tellsV; rw [hk]; rfl) (by rw [putB_app]; unfold tellsB; rw [hk]; rfl) rfl
  refine ⟨fun hc2 => ?_, fun hc2n => ?_⟩
  · show GG _ _ _ _ _ _ _ _ _ _ _ _ _
    refine g_aload_0 hX (dk DX12_tellsAct 30 rfl) ?_
    refine g_iload_1 hX (dk DX12_tellsAct 31 rfl) ?_
    refine g_iload_2 hX (dk DX12_tellsAct 32 rfl) ?_
    refine g_c3I hX sX12_tellsAct_76 (by decide) (Nat.le_of_ble_eq_true rfl) (rc0 rfl (MLt hM (by decide)) (MC hM)) (by decide) (by decide) (c_X12_knowingTells hG hM hA hd hr (by omega)) ?_
    refine g_ireturn hX (dk DX12_tellsAct 34 rfl) rfl (rfl) (by decide) (by decide) ?_
    exact rI_of (by unfold tellsV; simp_all) (by unfold tellsB; simp_all) rfl
  refine ⟨fun hc3 => ?_, fun hc3n => ?_⟩
  · show GG _ _ _ _ _ _ _ _ _ _ _ _ _
    have hk := hc3
    refine g_aload_0 hX (dk DX12_tellsAct 20 rfl) ?_
    refine g_bipush (v := 60) hX (dk DX12_tellsAct 21 rfl) (by decide) ?_
    refine g_c2V hX sX12_tellsAct_61 (by decide) (Nat.le_of_ble_eq_true rfl) (rc0 rfl (MLt hM (by decide)) (MC hM)) (by decide) (by decide) (c_X12_body hG hM hr (by omega)) ?_
    have hA := Ag.keep hA (body1_fr _ 60) (by decide) (by decide)
    have hr := body1_ran _ 60 hr
    refine g_aload_0 hX (dk DX12_tellsAct 23 rfl) ?_
    refine g_iload_1 hX (dk DX12_tellsAct 24 rfl) ?_
    refine g_iload_2 hX (dk DX12_tellsAct 25 rfl) ?_
    refine g_iload_1 hX (dk DX12_tellsAct 26 rfl) ?_
    refine g_isub hX (dk DX12_tellsAct 27 rfl) ?_
    refine g_c3I hX sX12_tellsAct_69 (by decide) (Nat.le_of_ble_eq_true rfl) (rc0 rfl (MLt hM (by decide)) (MC hM)) (by decide) (by decide) (c_X12_knowingTells hG hM hA hd hr (by omega)) ?_
    refine g_ireturn hX (dk DX12_tellsAct 29 rfl) rfl (rfl) (by decide) (by decide) ?_
    exact rI_of (by unfold tellsV; rw [hk]; rfl) (by unfold tellsB; rw [hk]; rfl) rfl
  refine ⟨fun hc4 => ?_, fun hc4n => ?_⟩
  · show GG _ _ _ _ _ _ _ _ _ _ _ _ _
    have hk := hc4
    refine g_aload_0 hX (dk DX12_tellsAct 5 rfl) ?_
    refine g_bipush (v := 40) hX (dk DX12_tellsAct 6 rfl) (by decide) ?_
    refine g_c2V hX sX12_tellsAct_39 (by decide) (Nat.le_of_ble_eq_true rfl) (rc0 rfl (MLt hM (by decide)) (MC hM)) (by decide) (by decide) (c_X12_body hG hM hr (by omega)) ?_
    have hA := Ag.keep hA (body1_fr _ 40) (by decide) (by decide)
    have hr := body1_ran _ 40 hr
    refine g_aload_0 hX (dk DX12_tellsAct 8 rfl) ?_
    refine g_iload_1 hX (dk DX12_tellsAct 9 rfl) ?_
    refine g_iload_2 hX (dk DX12_tellsAct 10 rfl) ?_
    refine g_c3I hX sX12_tellsAct_45 (by decide) (Nat.le_of_ble_eq_true rfl) (rc0 rfl (MLt hM (by decide)) (MC hM)) (by decide) (by decide) (c_X12_knowingTells hG hM hA hd hr (by omega)) ?_
    have hr := putB_ran (ktB E d) _ hr
    have hA := Ag.keep hA (putB_fr (ktB E d) _) (by decide) (by decide)
    refine g_istore_3 hX (dk DX12_tellsAct 12 rfl) (by decide) rfl ?_
    refine g_iload_3 hX (dk DX12_tellsAct 13 rfl) ?_
    refine g_aload_0 hX (dk DX12_tellsAct 14 rfl) ?_
    refine g_iload_1 hX (dk DX12_tellsAct 15 rfl) ?_
    refine g_iconst (v := 1) hX (dk DX12_tellsAct 16 rfl) (by decide) ?_
    refine g_c3I hX sX12_tellsAct_53 (by decide) (Nat.le_of_ble_eq_true rfl) (rc0 rfl (MLt hM (by decide)) (MC hM)) (by decide) (by decide) (c_X12_holdsAct hG hM hA hd hr (by omega)) ?_
    refine g_iadd hX (dk DX12_tellsAct 18 rfl) ?_
    refine g_ireturn hX (dk DX12_tellsAct 19 rfl) rfl (rfl) (by decide) (by decide) ?_
    exact rI_of (by unfold tellsV; rw [hk]; rfl) (by rw [putB_app]; unfold tellsB; rw [hk]; rfl) rfl
  show GG _ _ _ _ _ _ _ _ _ _ _ _ _
  refine g_aload_0 hX (dk DX12_tellsAct 30 rfl) ?_
  refine g_iload_1 hX (dk DX12_tellsAct 31 rfl) ?_
  refine g_iload_2 hX (dk DX12_tellsAct 32 rfl) ?_
  refine g_c3I hX sX12_tellsAct_76 (by decide) (Nat.le_of_ble_eq_true rfl) (rc0 rfl (MLt hM (by decide)) (MC hM)) (by decide) (by decide) (c_X12_knowingTells hG hM hA hd hr (by omega)) ?_
  refine g_ireturn hX (dk DX12_tellsAct 34 rfl) rfl (rfl) (by decide) (by decide) ?_
  exact rI_of (by unfold tellsV; simp_all) (by unfold tellsB; simp_all) rfl

