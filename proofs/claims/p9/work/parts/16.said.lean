set_option maxRecDepth 8000 in
set_option maxHeartbeats 4000000 in
theorem c_X12_saidAll {G : Gt} (hG : Gok G) {I : It} {h : Ht} (hM : HM h) {E : It} (hE : Inv E) {d f : Nat} (hf : f ≤ 4) (hd : d < cnt E) (hS : SY E I) : Con G (1) 0 0 mX12_saidAll [.ref 0, .int (nI d), .int (nI f)] I h (rI (allF E (I 8) d f) I h) := by
  refine con_intro (own := RX12) (lo0 := [some (.ref 0), some (.int (nI d)), some (.int (nI f)), none, none]) hG rfl pl_X12 (Nat.le_of_ble_eq_true rfl) rfl (fun X hX => ?_)
  have hc10 := (inv_cnt hE).2
  have loop5 : ∀ (k y : Nat) (z : Int32), y + k = 4 → allR E (I 8) d k y z = allF E (I 8) d f → GG G (1) 0 0 X (rI (allF E (I 8) d f) I h) 5 [some (.ref 0), some (.int (nI d)), some (.int (nI f)), some (.int z), some (.int (nI y))] [] (I) (h) 0 0 := by
    intro k
    induction k using Nat.strongRecOn with | _ k ih => ?_
    intro y z hk hv
    refine g_iload_4 hX (dk DX12_saidAll 4 rfl) ?_
    refine g_iconst (v := 4) hX (dk DX12_saidAll 5 rfl) (by decide) ?_
    refine g_icmp_ge (tgt := 39) hX (dk DX12_saidAll 6 rfl) (by decide) (fun hc1 => ?_) (fun hc1 => ?_)
    · refine g_iload_3 hX (dk DX12_saidAll 25 rfl) ?_
      refine g_ireturn hX (dk DX12_saidAll 26 rfl) rfl (rfl) (by decide) (by decide) ?_
      have hk0 := cl_end (e := 4) hk (by decide) hc1
      subst hk0
      exact rI_of hv rfl rfl
    · obtain ⟨k, rfl⟩ := cl_go (e := 4) hk (by decide) hc1
      have hy : y < 4 := by omega
      refine g_iload_3 hX (dk DX12_saidAll 7 rfl) ?_
      refine g_aload_0 hX (dk DX12_saidAll 8 rfl) ?_
      refine g_getRs (r := 8) hX (dk DX12_saidAll 9 rfl) KX12 fX12_53 (by decide) rfl (MLt hM (by decide)) (MC hM) (MR hM 14 (by decide) rfl) ?_
      refine g_iload_4 hX (dk DX12_saidAll 10 rfl) ?_
      refine i_iaload hX (dk DX12_saidAll 11 rfl) (MLt hM (q := 8) (by decide)) (MS hM 8 (by decide) rfl) (⟨rfl, hy, by decide⟩) ?_
      refine g_aload_0 hX (dk DX12_saidAll 12 rfl) ?_
      refine g_getRs (r := 19) hX (dk DX12_saidAll 13 rfl) KX12 fX12_111 (by decide) rfl (MLt hM (by decide)) (MC hM) (MR hM 33 (by decide) rfl) ?_
      refine g_iconst (v := 4) hX (dk DX12_saidAll 14 rfl) (by decide) ?_
      refine g_iload_1 hX (dk DX12_saidAll 15 rfl) ?_
      refine g_imul hX (dk DX12_saidAll 16 rfl) ?_
      refine g_iload_4 hX (dk DX12_saidAll 17 rfl) ?_
      refine g_iadd hX (dk DX12_saidAll 18 rfl) ?_
      refine v_iaload hX (dk DX12_saidAll 19 rfl) (MLt hM (q := 19) (by decide)) (MS hM 19 (by decide) rfl) (⟨by rw [show (4 : Int32) = nI 4 from rfl, pk_mul, nI_add], by omega, by decide⟩) (hS d hd y hy) ?_
      refine g_imul hX (dk DX12_saidAll 20 rfl) ?_
      refine g_iadd hX (dk DX12_saidAll 21 rfl) ?_
      refine g_istore_3 hX (dk DX12_saidAll 22 rfl) (by decide) rfl ?_
      refine g_iinc_4 hX (dk DX12_saidAll 23 rfl) (nI_1 y) (by decide) rfl ?_
      refine g_goto (tgt := 5) hX (dk DX12_saidAll 24 rfl) (by decide) ?_
      exact ih k (by omega) (y + 1) _ (by omega) (by rw [← hv, allR_s])
  refine g_iconst (v := 0) hX (dk DX12_saidAll 0 rfl) (by decide) ?_
  refine g_istore_3 hX (dk DX12_saidAll 1 rfl) (by decide) rfl ?_
  refine g_iload_2 hX (dk DX12_saidAll 2 rfl) ?_
  refine g_istore_4 hX (dk DX12_saidAll 3 rfl) (by decide) rfl ?_
  exact loop5 (4 - f) f 0 (by omega) rfl

set_option maxRecDepth 8000 in
set_option maxHeartbeats 4000000 in
theorem c_X12_saidOf {G : Gt} (hG : Gok G) {I : It} {h : Ht} (hM : HM h) {E : It} (hE : Inv E) (hA : Ag E I) {d : Nat} (hd : d < cnt E) (hS : SY E I) : Con G (2) 0 0 mX12_saidOf [.ref 0, .int (nI d)] I h (rI (saidF E (I 8) d) I h) := by
  refine con_intro (own := RX12) (lo0 := [some (.ref 0), some (.int (nI d)), none]) hG rfl pl_X12 (Nat.le_of_ble_eq_true rfl) rfl (fun X hX => ?_)
  have hc10 := (inv_cnt hE).2
  refine g_aload_0 hX (dk DX12_saidOf_0 0 rfl) ?_
  refine g_getRs (r := 2) hX (dk DX12_saidOf_0 1 rfl) KX12 fX12_35 (by decide) rfl (MLt hM (by decide)) (MC hM) (MR hM 8 (by decide) rfl) ?_
  refine g_iload_1 hX (dk DX12_saidOf_0 2 rfl) ?_
  refine v_iaload hX (dk DX12_saidOf_0 3 rfl) (MLt hM (q := 2) (by decide)) (MS hM 2 (by decide) rfl) (⟨rfl, by omega, by decide⟩) (congrFun (hA.2.1 2 (by decide)) d) ?_
  refine g_istore_2 hX (dk DX12_saidOf_0 4 rfl) (by decide) rfl ?_
  refine g_aload_0 hX (dk DX12_saidOf_0 5 rfl) ?_
  refine g_getRs (r := 1) hX (dk DX12_saidOf_0 6 rfl) KX12 fX12_31 (by decide) rfl (MLt hM (by decide)) (MC hM) (MR hM 7 (by decide) rfl) ?_
  refine g_iload_1 hX (dk DX12_saidOf_0 7 rfl) ?_
  refine v_iaload hX (dk DX12_saidOf_0 8 rfl) (MLt hM (q := 1) (by decide)) (MS hM 1 (by decide) rfl) (⟨rfl, by omega, by decide⟩) (congrFun (hA.2.1 1 (by decide)) d) ?_
  refine g_tswitch (dt := 166) hX [(1, 52), (2, 99), (3, 124), (4, 68), (5, 106), (6, 144)] (dk DX12_saidOf_0 9 rfl) (by decide +kernel) ?_
  refine ⟨fun hc1 => ?_, fun hc1n => ?_⟩
  · show GG _ _ _ _ _ _ _ _ _ _ _ _ _
    have hk := hc1
    refine g_aload_0 hX (dk DX12_saidOf_0 10 rfl) ?_
    refine g_iload_1 hX (dk DX12_saidOf_0 11 rfl) ?_
    refine g_iconst (v := 0) hX (dk DX12_saidOf_0 12 rfl) (by decide) ?_
    refine g_c3I hX sX12_saidOf_55 (by decide) (Nat.le_of_ble_eq_true rfl) (rc0 rfl (MLt hM (by decide)) (MC hM)) (by decide) (by decide) (c_X12_saidAll hG hM hE (f := 0) (by decide) hd hS) ?_
    refine g_iload_2 hX (dk DX12_saidOf_0 14 rfl) ?_
    refine g_aload_0 hX (dk DX12_saidOf_0 15 rfl) ?_
    refine g_getRs (r := 8) hX (dk DX12_saidOf_0 16 rfl) KX12 fX12_53 (by decide) rfl (MLt hM (by decide)) (MC hM) (MR hM 14 (by decide) rfl) ?_
    refine g_iconst (v := 0) hX (dk DX12_saidOf_0 17 rfl) (by decide) ?_
    refine i_iaload (j := 0) hX (dk DX12_saidOf_0 18 rfl) (MLt hM (q := 8) (by decide)) (MS hM 8 (by decide) rfl) (⟨rfl, by decide, by decide⟩) ?_
    refine g_imul hX (dk DX12_saidOf_0 19 rfl) ?_
    refine g_iadd hX (dk DX12_saidOf_0 20 rfl) ?_
    refine g_ireturn hX (dk DX12_saidOf_0 21 rfl) rfl (rfl) (by decide) (by decide) ?_
    exact rI_of (by unfold saidF; rw [hk]; rfl) rfl rfl
  refine ⟨fun hc2 => ?_, fun hc2n => ?_⟩
  · show GG _ _ _ _ _ _ _ _ _ _ _ _ _
    have hk := hc2
    refine g_aload_0 hX (dk DX12_saidOf_0 43 rfl) ?_
    refine g_iload_1 hX (dk DX12_saidOf_0 44 rfl) ?_
    refine g_iconst (v := 2) hX (dk DX12_saidOf_0 45 rfl) (by decide) ?_
    refine g_c3I hX sX12_saidOf_102 (by decide) (Nat.le_of_ble_eq_true rfl) (rc0 rfl (MLt hM (by decide)) (MC hM)) (by decide) (by decide) (c_X12_saidAll hG hM hE (f := 2) (by decide) hd hS) ?_
    refine g_ireturn hX (dk DX12_saidOf_0 47 rfl) rfl (rfl) (by decide) (by decide) ?_
    exact rI_of (by unfold saidF; rw [hk]; rfl) rfl rfl
  refine ⟨fun hc3 => ?_, fun hc3n => ?_⟩
  · show GG _ _ _ _ _ _ _ _ _ _ _ _ _
    have hk := hc3
    refine g_aload_0 hX (dk DX12_saidOf_1 2 rfl) ?_
    refine g_getRs (r := 8) hX (dk DX12_saidOf_1 3 rfl) KX12 fX12_53 (by decide) rfl (MLt hM (by decide)) (MC hM) (MR hM 14 (by decide) rfl) ?_
    refine g_iconst (v := 3) hX (dk DX12_saidOf_1 4 rfl) (by decide) ?_
    refine i_iaload (j := 3) hX (dk DX12_saidOf_1 5 rfl) (MLt hM (q := 8) (by decide)) (MS hM 8 (by decide) rfl) (⟨rfl, by decide, by decide⟩) ?_
    refine g_if_ne (tgt := 137) hX (dk DX12_saidOf_1 6 rfl) (by decide) (fun hc4 => ?_) (fun hc4 => ?_)
    · have hV : (if I 8 3 = 0 then 0 else allF E (I 8) d 0) = allF E (I 8) d 0 := if_neg hc4
      refine g_aload_0 hX (dk DX12_saidOf_1 9 rfl) ?_
      refine g_iload_1 hX (dk DX12_saidOf_1 10 rfl) ?_
      refine g_iconst (v := 0) hX (dk DX12_saidOf_1 11 rfl) (by decide) ?_
      refine g_c3I hX sX12_saidOf_140 (by decide) (Nat.le_of_ble_eq_true rfl) (rc0 rfl (MLt hM (by decide)) (MC hM)) (by decide) (by decide) (c_X12_saidAll hG hM hE (f := 0) (by decide) hd hS) ?_
      refine g_ireturn hX (dk DX12_saidOf_1 13 rfl) rfl (rfl) (by decide) (by decide) ?_
      exact rI_of (by unfold saidF; rw [hk, hV]; rfl) rfl rfl
    · have hV : (if I 8 3 = 0 then 0 else allF E (I 8) d 0) = 0 := if_pos hc4
      refine g_iconst (v := 0) hX (dk DX12_saidOf_1 7 rfl) (by decide) ?_
      refine g_goto (tgt := 143) hX (dk DX12_saidOf_1 8 rfl) (by decide) ?_
      refine g_ireturn hX (dk DX12_saidOf_1 13 rfl) rfl (rfl) (by decide) (by decide) ?_
      exact rI_of (by unfold saidF; rw [hk, hV]; rfl) rfl rfl
  refine ⟨fun hc5 => ?_, fun hc5n => ?_⟩
  · show GG _ _ _ _ _ _ _ _ _ _ _ _ _
    have hk := hc5
    refine g_aload_0 hX (dk DX12_saidOf_0 22 rfl) ?_
    refine g_iload_1 hX (dk DX12_saidOf_0 23 rfl) ?_
    refine g_iconst (v := 0) hX (dk DX12_saidOf_0 24 rfl) (by decide) ?_
    refine g_c3I hX sX12_saidOf_71 (by decide) (Nat.le_of_ble_eq_true rfl) (rc0 rfl (MLt hM (by decide)) (MC hM)) (by decide) (by decide) (c_X12_saidAll hG hM hE (f := 0) (by decide) hd hS) ?_
    refine g_iload_2 hX (dk DX12_saidOf_0 26 rfl) ?_
    refine g_aload_0 hX (dk DX12_saidOf_0 27 rfl) ?_
    refine g_getRs (r := 8) hX (dk DX12_saidOf_0 28 rfl) KX12 fX12_53 (by decide) rfl (MLt hM (by decide)) (MC hM) (MR hM 14 (by decide) rfl) ?_
    refine g_iconst (v := 0) hX (dk DX12_saidOf_0 29 rfl) (by decide) ?_
    refine i_iaload (j := 0) hX (dk DX12_saidOf_0 30 rfl) (MLt hM (q := 8) (by decide)) (MS hM 8 (by decide) rfl) (⟨rfl, by decide, by decide⟩) ?_
    refine g_imul hX (dk DX12_saidOf_0 31 rfl) ?_
    refine g_iadd hX (dk DX12_saidOf_0 32 rfl) ?_
    refine g_aload_0 hX (dk DX12_saidOf_0 33 rfl) ?_
    refine g_getRs (r := 8) hX (dk DX12_saidOf_0 34 rfl) KX12 fX12_53 (by decide) rfl (MLt hM (by decide)) (MC hM) (MR hM 14 (by decide) rfl) ?_
    refine g_iconst (v := 2) hX (dk DX12_saidOf_0 35 rfl) (by decide) ?_
    refine i_iaload (j := 2) hX (dk DX12_saidOf_0 36 rfl) (MLt hM (q := 8) (by decide)) (MS hM 8 (by decide) rfl) (⟨rfl, by decide, by decide⟩) ?_
    refine g_if_le (tgt := 96) hX (dk DX12_saidOf_0 37 rfl) (by decide) (fun hc6 => ?_) (fun hc6 => ?_)
    · have hV : (if 0 < I 8 2 then E 2 d else 0) = 0 := if_neg (Int32.not_lt.mpr hc6)
      refine g_iconst (v := 0) hX (dk DX12_saidOf_0 40 rfl) (by decide) ?_
      refine g_iadd hX (dk DX12_saidOf_0 41 rfl) ?_
      refine g_ireturn hX (dk DX12_saidOf_0 42 rfl) rfl (rfl) (by decide) (by decide) ?_
      exact rI_of (by unfold saidF; rw [hk, hV]; rfl) rfl rfl
    · have hV : (if 0 < I 8 2 then E 2 d else 0) = E 2 d := if_pos (Int32.not_le.mp hc6)
      refine g_iload_2 hX (dk DX12_saidOf_0 38 rfl) ?_
      refine g_goto (tgt := 97) hX (dk DX12_saidOf_0 39 rfl) (by decide) ?_
      refine g_iadd hX (dk DX12_saidOf_0 41 rfl) ?_
      refine g_ireturn hX (dk DX12_saidOf_0 42 rfl) rfl (rfl) (by decide) (by decide) ?_
      exact rI_of (by unfold saidF; rw [hk, hV]; rfl) rfl rfl
  refine ⟨fun hc7 => ?_, fun hc7n => ?_⟩
  · show GG _ _ _ _ _ _ _ _ _ _ _ _ _
    have hk := hc7
    refine g_aload_0 hX (dk DX12_saidOf_0 48 rfl) ?_
    refine g_iload_1 hX (dk DX12_saidOf_0 49 rfl) ?_
    refine g_iconst (v := 2) hX (dk DX12_saidOf_0 50 rfl) (by decide) ?_
    refine g_c3I hX sX12_saidOf_109 (by decide) (Nat.le_of_ble_eq_true rfl) (rc0 rfl (MLt hM (by decide)) (MC hM)) (by decide) (by decide) (c_X12_saidAll hG hM hE (f := 2) (by decide) hd hS) ?_
    refine g_iconst (v := 2) hX (dk DX12_saidOf_0 52 rfl) (by decide) ?_
    refine g_iload_2 hX (dk DX12_saidOf_0 53 rfl) ?_
    refine g_imul hX (dk DX12_saidOf_0 54 rfl) ?_
    refine g_aload_0 hX (dk DX12_saidOf_0 55 rfl) ?_
    refine g_getRs (r := 8) hX (dk DX12_saidOf_0 56 rfl) KX12 fX12_53 (by decide) rfl (MLt hM (by decide)) (MC hM) (MR hM 14 (by decide) rfl) ?_
    refine g_iconst (v := 1) hX (dk DX12_saidOf_0 57 rfl) (by decide) ?_
    refine i_iaload (j := 1) hX (dk DX12_saidOf_0 58 rfl) (MLt hM (q := 8) (by decide)) (MS hM 8 (by decide) rfl) (⟨rfl, by decide, by decide⟩) ?_
    refine g_imul hX (dk DX12_saidOf_0 59 rfl) ?_
    refine g_iadd hX (dk DX12_saidOf_1 0 rfl) ?_
    refine g_ireturn hX (dk DX12_saidOf_1 1 rfl) rfl (rfl) (by decide) (by decide) ?_
    exact rI_of (by unfold saidF; rw [hk]; rfl) rfl rfl
  refine ⟨fun hc8 => ?_, fun hc8n => ?_⟩
  · show GG _ _ _ _ _ _ _ _ _ _ _ _ _
    have hk := hc8
    refine g_aload_0 hX (dk DX12_saidOf_1 14 rfl) ?_
    refine g_getRs (r := 8) hX (dk DX12_saidOf_1 15 rfl) KX12 fX12_53 (by decide) rfl (MLt hM (by decide)) (MC hM) (MR hM 14 (by decide) rfl) ?_
    refine g_iconst (v := 3) hX (dk DX12_saidOf_1 16 rfl) (by decide) ?_
    refine i_iaload (j := 3) hX (dk DX12_saidOf_1 17 rfl) (MLt hM (q := 8) (by decide)) (MS hM 8 (by decide) rfl) (⟨rfl, by decide, by decide⟩) ?_
    refine g_if_ne (tgt := 157) hX (dk DX12_saidOf_1 18 rfl) (by decide) (fun hc9 => ?_) (fun hc9 => ?_)
    · have hV : (if I 8 3 = 0 then 0 else allF E (I 8) d 0) = allF E (I 8) d 0 := if_neg hc9
      refine g_aload_0 hX (dk DX12_saidOf_1 21 rfl) ?_
      refine g_iload_1 hX (dk DX12_saidOf_1 22 rfl) ?_
      refine g_iconst (v := 0) hX (dk DX12_saidOf_1 23 rfl) (by decide) ?_
      refine g_c3I hX sX12_saidOf_160 (by decide) (Nat.le_of_ble_eq_true rfl) (rc0 rfl (MLt hM (by decide)) (MC hM)) (by decide) (by decide) (c_X12_saidAll hG hM hE (f := 0) (by decide) hd hS) ?_
      refine g_iload_2 hX (dk DX12_saidOf_1 25 rfl) ?_
      refine g_isub hX (dk DX12_saidOf_1 26 rfl) ?_
      refine g_ireturn hX (dk DX12_saidOf_1 27 rfl) rfl (rfl) (by decide) (by decide) ?_
      exact rI_of (by unfold saidF; rw [hk, hV]; rfl) rfl rfl
    · have hV : (if I 8 3 = 0 then 0 else allF E (I 8) d 0) = 0 := if_pos hc9
      refine g_iconst (v := 0) hX (dk DX12_saidOf_1 19 rfl) (by decide) ?_
      refine g_goto (tgt := 163) hX (dk DX12_saidOf_1 20 rfl) (by decide) ?_
      refine g_iload_2 hX (dk DX12_saidOf_1 25 rfl) ?_
      refine g_isub hX (dk DX12_saidOf_1 26 rfl) ?_
      refine g_ireturn hX (dk DX12_saidOf_1 27 rfl) rfl (rfl) (by decide) (by decide) ?_
      exact rI_of (by unfold saidF; rw [hk, hV]; rfl) rfl rfl
  show GG _ _ _ _ _ _ _ _ _ _ _ _ _
  refine g_aload_0 hX (dk DX12_saidOf_1 28 rfl) ?_
  refine g_iload_1 hX (dk DX12_saidOf_1 29 rfl) ?_
  refine g_iconst (v := 0) hX (dk DX12_saidOf_1 30 rfl) (by decide) ?_
  refine g_c3I hX sX12_saidOf_169 (by decide) (Nat.le_of_ble_eq_true rfl) (rc0 rfl (MLt hM (by decide)) (MC hM)) (by decide) (by decide) (c_X12_saidAll hG hM hE (f := 0) (by decide) hd hS) ?_
  refine g_ireturn hX (dk DX12_saidOf_1 32 rfl) rfl (rfl) (by decide) (by decide) ?_
  exact rI_of (by unfold saidF; simp_all) rfl rfl

set_option maxRecDepth 8000 in
set_option maxHeartbeats 4000000 in
theorem c_X12_over {G : Gt} (hG : Gok G) {I : It} {h : Ht} (hM : HM h) {E : It} (hE : Inv E) (hA : Ag E I) (hS : SY E I) : Con G (3) 0 0 mX12_over [.ref 0] I h (rI (overF E (I 8)) I h) := by
  refine con_intro (own := RX12) (lo0 := [some (.ref 0), none, none]) hG rfl pl_X12 (Nat.le_of_ble_eq_true rfl) rfl (fun X hX => ?_)
  have hc10 := inv_cnt hE
  have loop4 : ∀ (k i : Nat) (z : Int32), i + k = cnt E → overR E (I 8) k i z = overF E (I 8) → GG G (3) 0 0 X (rI (overF E (I 8)) I h) 4 [some (.ref 0), some (.int z), some (.int (nI i))] [] (I) (h) 0 0 := by
    intro k
    induction k using Nat.strongRecOn with | _ k ih => ?_
    intro i z hk hv
    refine g_iload_2 hX (dk DX12_over 4 rfl) ?_
    refine g_aload_0 hX (dk DX12_over 5 rfl) ?_
    refine g_getIv hX (dk DX12_over 6 rfl) KX12 fX12_7 (by decide) rfl (MLt hM (by decide)) (MC hM) (hA.1.1.trans hc10.1) ?_
    refine g_icmp_ge (tgt := 42) hX (dk DX12_over 7 rfl) (by decide) (fun hc1 => ?_) (fun hc1 => ?_)
    · refine g_iload_1 hX (dk DX12_over 26 rfl) ?_
      refine g_ireturn hX (dk DX12_over 27 rfl) rfl (rfl) (by decide) (by decide) ?_
      have hk0 := cl_end hk (by omega) hc1
      subst hk0
      exact rI_of hv rfl rfl
    · obtain ⟨k, rfl⟩ := cl_go hk (by omega) hc1
      have hi : i < cnt E := by omega
      refine g_iload_1 hX (dk DX12_over 8 rfl) ?_
      refine g_aload_0 hX (dk DX12_over 9 rfl) ?_
      refine g_iload_2 hX (dk DX12_over 10 rfl) ?_
      refine g_c2I hX sX12_over_15 (by decide) (Nat.le_of_ble_eq_true rfl) (rc0 rfl (MLt hM (by decide)) (MC hM)) (by decide) (by decide) (c_X12_saidOf hG hM hE hA hi hS) ?_
      refine g_aload_0 hX (dk DX12_over 12 rfl) ?_
      refine g_getRs (r := 6) hX (dk DX12_over 13 rfl) KX12 fX12_47 (by decide) rfl (MLt hM (by decide)) (MC hM) (MR hM 12 (by decide) rfl) ?_
      refine g_iload_2 hX (dk DX12_over 14 rfl) ?_
      refine v_iaload hX (dk DX12_over 15 rfl) (MLt hM (q := 6) (by decide)) (MS hM 6 (by decide) rfl) (⟨rfl, by omega, by decide⟩) (congrFun (hA.2.1 6 (by decide)) i) ?_
      refine g_icmp_lt (tgt := 33) hX (dk DX12_over 16 rfl) (by decide) (fun hc2 => ?_) (fun hc2 => ?_)
      · have hV : (if E 6 i ≤ saidF E (I 8) i then bitI (nI i) else 0) = 0 := if_neg (Int32.not_le.mpr hc2)
        refine g_iconst (v := 0) hX (dk DX12_over 21 rfl) (by decide) ?_
        refine g_ior hX (dk DX12_over 22 rfl) ?_
        refine g_istore_1 hX (dk DX12_over 23 rfl) (by decide) rfl ?_
        refine g_iinc_2 hX (dk DX12_over 24 rfl) (nI_1 i) (by decide) rfl ?_
        refine g_goto (tgt := 4) hX (dk DX12_over 25 rfl) (by decide) ?_
        exact ih k (by omega) (i + 1) _ (by omega) (by rw [← hv, overR_s, hV]; first | done | rfl)
      · have hV : (if E 6 i ≤ saidF E (I 8) i then bitI (nI i) else 0) = bitI (nI i) := if_pos (Int32.not_lt.mp hc2)
        refine g_iconst (v := 1) hX (dk DX12_over 17 rfl) (by decide) ?_
        refine g_iload_2 hX (dk DX12_over 18 rfl) ?_
        refine g_ishl hX (dk DX12_over 19 rfl) ?_
        refine g_goto (tgt := 34) hX (dk DX12_over 20 rfl) (by decide) ?_
        refine g_ior hX (dk DX12_over 22 rfl) ?_
        refine g_istore_1 hX (dk DX12_over 23 rfl) (by decide) rfl ?_
        refine g_iinc_2 hX (dk DX12_over 24 rfl) (nI_1 i) (by decide) rfl ?_
        refine g_goto (tgt := 4) hX (dk DX12_over 25 rfl) (by decide) ?_
        exact ih k (by omega) (i + 1) _ (by omega) (by rw [← hv, overR_s, hV]; first | done | rfl)
  refine g_iconst (v := 0) hX (dk DX12_over 0 rfl) (by decide) ?_
  refine g_istore_1 hX (dk DX12_over 1 rfl) (by decide) rfl ?_
  refine g_iconst (v := 0) hX (dk DX12_over 2 rfl) (by decide) ?_
  refine g_istore_2 hX (dk DX12_over 3 rfl) (by decide) rfl ?_
  exact loop4 (cnt E) 0 0 (Nat.zero_add _) rfl

set_option maxRecDepth 8000 in
set_option maxHeartbeats 4000000 in
theorem c_X12_costHanded {G : Gt} (hG : Gok G) {I : It} {h : Ht} (hM : HM h) {E : It} (hE : Inv E) (hA : Ag E I) {m : Nat} (hm : m ≤ 200) (hS : SY E I) : Con G (8) 0 0 mX12_costHanded [.ref 0, .int (nI m)] I h (qF (costF E (I 0 5 ||| overF E (I 8)) (I 0 6) m) [34, 35, 36, 37, 38, 39, 40] [18, 20] I h) := by
  refine con_intro (own := RX12) (lo0 := [some (.ref 0), some (.int (nI m))]) hG rfl pl_X12 (Nat.le_of_ble_eq_true rfl) rfl (fun X hX => ?_)
  refine g_aload_0 hX (dk DX12_costHanded 0 rfl) ?_
  refine g_aload_0 hX (dk DX12_costHanded 1 rfl) ?_
  refine g_getI hX (dk DX12_costHanded 2 rfl) KX12 fX12_25 (by decide) rfl (MLt hM (by decide)) (MC hM) ?_
  refine g_aload_0 hX (dk DX12_costHanded 3 rfl) ?_
  refine g_c1I hX sX12_costHanded_6 (by decide) (Nat.le_of_ble_eq_true rfl) (rc0 rfl (MLt hM (by decide)) (MC hM)) (by decide) (by decide) (c_X12_over hG hM hE hA hS) ?_
  refine g_ior hX (dk DX12_costHanded 5 rfl) ?_
  refine g_aload_0 hX (dk DX12_costHanded 6 rfl) ?_
  refine g_getI hX (dk DX12_costHanded 7 rfl) KX12 fX12_28 (by decide) rfl (MLt hM (by decide)) (MC hM) ?_
  refine g_iload_1 hX (dk DX12_costHanded 8 rfl) ?_
  refine g_c4q hX sX12_costHanded_15 (by decide) (Nat.le_of_ble_eq_true rfl) (rc0 rfl (MLt hM (by decide)) (MC hM)) (by decide) (by decide) (c_X12_costBy hG hM hE hA hm) ?_
  rintro _ J2 _ ⟨rfl, hfr2, rfl⟩
  refine g_ireturn hX (dk DX12_costHanded 10 rfl) rfl (rfl) (by decide) (by decide) ?_
  exact qF_of rfl hfr2

set_option maxRecDepth 8000 in
set_option maxHeartbeats 4000000 in
theorem c_X12_ones {G : Gt} (hG : Gok G) {I : It} {h : Ht}  {m : Nat} (hm : m < 1024) : Con G (1) 0 0 mX12_ones [.ref 0, .int (nI m)] I h (rI (nI (onesN m)) I h) := by
  refine con_intro (own := RX12) (lo0 := [some (.ref 0), some (.int (nI m)), none, none]) hG rfl pl_X12 (Nat.le_of_ble_eq_true rfl) rfl (fun X hX => ?_)
  have loop4 : ∀ (l c : Nat), l < 1024 → c + onesN l = onesN m → GG G (1) 0 0 X (rI (nI (onesN m)) I h) 4 [some (.ref 0), some (.int (nI m)), some (.int (nI c)), some (.int (nI l))] [] (I) (h) 0 0 := by
    intro l
    induction l using Nat.strongRecOn with | _ l ih => ?_
    intro c hl hv
    refine g_iload_3 hX (dk DX12_ones 4 rfl) ?_
    refine g_if_eq (tgt := 20) hX (dk DX12_ones 5 rfl) (by decide) (fun hc1 => ?_) (fun hc1 => ?_)
    · refine g_iload_2 hX (dk DX12_ones 14 rfl) ?_
      refine g_ireturn hX (dk DX12_ones 15 rfl) rfl (rfl) (by decide) (by decide) ?_
      have hl0 : l = 0 := (nI_eq (b := 0) (by omega) (by decide)).mp hc1
      subst hl0
      exact rI_of (by rw [← hv]; rfl) rfl rfl
    · have hl0 : l ≠ 0 := fun e => hc1 (by rw [e]; rfl)
      have hs := on_step l hl hl0
      refine g_iinc_2 hX (dk DX12_ones 6 rfl) (nI_1 c) (by decide) rfl ?_
      refine g_iload_3 hX (dk DX12_ones 7 rfl) ?_
      refine g_iload_3 hX (dk DX12_ones 8 rfl) ?_
      refine g_iconst (v := 1) hX (dk DX12_ones 9 rfl) (by decide) ?_
      refine g_isub hX (dk DX12_ones 10 rfl) ?_
      refine g_iand hX (dk DX12_ones 11 rfl) ?_
      refine g_nmI (nI (l &&& (l - 1))) hs.1 ?_
      refine g_istore_3 hX (dk DX12_ones 12 rfl) (by decide) rfl ?_
      refine g_goto (tgt := 4) hX (dk DX12_ones 13 rfl) (by decide) ?_
      exact ih (l &&& (l - 1)) hs.2.1 (c + 1) (by omega) (by omega)
  refine g_iconst (v := 0) hX (dk DX12_ones 0 rfl) (by decide) ?_
  refine g_istore_2 hX (dk DX12_ones 1 rfl) (by decide) rfl ?_
  refine g_iload_1 hX (dk DX12_ones 2 rfl) ?_
  refine g_istore_3 hX (dk DX12_ones 3 rfl) (by decide) rfl ?_
  exact loop4 m 0 hm (Nat.zero_add _)

set_option maxRecDepth 8000 in
set_option maxHeartbeats 4000000 in
theorem c_X12_keepHours {G : Gt} (hG : Gok G) {I : It} {h : Ht} (hM : HM h)  : Con G (1) 0 0 mX12_keepHours [.ref 0] I h (qV (fun I' h' => (∀ y, y < 4 → I' 21 y = I 8 y) ∧ (∀ y, 4 ≤ y → I' 21 y = I 21 y) ∧ Fr [] [21] I I' ∧ h' = h)) := by
  refine con_intro (own := RX12) (lo0 := [some (.ref 0), none]) hG rfl pl_X12 (Nat.le_of_ble_eq_true rfl) rfl (fun X hX => ?_)
  have loop2 : ∀ (k y : Nat) (J : It), y + k = 4 → (∀ a, a < y → J 21 a = I 8 a) → (∀ a, y ≤ a → J 21 a = I 21 a) → Fr [] [21] I J → GG G (1) 0 0 X (qV (fun I' h' => (∀ y, y < 4 → I' 21 y = I 8 y) ∧ (∀ y, 4 ≤ y → I' 21 y = I 21 y) ∧ Fr [] [21] I I' ∧ h' = h)) 2 [some (.ref 0), some (.int (nI y))] [] (J) (h) 0 0 := by
    intro k
    induction k using Nat.strongRecOn with | _ k ih => ?_
    intro y J hk h1 h2 hfr
    refine g_iload_1 hX (dk DX12_keepHours 2 rfl) ?_
    refine g_iconst (v := 4) hX (dk DX12_keepHours 3 rfl) (by decide) ?_
    refine g_icmp_ge (tgt := 25) hX (dk DX12_keepHours 4 rfl) (by decide) (fun hc1 => ?_) (fun hc1 => ?_)
    · refine g_return hX (dk DX12_keepHours 15 rfl) rfl (by decide) (by decide) ?_
      have hk0 := cl_end (e := 4) hk (by decide) hc1
      subst hk0
      exact qV_of ⟨fun a ha => h1 a (by omega), fun a ha => h2 a (by omega), hfr, rfl⟩
    · obtain ⟨k, rfl⟩ := cl_go (e := 4) hk (by decide) hc1
      refine g_aload_0 hX (dk DX12_keepHours 5 rfl) ?_
      refine g_getRs (r := 21) hX (dk DX12_keepHours 6 rfl) KX12 fX12_138 (by decide) rfl (MLt hM (by decide)) (MC hM) (MR hM 42 (by decide) rfl) ?_
      refine g_iload_1 hX (dk DX12_keepHours 7 rfl) ?_
      refine g_aload_0 hX (dk DX12_keepHours 8 rfl) ?_
      refine g_getRs (r := 8) hX (dk DX12_keepHours 9 rfl) KX12 fX12_53 (by decide) rfl (MLt hM (by decide)) (MC hM) (MR hM 14 (by decide) rfl) ?_
      refine g_iload_1 hX (dk DX12_keepHours 10 rfl) ?_
      refine i_iaload hX (dk DX12_keepHours 11 rfl) (MLt hM (q := 8) (by decide)) (MS hM 8 (by decide) rfl) (⟨rfl, by omega, by decide⟩) ?_
      refine i_iastore hX (dk DX12_keepHours 12 rfl) (MLt hM (q := 21) (by decide)) (MS hM 21 (by decide) rfl) (⟨rfl, by omega, by decide⟩) ?_
      refine g_gen (fun J2 hJ2 => ?_)
      have e8 : J 8 y = I 8 y := congrFun (hfr.2 8 (by decide) (by decide)) y
      refine g_iinc_1 hX (dk DX12_keepHours 13 rfl) (nI_1 y) (by decide) rfl ?_
      refine g_goto (tgt := 2) hX (dk DX12_keepHours 14 rfl) (by decide) ?_
      exact ih k (by omega) (y + 1) J2 (by omega) (fun a ha => by
        rw [hJ2]
        by_cases e : a = y
        · subst e; rw [up0]; exact e8
        · rw [upn (by omega)]; exact h1 a (by omega)) (fun a ha => by rw [hJ2, upn (by omega)]; exact h2 a (by omega)) (by rw [hJ2]; exact hfr.pc (by decide) (by decide))
  refine g_iconst (v := 0) hX (dk DX12_keepHours 0 rfl) (by decide) ?_
  refine g_istore_1 hX (dk DX12_keepHours 1 rfl) (by decide) rfl ?_
  exact loop2 4 0 I rfl (fun y hy => absurd hy (Nat.not_lt_zero y)) (fun y _ => rfl) Fr.rf

set_option maxRecDepth 8000 in
set_option maxHeartbeats 4000000 in
theorem c_X12_putHours {G : Gt} (hG : Gok G) {I : It} {h : Ht} (hM : HM h)  : Con G (1) 0 0 mX12_putHours [.ref 0] I h (qV (fun I' h' => (∀ y, y < 4 → I' 8 y = I 21 y) ∧ (∀ y, 4 ≤ y → I' 8 y = I 8 y) ∧ Fr [] [8] I I' ∧ h' = h)) := by
  refine con_intro (own := RX12) (lo0 := [some (.ref 0), none]) hG rfl pl_X12 (Nat.le_of_ble_eq_true rfl) rfl (fun X hX => ?_)
  have loop2 : ∀ (k y : Nat) (J : It), y + k = 4 → (∀ a, a < y → J 8 a = I 21 a) → (∀ a, y ≤ a → J 8 a = I 8 a) → Fr [] [8] I J → GG G (1) 0 0 X (qV (fun I' h' => (∀ y, y < 4 → I' 8 y = I 21 y) ∧ (∀ y, 4 ≤ y → I' 8 y = I 8 y) ∧ Fr [] [8] I I' ∧ h' = h)) 2 [some (.ref 0), some (.int (nI y))] [] (J) (h) 0 0 := by
    intro k
    induction k using Nat.strongRecOn with | _ k ih => ?_
    intro y J hk h1 h2 hfr
    refine g_iload_1 hX (dk DX12_putHours 2 rfl) ?_
    refine g_iconst (v := 4) hX (dk DX12_putHours 3 rfl) (by decide) ?_
    refine g_icmp_ge (tgt := 25) hX (dk DX12_putHours 4 rfl) (by decide) (fun hc1 => ?_) (fun hc1 => ?_)
    · refine g_return hX (dk DX12_putHours 15 rfl) rfl (by decide) (by decide) ?_
      have hk0 := cl_end (e := 4) hk (by decide) hc1
      subst hk0
      exact qV_of ⟨fun a ha => h1 a (by omega), fun a ha => h2 a (by omega), hfr, rfl⟩
    · obtain ⟨k, rfl⟩ := cl_go (e := 4) hk (by decide) hc1
      refine g_aload_0 hX (dk DX12_putHours 5 rfl) ?_
      refine g_getRs (r := 8) hX (dk DX12_putHours 6 rfl) KX12 fX12_53 (by decide) rfl (MLt hM (by decide)) (MC hM) (MR hM 14 (by decide) rfl) ?_
      refine g_iload_1 hX (dk DX12_putHours 7 rfl) ?_
      refine g_aload_0 hX (dk DX12_putHours 8 rfl) ?_
      refine g_getRs (r := 21) hX (dk DX12_putHours 9 rfl) KX12 fX12_138 (by decide) rfl (MLt hM (by decide)) (MC hM) (MR hM 42 (by decide) rfl) ?_
      refine g_iload_1 hX (dk DX12_putHours 10 rfl) ?_
      refine i_iaload hX (dk DX12_putHours 11 rfl) (MLt hM (q := 21) (by decide)) (MS hM 21 (by decide) rfl) (⟨rfl, by omega, by decide⟩) ?_
      refine i_iastore hX (dk DX12_putHours 12 rfl) (MLt hM (q := 8) (by decide)) (MS hM 8 (by decide) rfl) (⟨rfl, by omega, by decide⟩) ?_
      refine g_gen (fun J2 hJ2 => ?_)
      have e8 : J 21 y = I 21 y := congrFun (hfr.2 21 (by decide) (by decide)) y
      refine g_iinc_1 hX (dk DX12_putHours 13 rfl) (nI_1 y) (by decide) rfl ?_
      refine g_goto (tgt := 2) hX (dk DX12_putHours 14 rfl) (by decide) ?_
      exact ih k (by omega) (y + 1) J2 (by omega) (fun a ha => by
        rw [hJ2]
        by_cases e : a = y
        · subst e; rw [up0]; exact e8
        · rw [upn (by omega)]; exact h1 a (by omega)) (fun a ha => by rw [hJ2, upn (by omega)]; exact h2 a (by omega)) (by rw [hJ2]; exact hfr.pc (by decide) (by decide))
  refine g_iconst (v := 0) hX (dk DX12_putHours 0 rfl) (by decide) ?_
  refine g_istore_1 hX (dk DX12_putHours 1 rfl) (by decide) rfl ?_
  exact loop2 4 0 I rfl (fun y hy => absurd hy (Nat.not_lt_zero y)) (fun y _ => rfl) Fr.rf

