set_option maxRecDepth 8000 in
set_option maxHeartbeats 4000000 in
theorem c_X12_judge {G : Gt} (hG : Gok G) {I : It} {h : Ht} (hM : HM h) {E : It} (hE : Inv E) (hR : RM E I) {L : Nat → Int64} (hl : hL h 38 = L) {a e : Int32} : Con G (3) 0 0 mX12_judge [.ref 0, .int a, .int e] I h (qS (judgeS E L a e) L) := by
  refine con_intro (own := RX12) (lo0 := [some (.ref 0), some (.int a), some (.int e), none]) hG rfl pl_X12 (Nat.le_of_ble_eq_true rfl) rfl (fun X hX => ?_)
  have loop34 : ∀ t, t ≤ 5 → a = nI t → judgeS E L a e = (jdR E L t e (cnt E) 0, E) → ∀ (k i : Nat), i + k = cnt E → jdR E L t e k i = jdR E L t e (cnt E) 0 → GG G (3) 0 0 X (qS (judgeS E L a e) L) 34 [some (.ref 0), some (.int (nI t)), some (.int e), some (.int (nI i))] [] (I) (h) 0 0 := by
    intro t ht ha hst k
    subst ha
    have hc10 := inv_cnt hE
    induction k using Nat.strongRecOn with | _ k ih => ?_
    intro i hk hv
    refine g_iload_3 hX (dk DX12_judge_0 21 rfl) ?_
    refine g_aload_0 hX (dk DX12_judge_0 22 rfl) ?_
    refine g_getIv hX (dk DX12_judge_0 23 rfl) KX12 fX12_7 (by decide) rfl (MLt hM (by decide)) (MC hM) ((RM.f hR 0 (by decide) (by decide)).trans hc10.1) ?_
    refine g_icmp_ge (tgt := 116) hX (dk DX12_judge_0 24 rfl) (by decide) (fun hc1 => ?_) (fun hc1 => ?_)
    · refine g_bipush (v := -5) hX (dk DX12_judge_1 11 rfl) (by decide) ?_
      refine g_ireturn hX (dk DX12_judge_1 12 rfl) rfl (rfl) (by decide) (by decide) ?_
      have hk0 := cl_end hk (by omega) hc1
      subst hk0
      exact qS_of hM hl (by rw [hst, ← hv]; rfl) hR
    · obtain ⟨k, rfl⟩ := cl_go hk (by omega) hc1
      have hi : i < cnt E := by omega
      refine g_aload_0 hX (dk DX12_judge_0 25 rfl) ?_
      refine g_getRs (r := 36) hX (dk DX12_judge_0 26 rfl) KX12 fX12_220 (by decide) rfl (MLt hM (by decide)) (MC hM) (MR hM 69 (by decide) rfl) ?_
      refine g_iload_1 hX (dk DX12_judge_0 27 rfl) ?_
      refine v_iaload hX (dk DX12_judge_0 28 rfl) (MLt hM (q := 36) (by decide)) (MS hM 36 (by decide) rfl) (⟨rfl, by omega, by decide⟩) (RM.c1 hR 36 _ (by decide) (by decide)) ?_
      refine g_if_lt (tgt := 69) hX (dk DX12_judge_0 29 rfl) (by decide) (fun hc2 => ?_) (fun hc2 => ?_)
      · refine g_bipush (v := 100) hX (dk DX12_judge_0 42 rfl) (by decide) ?_
        refine g_iload_3 hX (dk DX12_judge_0 43 rfl) ?_
        refine g_iadd hX (dk DX12_judge_0 44 rfl) ?_
        refine g_ireturn hX (dk DX12_judge_0 45 rfl) rfl (rfl) (by decide) (by decide) ?_
        exact qS_of hM hl (by rw [hst, ← hv, jdR_s]; (try first | rw [if_pos hc1] | rw [if_neg hc1] | rw [if_neg (not_not_intro hc1)]); (try first | rw [if_pos hc2] | rw [if_neg hc2] | rw [if_neg (not_not_intro hc2)]); first | done | rfl) hR
      · have hs0 := hc2
        refine g_iload_2 hX (dk DX12_judge_0 30 rfl) ?_
        refine g_if_lt (tgt := 69) hX (dk DX12_judge_0 31 rfl) (by decide) (fun hc3 => ?_) (fun hc3 => ?_)
        · refine g_bipush (v := 100) hX (dk DX12_judge_0 42 rfl) (by decide) ?_
          refine g_iload_3 hX (dk DX12_judge_0 43 rfl) ?_
          refine g_iadd hX (dk DX12_judge_0 44 rfl) ?_
          refine g_ireturn hX (dk DX12_judge_0 45 rfl) rfl (rfl) (by decide) (by decide) ?_
          exact qS_of hM hl (by rw [hst, ← hv, jdR_s]; (try first | rw [if_pos hc1] | rw [if_neg hc1] | rw [if_neg (not_not_intro hc1)]); (try first | rw [if_pos hc2] | rw [if_neg hc2] | rw [if_neg (not_not_intro hc2)]); (try first | rw [if_pos hc3] | rw [if_neg hc3] | rw [if_neg (not_not_intro hc3)]); first | done | rfl) hR
        · have he0 := hc3
          refine g_iload_2 hX (dk DX12_judge_0 32 rfl) ?_
          refine g_aload_0 hX (dk DX12_judge_0 33 rfl) ?_
          refine g_getRs (r := 37) hX (dk DX12_judge_0 34 rfl) KX12 fX12_223 (by decide) rfl (MLt hM (by decide)) (MC hM) (MR hM 70 (by decide) rfl) ?_
          refine g_iload_1 hX (dk DX12_judge_0 35 rfl) ?_
          refine v_iaload hX (dk DX12_judge_0 36 rfl) (MLt hM (q := 37) (by decide)) (MS hM 37 (by decide) rfl) (⟨rfl, by omega, by decide⟩) (RM.c1 hR 37 _ (by decide) (by decide)) ?_
          refine g_iload_3 hX (dk DX12_judge_0 37 rfl) ?_
          refine g_isub hX (dk DX12_judge_0 38 rfl) ?_
          refine g_iconst (v := 1) hX (dk DX12_judge_0 39 rfl) (by decide) ?_
          refine g_isub hX (dk DX12_judge_0 40 rfl) ?_
          refine g_icmp_le (tgt := 74) hX (dk DX12_judge_0 41 rfl) (by decide) (fun hc4 => ?_) (fun hc4 => ?_)
          · have hle := hc4
            obtain ⟨l, hl60, el⟩ := inv_tp hE (by omega) hs0
            obtain ⟨q, hq, rfl⟩ := nI_of he0
            have hql := jd_le (i := i) (q := q) hl60 (by omega) hq (by rw [el] at hle; exact hle)
            have hrx : idx ((60 : Int32) * nI t + nI q + nI i) (60 * t + q + i) 360 := ⟨by rw [show (60 : Int32) = nI 60 from rfl, pk_mul, nI_add, nI_add], by omega, by decide⟩
            refine g_aload_0 hX (dk DX12_judge_0 46 rfl) ?_
            refine g_getRs (r := 38) hX (dk DX12_judge_0 47 rfl) KX12 fX12_226 (by decide) rfl (MLt hM (by decide)) (MC hM) (MR hM 71 (by decide) rfl) ?_
            refine g_bipush (v := 60) hX (dk DX12_judge_0 48 rfl) (by decide) ?_
            refine g_iload_1 hX (dk DX12_judge_0 49 rfl) ?_
            refine g_imul hX (dk DX12_judge_0 50 rfl) ?_
            refine g_iload_2 hX (dk DX12_judge_0 51 rfl) ?_
            refine g_iadd hX (dk DX12_judge_0 52 rfl) ?_
            refine g_iload_3 hX (dk DX12_judge_0 53 rfl) ?_
            refine g_iadd hX (dk DX12_judge_0 54 rfl) ?_
            refine v_laload hX (dk DX12_judge_0 55 rfl) (MLt hM (q := 38) (by decide)) (MS hM 38 (by decide) rfl) (hrx) (congrFun hl _) ?_
            refine g_aload_0 hX (dk DX12_judge_0 56 rfl) ?_
            refine g_aload_0 hX (dk DX12_judge_0 57 rfl) ?_
            refine g_getIv hX (dk DX12_judge_0 58 rfl) KX12 fX12_25 (by decide) rfl (MLt hM (by decide)) (MC hM) (RM.f hR 5 (by decide) (by decide)) ?_
            refine g_iload_3 hX (dk DX12_judge_0 59 rfl) ?_
            refine g_c3I hX sX12_judge_93 (by decide) (Nat.le_of_ble_eq_true rfl) (rc0 rfl (MLt hM (by decide)) (MC hM)) (by decide) (by decide) (c_X12_has hG ) ?_
            refine g_ifb_eq (tgt := 103) hX (dk DX12_judge_1 1 rfl) (by decide) (fun hc5 => ?_) (fun hc5 => ?_)
            · have hbit : (if hasI (E 0 5) (nI i) = 1 then (1 : Int64) else 0) = 0 := if_neg hc5
              refine g_lconst (v := 0) hX (dk DX12_judge_1 4 rfl) (by decide) ?_
              refine g_lcmp hX (dk DX12_judge_1 5 rfl) ?_
              refine g_if_eq (tgt := 110) hX (dk DX12_judge_1 6 rfl) (by decide) (fun hc6 => ?_) (fun hc6 => ?_)
              · have hs2 : jdR E L t (nI q) (k + 1) i = jdR E L t (nI q) k (i + 1) := by rw [jdR_s, if_neg hs0, if_neg he0, if_neg (not_not_intro hle), tN_nI hq, hbit, if_pos ((lg_eq _ _).mp hc6)]
                refine g_iinc_3 hX (dk DX12_judge_1 9 rfl) (nI_1 i) (by decide) rfl ?_
                refine g_goto (tgt := 34) hX (dk DX12_judge_1 10 rfl) (by decide) ?_
                exact ih k (by omega) (i + 1) (by omega) (by rw [← hv, hs2])
              · have hs2 : jdR E L t (nI q) (k + 1) i = nI i := by rw [jdR_s, if_neg hs0, if_neg he0, if_neg (not_not_intro hle), tN_nI hq, hbit, if_neg (fun z => hc6 ((lg_eq _ _).mpr z))]
                refine g_iload_3 hX (dk DX12_judge_1 7 rfl) ?_
                refine g_ireturn hX (dk DX12_judge_1 8 rfl) rfl (rfl) (by decide) (by decide) ?_
                exact qS_of hM hl (by rw [hst, ← hv, hs2]) hR
            · have hbit : (if hasI (E 0 5) (nI i) = 1 then (1 : Int64) else 0) = 1 := if_pos hc5
              refine g_lconst (v := 1) hX (dk DX12_judge_1 2 rfl) (by decide) ?_
              refine g_goto (tgt := 104) hX (dk DX12_judge_1 3 rfl) (by decide) ?_
              refine g_lcmp hX (dk DX12_judge_1 5 rfl) ?_
              refine g_if_eq (tgt := 110) hX (dk DX12_judge_1 6 rfl) (by decide) (fun hc7 => ?_) (fun hc7 => ?_)
              · have hs2 : jdR E L t (nI q) (k + 1) i = jdR E L t (nI q) k (i + 1) := by rw [jdR_s, if_neg hs0, if_neg he0, if_neg (not_not_intro hle), tN_nI hq, hbit, if_pos ((lg_eq _ _).mp hc7)]
                refine g_iinc_3 hX (dk DX12_judge_1 9 rfl) (nI_1 i) (by decide) rfl ?_
                refine g_goto (tgt := 34) hX (dk DX12_judge_1 10 rfl) (by decide) ?_
                exact ih k (by omega) (i + 1) (by omega) (by rw [← hv, hs2])
              · have hs2 : jdR E L t (nI q) (k + 1) i = nI i := by rw [jdR_s, if_neg hs0, if_neg he0, if_neg (not_not_intro hle), tN_nI hq, hbit, if_neg (fun z => hc7 ((lg_eq _ _).mpr z))]
                refine g_iload_3 hX (dk DX12_judge_1 7 rfl) ?_
                refine g_ireturn hX (dk DX12_judge_1 8 rfl) rfl (rfl) (by decide) (by decide) ?_
                exact qS_of hM hl (by rw [hst, ← hv, hs2]) hR
          · refine g_bipush (v := 100) hX (dk DX12_judge_0 42 rfl) (by decide) ?_
            refine g_iload_3 hX (dk DX12_judge_0 43 rfl) ?_
            refine g_iadd hX (dk DX12_judge_0 44 rfl) ?_
            refine g_ireturn hX (dk DX12_judge_0 45 rfl) rfl (rfl) (by decide) (by decide) ?_
            exact qS_of hM hl (by rw [hst, ← hv, jdR_s]; (try first | rw [if_pos hc1] | rw [if_neg hc1] | rw [if_neg (not_not_intro hc1)]); (try first | rw [if_pos hc2] | rw [if_neg hc2] | rw [if_neg (not_not_intro hc2)]); (try first | rw [if_pos hc3] | rw [if_neg hc3] | rw [if_neg (not_not_intro hc3)]); (try first | rw [if_pos hc4] | rw [if_neg hc4] | rw [if_neg (not_not_intro hc4)]); first | done | rfl) hR
  refine g_aload_0 hX (dk DX12_judge_0 0 rfl) ?_
  refine g_iload_1 hX (dk DX12_judge_0 1 rfl) ?_
  refine g_c2I hX sX12_judge_2 (by decide) (Nat.le_of_ble_eq_true rfl) (rc0 rfl (MLt hM (by decide)) (MC hM)) (by decide) (by decide) (c_X12_isTape hG hM) ?_
  refine g_ifb_ne (tgt := 10) hX (dk DX12_judge_0 3 rfl) (by decide) (fun hc1 => ?_) (fun hc1 => ?_)
  · obtain ⟨t, ht, rfl⟩ := in_of (b := 5) (by decide) hc1
    refine g_aload_0 hX (dk DX12_judge_0 6 rfl) ?_
    refine g_getRs (r := 36) hX (dk DX12_judge_0 7 rfl) KX12 fX12_220 (by decide) rfl (MLt hM (by decide)) (MC hM) (MR hM 69 (by decide) rfl) ?_
    refine g_iload_1 hX (dk DX12_judge_0 8 rfl) ?_
    refine v_iaload hX (dk DX12_judge_0 9 rfl) (MLt hM (q := 36) (by decide)) (MS hM 36 (by decide) rfl) (⟨rfl, by omega, by decide⟩) (RM.c1 hR 36 _ (by decide) (by decide)) ?_
    refine g_if_lt (tgt := 32) hX (dk DX12_judge_0 10 rfl) (by decide) (fun hc2 => ?_) (fun hc2 => ?_)
    · have hst : judgeS E L (nI t) e = (jdR E L t e (cnt E) 0, E) := by unfold judgeS; rw [tN_nI (by omega)]; (try first | rw [if_pos hc1] | rw [if_neg hc1] | rw [if_neg (not_not_intro hc1)]); (try first | rw [if_pos hc2] | rw [if_neg hc2] | rw [if_neg (not_not_intro hc2)]); first | done | rfl
      refine g_iconst (v := 0) hX (dk DX12_judge_0 19 rfl) (by decide) ?_
      refine g_istore_3 hX (dk DX12_judge_0 20 rfl) (by decide) rfl ?_
      exact loop34 t ht rfl hst (cnt E) 0 (Nat.zero_add _) rfl
    · refine g_aload_0 hX (dk DX12_judge_0 11 rfl) ?_
      refine g_getRs (r := 36) hX (dk DX12_judge_0 12 rfl) KX12 fX12_220 (by decide) rfl (MLt hM (by decide)) (MC hM) (MR hM 69 (by decide) rfl) ?_
      refine g_iload_1 hX (dk DX12_judge_0 13 rfl) ?_
      refine v_iaload hX (dk DX12_judge_0 14 rfl) (MLt hM (q := 36) (by decide)) (MS hM 36 (by decide) rfl) (⟨rfl, by omega, by decide⟩) (RM.c1 hR 36 _ (by decide) (by decide)) ?_
      refine g_iconst (v := 4) hX (dk DX12_judge_0 15 rfl) (by decide) ?_
      refine g_icmp_eq (tgt := 32) hX (dk DX12_judge_0 16 rfl) (by decide) (fun hc3 => ?_) (fun hc3 => ?_)
      · have hst : judgeS E L (nI t) e = (jdR E L t e (cnt E) 0, E) := by unfold judgeS; rw [tN_nI (by omega)]; (try first | rw [if_pos hc1] | rw [if_neg hc1] | rw [if_neg (not_not_intro hc1)]); (try first | rw [if_pos hc2] | rw [if_neg hc2] | rw [if_neg (not_not_intro hc2)]); (try first | rw [if_pos hc3] | rw [if_neg hc3] | rw [if_neg (not_not_intro hc3)]); first | done | rfl
        refine g_iconst (v := 0) hX (dk DX12_judge_0 19 rfl) (by decide) ?_
        refine g_istore_3 hX (dk DX12_judge_0 20 rfl) (by decide) rfl ?_
        exact loop34 t ht rfl hst (cnt E) 0 (Nat.zero_add _) rfl
      · refine g_bipush (v := -12) hX (dk DX12_judge_0 17 rfl) (by decide) ?_
        refine g_ireturn hX (dk DX12_judge_0 18 rfl) rfl (rfl) (by decide) (by decide) ?_
        exact qS_of hM hl (by unfold judgeS; (try rw [tN_nI (by omega)]); (try first | rw [if_pos hc1] | rw [if_neg hc1] | rw [if_neg (not_not_intro hc1)]); (try first | rw [if_pos hc2] | rw [if_neg hc2] | rw [if_neg (not_not_intro hc2)]); (try first | rw [if_pos hc3] | rw [if_neg hc3] | rw [if_neg (not_not_intro hc3)]); first | done | rfl) hR
  · refine g_iconst (v := -1) hX (dk DX12_judge_0 4 rfl) (by decide) ?_
    refine g_ireturn hX (dk DX12_judge_0 5 rfl) rfl (rfl) (by decide) (by decide) ?_
    exact qS_of hM hl (by unfold judgeS; (try rw [tN_nI (by omega)]); (try first | rw [if_pos hc1] | rw [if_neg hc1] | rw [if_neg (not_not_intro hc1)]); first | done | rfl) hR

set_option maxRecDepth 8000 in
set_option maxHeartbeats 4000000 in
theorem c_X12_shift {G : Gt} (hG : Gok G) {I : It} {h : Ht} (hM : HM h) {E : It} (hE : Inv E) (hR : RM E I) {L : Nat → Int64} (hl : hL h 38 = L) {a b o j n : Int32} : Con G (3) 0 0 mX12_shift [.ref 0, .int a, .int b, .int o, .int j, .int n] I h (qS (shiftS E a b o j n, E) (shiftL E L a b o j n)) := by
  refine con_intro (own := RX12) (lo0 := [some (.ref 0), some (.int a), some (.int b), some (.int o), some (.int j), some (.int n), none]) hG rfl pl_X12 (Nat.le_of_ble_eq_true rfl) rfl (fun X hX => ?_)
  have loop141 : ∀ t u m p q, t ≤ 5 → u ≤ 5 → p + m ≤ 60 → q + m ≤ 60 → a = nI t → b = nI p → o = nI u → j = nI q → n = nI m → (shiftS E a b o j n = nI m ∧ shiftL E L a b o j n = fun z => if 60 * u + q ≤ z ∧ z < 60 * u + q + m then L (60 * t + p + (z - (60 * u + q))) else L z) → ∀ (k i : Nat) (h2 : Ht), i + k = m → HM h2 → (∀ z, hL h2 38 z = if 60 * u + q ≤ z ∧ z < 60 * u + q + i then L (60 * t + p + (z - (60 * u + q))) else L z) → (∀ z, z < m → hL h2 39 z = L (60 * t + p + z)) → GG G (3) 0 0 X (qS (shiftS E a b o j n, E) (shiftL E L a b o j n)) 141 [some (.ref 0), some (.int (nI t)), some (.int (nI p)), some (.int (nI u)), some (.int (nI q)), some (.int (nI m)), some (.int (nI i))] [] (I) (h2) 0 0 := by
    intro t u m p q ht hu g1 g2 e1 e2 e3 e4 e5 hst k
    subst e1 e2 e3 e4 e5
    induction k using Nat.strongRecOn with | _ k ih => ?_
    intro i h2 hk hM hz ha
    refine g_iload_6 hX (dk DX12_shift_1 20 rfl) ?_
    refine g_iload_5 hX (dk DX12_shift_1 21 rfl) ?_
    refine g_icmp_ge (tgt := 176) hX (dk DX12_shift_1 22 rfl) (by decide) (fun hc1 => ?_) (fun hc1 => ?_)
    · refine g_iload_5 hX (dk DX12_shift_1 39 rfl) ?_
      refine g_ireturn hX (dk DX12_shift_1 40 rfl) rfl (rfl) (by decide) (by decide) ?_
      have hk0 := cl_end hk (by omega) hc1
      subst hk0
      exact qS_of hM (by rw [hst.2]; funext z; rw [hz z, show i = m by omega]) (by rw [hst.1]) hR
    · obtain ⟨k, rfl⟩ := cl_go hk (by omega) hc1
      have hrx : idx ((60 : Int32) * nI u + nI q + nI i) (60 * u + q + i) 360 := ⟨by rw [show (60 : Int32) = nI 60 from rfl, pk_mul, nI_add, nI_add], by omega, by decide⟩
      refine g_aload_0 hX (dk DX12_shift_1 23 rfl) ?_
      refine g_getRs (r := 38) hX (dk DX12_shift_1 24 rfl) KX12 fX12_226 (by decide) rfl (MLt hM (by decide)) (MC hM) (MR hM 71 (by decide) rfl) ?_
      refine g_bipush (v := 60) hX (dk DX12_shift_1 25 rfl) (by decide) ?_
      refine g_iload_3 hX (dk DX12_shift_1 26 rfl) ?_
      refine g_imul hX (dk DX12_shift_1 27 rfl) ?_
      refine g_iload_4 hX (dk DX12_shift_1 28 rfl) ?_
      refine g_iadd hX (dk DX12_shift_1 29 rfl) ?_
      refine g_iload_6 hX (dk DX12_shift_1 30 rfl) ?_
      refine g_iadd hX (dk DX12_shift_1 31 rfl) ?_
      refine g_aload_0 hX (dk DX12_shift_1 32 rfl) ?_
      refine g_getRs (r := 39) hX (dk DX12_shift_1 33 rfl) KX12 fX12_230 (by decide) rfl (MLt hM (by decide)) (MC hM) (MR hM 72 (by decide) rfl) ?_
      refine g_iload_6 hX (dk DX12_shift_1 34 rfl) ?_
      refine v_laload hX (dk DX12_shift_1 35 rfl) (MLt hM (q := 39) (by decide)) (MS hM 39 (by decide) rfl) (⟨rfl, by omega, by decide⟩) (ha i (by omega)) ?_
      refine i_lastore hX (dk DX12_shift_1 36 rfl) (MLt hM (q := 38) (by decide)) (MS hM 38 (by decide) rfl) (hrx) ?_
      refine g_iinc_6 hX (dk DX12_shift_1 37 rfl) (nI_1 i) (by decide) rfl ?_
      refine g_goto (tgt := 141) hX (dk DX12_shift_1 38 rfl) (by decide) ?_
      exact ih k (by omega) (i + 1) _ (by omega) (HMw hM) (fun z => by
        rw [show hL (wL h2 38 (60 * u + q + i) (L (60 * t + p + i))) 38 = vp_updL (hL h2 38) (60 * u + q + i) (L (60 * t + p + i)) from upL_row _ _ _ _]
        by_cases e : z = 60 * u + q + i
        · subst e; rw [pk_uLs, if_pos (by omega)]; congr 1; omega
        · rw [pk_uLn e, hz z]
          by_cases e2 : 60 * u + q ≤ z ∧ z < 60 * u + q + i
          · rw [if_pos e2, if_pos (by omega)]
          · rw [if_neg e2, if_neg (by omega)]) (fun z hz2 => by
        rw [show hL (wL h2 38 (60 * u + q + i) (L (60 * t + p + i))) 39 = hL h2 39 from wL_off (by decide)]
        exact ha z hz2)
  have loop104 : ∀ t u m p q, t ≤ 5 → u ≤ 5 → p + m ≤ 60 → q + m ≤ 60 → a = nI t → b = nI p → o = nI u → j = nI q → n = nI m → (shiftS E a b o j n = nI m ∧ shiftL E L a b o j n = fun z => if 60 * u + q ≤ z ∧ z < 60 * u + q + m then L (60 * t + p + (z - (60 * u + q))) else L z) → ∀ (k i : Nat) (h2 : Ht), i + k = m → HM h2 → hL h2 38 = L → (∀ z, z < i → hL h2 39 z = L (60 * t + p + z)) → GG G (3) 0 0 X (qS (shiftS E a b o j n, E) (shiftL E L a b o j n)) 104 [some (.ref 0), some (.int (nI t)), some (.int (nI p)), some (.int (nI u)), some (.int (nI q)), some (.int (nI m)), some (.int (nI i))] [] (I) (h2) 0 0 := by
    intro t u m p q ht hu g1 g2 e1 e2 e3 e4 e5 hst k
    subst e1 e2 e3 e4 e5
    induction k using Nat.strongRecOn with | _ k ih => ?_
    intro i h2 hk hM hz ha
    refine g_iload_6 hX (dk DX12_shift_0 59 rfl) ?_
    refine g_iload_5 hX (dk DX12_shift_1 0 rfl) ?_
    refine g_icmp_ge (tgt := 138) hX (dk DX12_shift_1 1 rfl) (by decide) (fun hc1 => ?_) (fun hc1 => ?_)
    · refine g_iconst (v := 0) hX (dk DX12_shift_1 18 rfl) (by decide) ?_
      refine g_istore_6 hX (dk DX12_shift_1 19 rfl) (by decide) rfl ?_
      have hk0 := cl_end hk (by omega) hc1
      subst hk0
      exact loop141 t u m p q ht hu g1 g2 rfl rfl rfl rfl rfl hst m 0 h2 (Nat.zero_add _) hM (fun z => by rw [if_neg (by omega), hz]) (fun z hz2 => ha z (by omega))
    · obtain ⟨k, rfl⟩ := cl_go hk (by omega) hc1
      have hrx : idx ((60 : Int32) * nI t + nI p + nI i) (60 * t + p + i) 360 := ⟨by rw [show (60 : Int32) = nI 60 from rfl, pk_mul, nI_add, nI_add], by omega, by decide⟩
      refine g_aload_0 hX (dk DX12_shift_1 2 rfl) ?_
      refine g_getRs (r := 39) hX (dk DX12_shift_1 3 rfl) KX12 fX12_230 (by decide) rfl (MLt hM (by decide)) (MC hM) (MR hM 72 (by decide) rfl) ?_
      refine g_iload_6 hX (dk DX12_shift_1 4 rfl) ?_
      refine g_aload_0 hX (dk DX12_shift_1 5 rfl) ?_
      refine g_getRs (r := 38) hX (dk DX12_shift_1 6 rfl) KX12 fX12_226 (by decide) rfl (MLt hM (by decide)) (MC hM) (MR hM 71 (by decide) rfl) ?_
      refine g_bipush (v := 60) hX (dk DX12_shift_1 7 rfl) (by decide) ?_
      refine g_iload_1 hX (dk DX12_shift_1 8 rfl) ?_
      refine g_imul hX (dk DX12_shift_1 9 rfl) ?_
      refine g_iload_2 hX (dk DX12_shift_1 10 rfl) ?_
      refine g_iadd hX (dk DX12_shift_1 11 rfl) ?_
      refine g_iload_6 hX (dk DX12_shift_1 12 rfl) ?_
      refine g_iadd hX (dk DX12_shift_1 13 rfl) ?_
      refine v_laload hX (dk DX12_shift_1 14 rfl) (MLt hM (q := 38) (by decide)) (MS hM 38 (by decide) rfl) (hrx) (congrFun hz _) ?_
      refine i_lastore hX (dk DX12_shift_1 15 rfl) (MLt hM (q := 39) (by decide)) (MS hM 39 (by decide) rfl) (⟨rfl, by omega, by decide⟩) ?_
      refine g_iinc_6 hX (dk DX12_shift_1 16 rfl) (nI_1 i) (by decide) rfl ?_
      refine g_goto (tgt := 104) hX (dk DX12_shift_1 17 rfl) (by decide) ?_
      exact ih k (by omega) (i + 1) _ (by omega) (HMw hM) ((wL_off (by decide)).trans hz) (fun z hz2 => by
        rw [show hL (wL h2 39 i (L (60 * t + p + i))) 39 = vp_updL (hL h2 39) i (L (60 * t + p + i)) from upL_row _ _ _ _]
        by_cases e : z = i
        · subst e; rw [pk_uLs]
        · rw [pk_uLn e]; exact ha z (by omega))
  refine g_aload_0 hX (dk DX12_shift_0 0 rfl) ?_
  refine g_iload_1 hX (dk DX12_shift_0 1 rfl) ?_
  refine g_c2I hX sX12_shift_2 (by decide) (Nat.le_of_ble_eq_true rfl) (rc0 rfl (MLt hM (by decide)) (MC hM)) (by decide) (by decide) (c_X12_isTape hG hM) ?_
  refine g_ifb_eq (tgt := 16) hX (dk DX12_shift_0 3 rfl) (by decide) (fun hc1 => ?_) (fun hc1 => ?_)
  · refine g_iconst (v := -1) hX (dk DX12_shift_0 8 rfl) (by decide) ?_
    refine g_ireturn hX (dk DX12_shift_0 9 rfl) rfl (rfl) (by decide) (by decide) ?_
    exact qS_of hM (by unfold shiftL; (try first | rw [if_pos hc1] | rw [if_neg hc1] | rw [if_neg (not_not_intro hc1)]); exact hl) (by unfold shiftS; (try first | rw [if_pos hc1] | rw [if_neg hc1] | rw [if_neg (not_not_intro hc1)]); first | done | rfl) hR
  · obtain ⟨t, ht, rfl⟩ := in_of (b := 5) (by decide) hc1
    refine g_aload_0 hX (dk DX12_shift_0 4 rfl) ?_
    refine g_iload_3 hX (dk DX12_shift_0 5 rfl) ?_
    refine g_c2I hX sX12_shift_10 (by decide) (Nat.le_of_ble_eq_true rfl) (rc0 rfl (MLt hM (by decide)) (MC hM)) (by decide) (by decide) (c_X12_isTape hG hM) ?_
    refine g_ifb_ne (tgt := 18) hX (dk DX12_shift_0 7 rfl) (by decide) (fun hc2 => ?_) (fun hc2 => ?_)
    · obtain ⟨u, hu, rfl⟩ := in_of (b := 5) (by decide) hc2
      refine g_aload_0 hX (dk DX12_shift_0 10 rfl) ?_
      refine g_getRs (r := 36) hX (dk DX12_shift_0 11 rfl) KX12 fX12_220 (by decide) rfl (MLt hM (by decide)) (MC hM) (MR hM 69 (by decide) rfl) ?_
      refine g_iload_1 hX (dk DX12_shift_0 12 rfl) ?_
      refine v_iaload hX (dk DX12_shift_0 13 rfl) (MLt hM (q := 36) (by decide)) (MS hM 36 (by decide) rfl) (⟨rfl, by omega, by decide⟩) (RM.c1 hR 36 _ (by decide) (by decide)) ?_
      refine g_if_lt (tgt := 36) hX (dk DX12_shift_0 14 rfl) (by decide) (fun hc3 => ?_) (fun hc3 => ?_)
      · refine g_bipush (v := -11) hX (dk DX12_shift_0 20 rfl) (by decide) ?_
        refine g_ireturn hX (dk DX12_shift_0 21 rfl) rfl (rfl) (by decide) (by decide) ?_
        exact qS_of hM (by unfold shiftL; (try rw [tN_nI (by omega)]); (try rw [tN_nI (by omega)]); (try first | rw [if_pos hc1] | rw [if_neg hc1] | rw [if_neg (not_not_intro hc1)]); (try first | rw [if_pos hc2] | rw [if_neg hc2] | rw [if_neg (not_not_intro hc2)]); (try first | rw [if_pos hc3] | rw [if_neg hc3] | rw [if_neg (not_not_intro hc3)]); exact hl) (by unfold shiftS; (try rw [tN_nI (by omega)]); (try rw [tN_nI (by omega)]); (try first | rw [if_pos hc1] | rw [if_neg hc1] | rw [if_neg (not_not_intro hc1)]); (try first | rw [if_pos hc2] | rw [if_neg hc2] | rw [if_neg (not_not_intro hc2)]); (try first | rw [if_pos hc3] | rw [if_neg hc3] | rw [if_neg (not_not_intro hc3)]); first | done | rfl) hR
      · refine g_aload_0 hX (dk DX12_shift_0 15 rfl) ?_
        refine g_getRs (r := 36) hX (dk DX12_shift_0 16 rfl) KX12 fX12_220 (by decide) rfl (MLt hM (by decide)) (MC hM) (MR hM 69 (by decide) rfl) ?_
        refine g_iload_3 hX (dk DX12_shift_0 17 rfl) ?_
        refine v_iaload hX (dk DX12_shift_0 18 rfl) (MLt hM (q := 36) (by decide)) (MS hM 36 (by decide) rfl) (⟨rfl, by omega, by decide⟩) (RM.c1 hR 36 _ (by decide) (by decide)) ?_
        refine g_if_ge (tgt := 39) hX (dk DX12_shift_0 19 rfl) (by decide) (fun hc4 => ?_) (fun hc4 => ?_)
        · refine g_aload_0 hX (dk DX12_shift_0 22 rfl) ?_
          refine g_getRs (r := 36) hX (dk DX12_shift_0 23 rfl) KX12 fX12_220 (by decide) rfl (MLt hM (by decide)) (MC hM) (MR hM 69 (by decide) rfl) ?_
          refine g_iload_1 hX (dk DX12_shift_0 24 rfl) ?_
          refine v_iaload hX (dk DX12_shift_0 25 rfl) (MLt hM (q := 36) (by decide)) (MS hM 36 (by decide) rfl) (⟨rfl, by omega, by decide⟩) (RM.c1 hR 36 _ (by decide) (by decide)) ?_
          refine g_aload_0 hX (dk DX12_shift_0 26 rfl) ?_
          refine g_getRs (r := 36) hX (dk DX12_shift_0 27 rfl) KX12 fX12_220 (by decide) rfl (MLt hM (by decide)) (MC hM) (MR hM 69 (by decide) rfl) ?_
          refine g_iload_3 hX (dk DX12_shift_0 28 rfl) ?_
          refine v_iaload hX (dk DX12_shift_0 29 rfl) (MLt hM (q := 36) (by decide)) (MS hM 36 (by decide) rfl) (⟨rfl, by omega, by decide⟩) (RM.c1 hR 36 _ (by decide) (by decide)) ?_
          refine g_icmp_eq (tgt := 57) hX (dk DX12_shift_0 30 rfl) (by decide) (fun hc5 => ?_) (fun hc5 => ?_)
          · refine g_iload_5 hX (dk DX12_shift_0 33 rfl) ?_
            refine g_if_lt (tgt := 98) hX (dk DX12_shift_0 34 rfl) (by decide) (fun hc6 => ?_) (fun hc6 => ?_)
            · refine g_bipush (v := -13) hX (dk DX12_shift_0 55 rfl) (by decide) ?_
              refine g_ireturn hX (dk DX12_shift_0 56 rfl) rfl (rfl) (by decide) (by decide) ?_
              exact qS_of hM (by unfold shiftL; (try rw [tN_nI (by omega)]); (try rw [tN_nI (by omega)]); (try first | rw [if_pos hc1] | rw [if_neg hc1] | rw [if_neg (not_not_intro hc1)]); (try first | rw [if_pos hc2] | rw [if_neg hc2] | rw [if_neg (not_not_intro hc2)]); (try first | rw [if_pos hc3] | rw [if_neg hc3] | rw [if_neg (not_not_intro hc3)]); (try first | rw [if_pos hc4] | rw [if_neg hc4] | rw [if_neg (not_not_intro hc4)]); (try first | rw [if_pos hc5] | rw [if_neg hc5] | rw [if_neg (not_not_intro hc5)]); (try first | rw [if_pos hc6] | rw [if_neg hc6] | rw [if_neg (not_not_intro hc6)]); exact hl) (by unfold shiftS; (try rw [tN_nI (by omega)]); (try rw [tN_nI (by omega)]); (try first | rw [if_pos hc1] | rw [if_neg hc1] | rw [if_neg (not_not_intro hc1)]); (try first | rw [if_pos hc2] | rw [if_neg hc2] | rw [if_neg (not_not_intro hc2)]); (try first | rw [if_pos hc3] | rw [if_neg hc3] | rw [if_neg (not_not_intro hc3)]); (try first | rw [if_pos hc4] | rw [if_neg hc4] | rw [if_neg (not_not_intro hc4)]); (try first | rw [if_pos hc5] | rw [if_neg hc5] | rw [if_neg (not_not_intro hc5)]); (try first | rw [if_pos hc6] | rw [if_neg hc6] | rw [if_neg (not_not_intro hc6)]); first | done | rfl) hR
            · refine g_iload_2 hX (dk DX12_shift_0 35 rfl) ?_
              refine g_if_lt (tgt := 98) hX (dk DX12_shift_0 36 rfl) (by decide) (fun hc7 => ?_) (fun hc7 => ?_)
              · refine g_bipush (v := -13) hX (dk DX12_shift_0 55 rfl) (by decide) ?_
                refine g_ireturn hX (dk DX12_shift_0 56 rfl) rfl (rfl) (by decide) (by decide) ?_
                exact qS_of hM (by unfold shiftL; (try rw [tN_nI (by omega)]); (try rw [tN_nI (by omega)]); (try first | rw [if_pos hc1] | rw [if_neg hc1] | rw [if_neg (not_not_intro hc1)]); (try first | rw [if_pos hc2] | rw [if_neg hc2] | rw [if_neg (not_not_intro hc2)]); (try first | rw [if_pos hc3] | rw [if_neg hc3] | rw [if_neg (not_not_intro hc3)]); (try first | rw [if_pos hc4] | rw [if_neg hc4] | rw [if_neg (not_not_intro hc4)]); (try first | rw [if_pos hc5] | rw [if_neg hc5] | rw [if_neg (not_not_intro hc5)]); (try first | rw [if_pos hc6] | rw [if_neg hc6] | rw [if_neg (not_not_intro hc6)]); (try first | rw [if_pos hc7] | rw [if_neg hc7] | rw [if_neg (not_not_intro hc7)]); exact hl) (by unfold shiftS; (try rw [tN_nI (by omega)]); (try rw [tN_nI (by omega)]); (try first | rw [if_pos hc1] | rw [if_neg hc1] | rw [if_neg (not_not_intro hc1)]); (try first | rw [if_pos hc2] | rw [if_neg hc2] | rw [if_neg (not_not_intro hc2)]); (try first | rw [if_pos hc3] | rw [if_neg hc3] | rw [if_neg (not_not_intro hc3)]); (try first | rw [if_pos hc4] | rw [if_neg hc4] | rw [if_neg (not_not_intro hc4)]); (try first | rw [if_pos hc5] | rw [if_neg hc5] | rw [if_neg (not_not_intro hc5)]); (try first | rw [if_pos hc6] | rw [if_neg hc6] | rw [if_neg (not_not_intro hc6)]); (try first | rw [if_pos hc7] | rw [if_neg hc7] | rw [if_neg (not_not_intro hc7)]); first | done | rfl) hR
              · refine g_iload_4 hX (dk DX12_shift_0 37 rfl) ?_
                refine g_if_lt (tgt := 98) hX (dk DX12_shift_0 38 rfl) (by decide) (fun hc8 => ?_) (fun hc8 => ?_)
                · refine g_bipush (v := -13) hX (dk DX12_shift_0 55 rfl) (by decide) ?_
                  refine g_ireturn hX (dk DX12_shift_0 56 rfl) rfl (rfl) (by decide) (by decide) ?_
                  exact qS_of hM (by unfold shiftL; (try rw [tN_nI (by omega)]); (try rw [tN_nI (by omega)]); (try first | rw [if_pos hc1] | rw [if_neg hc1] | rw [if_neg (not_not_intro hc1)]); (try first | rw [if_pos hc2] | rw [if_neg hc2] | rw [if_neg (not_not_intro hc2)]); (try first | rw [if_pos hc3] | rw [if_neg hc3] | rw [if_neg (not_not_intro hc3)]); (try first | rw [if_pos hc4] | rw [if_neg hc4] | rw [if_neg (not_not_intro hc4)]); (try first | rw [if_pos hc5] | rw [if_neg hc5] | rw [if_neg (not_not_intro hc5)]); (try first | rw [if_pos hc6] | rw [if_neg hc6] | rw [if_neg (not_not_intro hc6)]); (try first | rw [if_pos hc7] | rw [if_neg hc7] | rw [if_neg (not_not_intro hc7)]); (try first | rw [if_pos hc8] | rw [if_neg hc8] | rw [if_neg (not_not_intro hc8)]); exact hl) (by unfold shiftS; (try rw [tN_nI (by omega)]); (try rw [tN_nI (by omega)]); (try first | rw [if_pos hc1] | rw [if_neg hc1] | rw [if_neg (not_not_intro hc1)]); (try first | rw [if_pos hc2] | rw [if_neg hc2] | rw [if_neg (not_not_intro hc2)]); (try first | rw [if_pos hc3] | rw [if_neg hc3] | rw [if_neg (not_not_intro hc3)]); (try first | rw [if_pos hc4] | rw [if_neg hc4] | rw [if_neg (not_not_intro hc4)]); (try first | rw [if_pos hc5] | rw [if_neg hc5] | rw [if_neg (not_not_intro hc5)]); (try first | rw [if_pos hc6] | rw [if_neg hc6] | rw [if_neg (not_not_intro hc6)]); (try first | rw [if_pos hc7] | rw [if_neg hc7] | rw [if_neg (not_not_intro hc7)]); (try first | rw [if_pos hc8] | rw [if_neg hc8] | rw [if_neg (not_not_intro hc8)]); first | done | rfl) hR
                · refine g_iload_2 hX (dk DX12_shift_0 39 rfl) ?_
                  refine g_aload_0 hX (dk DX12_shift_0 40 rfl) ?_
                  refine g_getRs (r := 37) hX (dk DX12_shift_0 41 rfl) KX12 fX12_223 (by decide) rfl (MLt hM (by decide)) (MC hM) (MR hM 70 (by decide) rfl) ?_
                  refine g_iload_1 hX (dk DX12_shift_0 42 rfl) ?_
                  refine v_iaload hX (dk DX12_shift_0 43 rfl) (MLt hM (q := 37) (by decide)) (MS hM 37 (by decide) rfl) (⟨rfl, by omega, by decide⟩) (RM.c1 hR 37 _ (by decide) (by decide)) ?_
                  refine g_iload_5 hX (dk DX12_shift_0 44 rfl) ?_
                  refine g_isub hX (dk DX12_shift_0 45 rfl) ?_
                  refine g_icmp_gt (tgt := 98) hX (dk DX12_shift_0 46 rfl) (by decide) (fun hc9 => ?_) (fun hc9 => ?_)
                  · refine g_bipush (v := -13) hX (dk DX12_shift_0 55 rfl) (by decide) ?_
                    refine g_ireturn hX (dk DX12_shift_0 56 rfl) rfl (rfl) (by decide) (by decide) ?_
                    exact qS_of hM (by unfold shiftL; (try rw [tN_nI (by omega)]); (try rw [tN_nI (by omega)]); (try first | rw [if_pos hc1] | rw [if_neg hc1] | rw [if_neg (not_not_intro hc1)]); (try first | rw [if_pos hc2] | rw [if_neg hc2] | rw [if_neg (not_not_intro hc2)]); (try first | rw [if_pos hc3] | rw [if_neg hc3] | rw [if_neg (not_not_intro hc3)]); (try first | rw [if_pos hc4] | rw [if_neg hc4] | rw [if_neg (not_not_intro hc4)]); (try first | rw [if_pos hc5] | rw [if_neg hc5] | rw [if_neg (not_not_intro hc5)]); (try first | rw [if_pos hc6] | rw [if_neg hc6] | rw [if_neg (not_not_intro hc6)]); (try first | rw [if_pos hc7] | rw [if_neg hc7] | rw [if_neg (not_not_intro hc7)]); (try first | rw [if_pos hc8] | rw [if_neg hc8] | rw [if_neg (not_not_intro hc8)]); (try first | rw [if_pos hc9] | rw [if_neg hc9] | rw [if_neg (not_not_intro hc9)]); exact hl) (by unfold shiftS; (try rw [tN_nI (by omega)]); (try rw [tN_nI (by omega)]); (try first | rw [if_pos hc1] | rw [if_neg hc1] | rw [if_neg (not_not_intro hc1)]); (try first | rw [if_pos hc2] | rw [if_neg hc2] | rw [if_neg (not_not_intro hc2)]); (try first | rw [if_pos hc3] | rw [if_neg hc3] | rw [if_neg (not_not_intro hc3)]); (try first | rw [if_pos hc4] | rw [if_neg hc4] | rw [if_neg (not_not_intro hc4)]); (try first | rw [if_pos hc5] | rw [if_neg hc5] | rw [if_neg (not_not_intro hc5)]); (try first | rw [if_pos hc6] | rw [if_neg hc6] | rw [if_neg (not_not_intro hc6)]); (try first | rw [if_pos hc7] | rw [if_neg hc7] | rw [if_neg (not_not_intro hc7)]); (try first | rw [if_pos hc8] | rw [if_neg hc8] | rw [if_neg (not_not_intro hc8)]); (try first | rw [if_pos hc9] | rw [if_neg hc9] | rw [if_neg (not_not_intro hc9)]); first | done | rfl) hR
                  · refine g_iload_4 hX (dk DX12_shift_0 47 rfl) ?_
                    refine g_aload_0 hX (dk DX12_shift_0 48 rfl) ?_
                    refine g_getRs (r := 37) hX (dk DX12_shift_0 49 rfl) KX12 fX12_223 (by decide) rfl (MLt hM (by decide)) (MC hM) (MR hM 70 (by decide) rfl) ?_
                    refine g_iload_3 hX (dk DX12_shift_0 50 rfl) ?_
                    refine v_iaload hX (dk DX12_shift_0 51 rfl) (MLt hM (q := 37) (by decide)) (MS hM 37 (by decide) rfl) (⟨rfl, by omega, by decide⟩) (RM.c1 hR 37 _ (by decide) (by decide)) ?_
                    refine g_iload_5 hX (dk DX12_shift_0 52 rfl) ?_
                    refine g_isub hX (dk DX12_shift_0 53 rfl) ?_
                    refine g_icmp_le (tgt := 101) hX (dk DX12_shift_0 54 rfl) (by decide) (fun hc10 => ?_) (fun hc10 => ?_)
                    · obtain ⟨l1, hl1, e1⟩ := inv_tp hE (t := t) (by omega) hc3
                      obtain ⟨l2, hl2, e2⟩ := inv_tp hE (t := u) (by omega) (Int32.not_lt.mpr hc4)
                      obtain ⟨m, hm, rfl⟩ := nI_of hc6
                      obtain ⟨p, hp, rfl⟩ := nI_of hc7
                      obtain ⟨q, hq, rfl⟩ := nI_of hc8
                      have g1 := sh_le (n := m) (i := p) hl1 hm hp (by rw [← e1]; exact Int32.not_lt.mp hc9)
                      have g2 := sh_le (n := m) (i := q) hl2 hm hq (by rw [← e2]; exact hc10)
                      have hst : shiftS E (nI t) (nI p) (nI u) (nI q) (nI m) = nI m ∧ shiftL E L (nI t) (nI p) (nI u) (nI q) (nI m) = fun z => if 60 * u + q ≤ z ∧ z < 60 * u + q + m then L (60 * t + p + (z - (60 * u + q))) else L z := by
                        refine ⟨?_, ?_⟩
                        · unfold shiftS; simp only [tN_nI (show t < 2 ^ 31 by omega), tN_nI (show u < 2 ^ 31 by omega)]; (try first | rw [if_pos hc1] | rw [if_neg hc1] | rw [if_neg (not_not_intro hc1)]); (try first | rw [if_pos hc2] | rw [if_neg hc2] | rw [if_neg (not_not_intro hc2)]); (try first | rw [if_pos hc3] | rw [if_neg hc3] | rw [if_neg (not_not_intro hc3)]); (try first | rw [if_pos hc4] | rw [if_neg hc4] | rw [if_neg (not_not_intro hc4)]); (try first | rw [if_pos hc5] | rw [if_neg hc5] | rw [if_neg (not_not_intro hc5)]); (try first | rw [if_pos hc6] | rw [if_neg hc6] | rw [if_neg (not_not_intro hc6)]); (try first | rw [if_pos hc7] | rw [if_neg hc7] | rw [if_neg (not_not_intro hc7)]); (try first | rw [if_pos hc8] | rw [if_neg hc8] | rw [if_neg (not_not_intro hc8)]); (try first | rw [if_pos hc9] | rw [if_neg hc9] | rw [if_neg (not_not_intro hc9)]); (try first | rw [if_pos hc10] | rw [if_neg hc10] | rw [if_neg (not_not_intro hc10)]); first | done | rfl
                        · unfold shiftL; simp only [tN_nI (show t < 2 ^ 31 by omega), tN_nI (show u < 2 ^ 31 by omega), tN_nI hm, tN_nI hp, tN_nI hq]; (try first | rw [if_pos hc1] | rw [if_neg hc1] | rw [if_neg (not_not_intro hc1)]); (try first | rw [if_pos hc2] | rw [if_neg hc2] | rw [if_neg (not_not_intro hc2)]); (try first | rw [if_pos hc3] | rw [if_neg hc3] | rw [if_neg (not_not_intro hc3)]); (try first | rw [if_pos hc4] | rw [if_neg hc4] | rw [if_neg (not_not_intro hc4)]); (try first | rw [if_pos hc5] | rw [if_neg hc5] | rw [if_neg (not_not_intro hc5)]); (try first | rw [if_pos hc6] | rw [if_neg hc6] | rw [if_neg (not_not_intro hc6)]); (try first | rw [if_pos hc7] | rw [if_neg hc7] | rw [if_neg (not_not_intro hc7)]); (try first | rw [if_pos hc8] | rw [if_neg hc8] | rw [if_neg (not_not_intro hc8)]); (try first | rw [if_pos hc9] | rw [if_neg hc9] | rw [if_neg (not_not_intro hc9)]); (try first | rw [if_pos hc10] | rw [if_neg hc10] | rw [if_neg (not_not_intro hc10)]); first | done | rfl
                      refine g_iconst (v := 0) hX (dk DX12_shift_0 57 rfl) (by decide) ?_
                      refine g_istore_6 hX (dk DX12_shift_0 58 rfl) (by decide) rfl ?_
                      exact loop104 t u m p q ht hu (by omega) (by omega) rfl rfl rfl rfl rfl hst m 0 h (Nat.zero_add _) hM hl (fun z hz => absurd hz (Nat.not_lt_zero z))
                    · refine g_bipush (v := -13) hX (dk DX12_shift_0 55 rfl) (by decide) ?_
                      refine g_ireturn hX (dk DX12_shift_0 56 rfl) rfl (rfl) (by decide) (by decide) ?_
                      exact qS_of hM (by unfold shiftL; (try rw [tN_nI (by omega)]); (try rw [tN_nI (by omega)]); (try first | rw [if_pos hc1] | rw [if_neg hc1] | rw [if_neg (not_not_intro hc1)]); (try first | rw [if_pos hc2] | rw [if_neg hc2] | rw [if_neg (not_not_intro hc2)]); (try first | rw [if_pos hc3] | rw [if_neg hc3] | rw [if_neg (not_not_intro hc3)]); (try first | rw [if_pos hc4] | rw [if_neg hc4] | rw [if_neg (not_not_intro hc4)]); (try first | rw [if_pos hc5] | rw [if_neg hc5] | rw [if_neg (not_not_intro hc5)]); (try first | rw [if_pos hc6] | rw [if_neg hc6] | rw [if_neg (not_not_intro hc6)]); (try first | rw [if_pos hc7] | rw [if_neg hc7] | rw [if_neg (not_not_intro hc7)]); (try first | rw [if_pos hc8] | rw [if_neg hc8] | rw [if_neg (not_not_intro hc8)]); (try first | rw [if_pos hc9] | rw [if_neg hc9] | rw [if_neg (not_not_intro hc9)]); (try first | rw [if_pos hc10] | rw [if_neg hc10] | rw [if_neg (not_not_intro hc10)]); exact hl) (by unfold shiftS; (try rw [tN_nI (by omega)]); (try rw [tN_nI (by omega)]); (try first | rw [if_pos hc1] | rw [if_neg hc1] | rw [if_neg (not_not_intro hc1)]); (try first | rw [if_pos hc2] | rw [if_neg hc2] | rw [if_neg (not_not_intro hc2)]); (try first | rw [if_pos hc3] | rw [if_neg hc3] | rw [if_neg (not_not_intro hc3)]); (try first | rw [if_pos hc4] | rw [if_neg hc4] | rw [if_neg (not_not_intro hc4)]); (try first | rw [if_pos hc5] | rw [if_neg hc5] | rw [if_neg (not_not_intro hc5)]); (try first | rw [if_pos hc6] | rw [if_neg hc6] | rw [if_neg (not_not_intro hc6)]); (try first | rw [if_pos hc7] | rw [if_neg hc7] | rw [if_neg (not_not_intro hc7)]); (try first | rw [if_pos hc8] | rw [if_neg hc8] | rw [if_neg (not_not_intro hc8)]); (try first | rw [if_pos hc9] | rw [if_neg hc9] | rw [if_neg (not_not_intro hc9)]); (try first | rw [if_pos hc10] | rw [if_neg hc10] | rw [if_neg (not_not_intro hc10)]); first | done | rfl) hR
          · refine g_bipush (v := -12) hX (dk DX12_shift_0 31 rfl) (by decide) ?_
            refine g_ireturn hX (dk DX12_shift_0 32 rfl) rfl (rfl) (by decide) (by decide) ?_
            exact qS_of hM (by unfold shiftL; (try rw [tN_nI (by omega)]); (try rw [tN_nI (by omega)]); (try first | rw [if_pos hc1] | rw [if_neg hc1] | rw [if_neg (not_not_intro hc1)]); (try first | rw [if_pos hc2] | rw [if_neg hc2] | rw [if_neg (not_not_intro hc2)]); (try first | rw [if_pos hc3] | rw [if_neg hc3] | rw [if_neg (not_not_intro hc3)]); (try first | rw [if_pos hc4] | rw [if_neg hc4] | rw [if_neg (not_not_intro hc4)]); (try first | rw [if_pos hc5] | rw [if_neg hc5] | rw [if_neg (not_not_intro hc5)]); exact hl) (by unfold shiftS; (try rw [tN_nI (by omega)]); (try rw [tN_nI (by omega)]); (try first | rw [if_pos hc1] | rw [if_neg hc1] | rw [if_neg (not_not_intro hc1)]); (try first | rw [if_pos hc2] | rw [if_neg hc2] | rw [if_neg (not_not_intro hc2)]); (try first | rw [if_pos hc3] | rw [if_neg hc3] | rw [if_neg (not_not_intro hc3)]); (try first | rw [if_pos hc4] | rw [if_neg hc4] | rw [if_neg (not_not_intro hc4)]); (try first | rw [if_pos hc5] | rw [if_neg hc5] | rw [if_neg (not_not_intro hc5)]); first | done | rfl) hR
        · refine g_bipush (v := -11) hX (dk DX12_shift_0 20 rfl) (by decide) ?_
          refine g_ireturn hX (dk DX12_shift_0 21 rfl) rfl (rfl) (by decide) (by decide) ?_
          exact qS_of hM (by unfold shiftL; (try rw [tN_nI (by omega)]); (try rw [tN_nI (by omega)]); (try first | rw [if_pos hc1] | rw [if_neg hc1] | rw [if_neg (not_not_intro hc1)]); (try first | rw [if_pos hc2] | rw [if_neg hc2] | rw [if_neg (not_not_intro hc2)]); (try first | rw [if_pos hc3] | rw [if_neg hc3] | rw [if_neg (not_not_intro hc3)]); (try first | rw [if_pos hc4] | rw [if_neg hc4] | rw [if_neg (not_not_intro hc4)]); exact hl) (by unfold shiftS; (try rw [tN_nI (by omega)]); (try rw [tN_nI (by omega)]); (try first | rw [if_pos hc1] | rw [if_neg hc1] | rw [if_neg (not_not_intro hc1)]); (try first | rw [if_pos hc2] | rw [if_neg hc2] | rw [if_neg (not_not_intro hc2)]); (try first | rw [if_pos hc3] | rw [if_neg hc3] | rw [if_neg (not_not_intro hc3)]); (try first | rw [if_pos hc4] | rw [if_neg hc4] | rw [if_neg (not_not_intro hc4)]); first | done | rfl) hR
    · refine g_iconst (v := -1) hX (dk DX12_shift_0 8 rfl) (by decide) ?_
      refine g_ireturn hX (dk DX12_shift_0 9 rfl) rfl (rfl) (by decide) (by decide) ?_
      exact qS_of hM (by unfold shiftL; (try first | rw [if_pos hc1] | rw [if_neg hc1] | rw [if_neg (not_not_intro hc1)]); (try first | rw [if_pos hc2] | rw [if_neg hc2] | rw [if_neg (not_not_intro hc2)]); exact hl) (by unfold shiftS; (try first | rw [if_pos hc1] | rw [if_neg hc1] | rw [if_neg (not_not_intro hc1)]); (try first | rw [if_pos hc2] | rw [if_neg hc2] | rw [if_neg (not_not_intro hc2)]); first | done | rfl) hR

